/-! ===== likeness ===== -/
def allB (p : Nat → Bool) : Nat → Nat → Bool
  | 0, _ => true
  | k + 1, i => p i && allB p k (i + 1)
def riP (S : St) (a b : Nat) : Nat → Bool := fun i => decide (S.2.1 10 (12 * a + i) = S.2.1 10 (12 * b + i))
def rlB (S : St) (a b : Nat) : Bool := decide (S.2.1 9 a = S.2.1 9 b) && allB (riP S a b) (sz S a) 0
def nuP (S : St) (a b : Nat) : Nat → Bool := fun p => !decide (S.2.1 17 (5 * shN S a + p) = 0) || decide (S.2.1 14 (5 * a + p) = S.2.1 14 (5 * b + p))
def reP (S : St) (L : Int32 → Int32 → Bool) (a b : Nat) : Nat → Bool := fun p => if S.2.1 17 (5 * shN S a + p) = 0 then decide (S.2.1 14 (5 * a + p) = S.2.1 14 (5 * b + p)) else L (S.2.1 14 (5 * a + p)) (S.2.1 14 (5 * b + p))
def reB (S : St) (L : Int32 → Int32 → Bool) (a b : Nat) : Bool := decide (S.2.1 12 a = S.2.1 12 b) && (decide (S.2.1 13 a = S.2.1 13 b) && allB (reP S L a b) (pN S a) 0)
def likeF (S : St) : Nat → Int32 → Int32 → Bool
  | 0, a, b => if a = b then true else if famF S a = famF S b ∧ 3 < famF S a then (if famF S a = 4 then rlB S (tN a - 100) (tN b - 100) else false) else false
  | k + 1, a, b => if a = b then true else if famF S a = famF S b ∧ 3 < famF S a then (if famF S a = 4 then rlB S (tN a - 100) (tN b - 100) else reB S (likeF S k) (rcN a) (rcN b)) else false
def F_like (S : St) (p q : Int32) : Int32 := if (inB p 0 9 && inB q 0 9) = true then bI (likeF S 5 (S.2.1 15 (tN p)) (S.2.1 15 (tN q))) else -1
/-- the same but for the scratch rows of likeness -/
def Sc (S S' : St) : Prop := (∀ j, j ≠ 30 → S'.1 j = S.1 j) ∧ (∀ j, j ≠ 31 → j ≠ 32 → j ≠ 33 → S'.2.1 j = S.2.1 j) ∧ S'.2.2 = S.2.2
theorem Sc.rf (S : St) : Sc S S := ⟨fun _ _ => rfl, fun _ _ _ _ => rfl, rfl⟩
theorem Sc.tr {S S' S'' : St} (h : Sc S S') (g : Sc S' S'') : Sc S S'' := ⟨fun j hj => (g.1 j hj).trans (h.1 j hj), fun j a b c => (g.2.1 j a b c).trans (h.2.1 j a b c), g.2.2.trans h.2.2⟩
theorem Sc.agr {S S' : St} (h : Sc S S') : Agr S S' := ⟨h.1 0 (by decide), h.1 8 (by decide), h.1 11 (by decide), h.2.2, fun j _ _ _ _ _ _ a b c => h.2.1 j a b c, fun d _ => ⟨by rw [h.2.1 12 (by decide) (by decide) (by decide)], by rw [h.2.1 13 (by decide) (by decide) (by decide)], fun p _ => by rw [h.2.1 14 (by decide) (by decide) (by decide)]⟩⟩
def puS (S : St) (n : Nat) (a b d : Int32) : St := (u1 S.1 30 (nI (n + 1)), u2 (u2 (u2 S.2.1 31 n a) 32 n b) 33 n d, S.2.2)
theorem pu_sc {S : St} {n : Nat} {a b d : Int32} : Sc S (puS S n a b d) := by
  refine ⟨fun j hj => u1_n hj, fun j h1 h2 h3 => ?_, rfl⟩
  funext x
  show u2 (u2 (u2 S.2.1 31 n a) 32 n b) 33 n d j x = _
  rw [u2_n (fun z => h3 z.1), u2_n (fun z => h2 z.1), u2_n (fun z => h1 z.1)]
/-- the stack of pairs, its top first -/
abbrev Pr : Type := Int32 × Int32 × Nat
def Stk (S : St) : List Pr → Prop
  | [] => True
  | q :: l => S.2.1 31 l.length = q.1 ∧ S.2.1 32 l.length = q.2.1 ∧ S.2.1 33 l.length = nI q.2.2 ∧ Stk S l
theorem Stk.pu {S : St} {a b : Int32} {d : Nat} : ∀ (l : List Pr) (n : Nat), l.length ≤ n → Stk S l → Stk (puS S n a b (nI d)) l := by
  intro l
  induction l with
  | nil => intro n _ _; trivial
  | cons q l ih =>
    intro n hn h
    have hl : l.length ≠ n := by simp at hn; omega
    refine ⟨?_, ?_, ?_, ih n (by simp at hn; omega) h.2.2.2⟩
    · show u2 S.2.1 31 n a 31 l.length = _
      rw [u2_n (fun z => hl z.2)]; exact h.1
    · show u2 S.2.1 32 n b 32 l.length = _
      rw [u2_n (fun z => hl z.2)]; exact h.2.1
    · show u2 S.2.1 33 n (nI d) 33 l.length = _
      rw [u2_n (fun z => hl z.2)]; exact h.2.2.1
theorem Stk.push {S : St} {a b : Int32} {d : Nat} {l : List Pr} (h : Stk S l) : Stk (puS S l.length a b (nI d)) ((a, b, d) :: l) :=
  ⟨show u2 S.2.1 31 l.length a 31 l.length = a from u2_s, show u2 S.2.1 32 l.length b 32 l.length = b from u2_s, show u2 S.2.1 33 l.length (nI d) 33 l.length = nI d from u2_s, h.pu l l.length (Nat.le_refl _)⟩
theorem Stk.same {S S' : St} (h1 : S'.2.1 31 = S.2.1 31) (h2 : S'.2.1 32 = S.2.1 32) (h3 : S'.2.1 33 = S.2.1 33) : ∀ l, Stk S l → Stk S' l := by
  intro l
  induction l with
  | nil => intro _; trivial
  | cons q l ih => intro h; exact ⟨by rw [h1]; exact h.1, by rw [h2]; exact h.2.1, by rw [h3]; exact h.2.2.1, ih h.2.2.2⟩
def opl (S : St) (a b d : Nat) : Nat → Nat → List Pr → List Pr
  | 0, _, l => l
  | k + 1, p, l => if S.2.1 17 (5 * shN S a + p) = 0 then opl S a b d k (p + 1) l else opl S a b d k (p + 1) ((S.2.1 14 (5 * a + p), S.2.1 14 (5 * b + p), d + 1) :: l)
def allL (S : St) (l : List Pr) : Bool := l.all (fun q => likeF S (5 - q.2.2) q.1 q.2.1)
theorem opl_all {S : St} {a b d : Nat} (hd : d < 5) : ∀ k p l, (allB (nuP S a b) k p && allL S (opl S a b d k p l)) = (allB (reP S (likeF S (4 - d)) a b) k p && allL S l) := by
  intro k
  induction k with
  | zero => intro p l; rfl
  | succ k ih =>
    intro p l
    rw [allB, allB, opl]
    by_cases h : S.2.1 17 (5 * shN S a + p) = 0
    · rw [if_pos h]
      have e : nuP S a b p = reP S (likeF S (4 - d)) a b p := by simp [nuP, reP, h]
      rw [e, Bool.and_assoc, ih, Bool.and_assoc]
    · rw [if_neg h]
      have e : nuP S a b p = true := by simp [nuP, h]
      have e2 : reP S (likeF S (4 - d)) a b p = likeF S (4 - d) (S.2.1 14 (5 * a + p)) (S.2.1 14 (5 * b + p)) := by simp [reP, h]
      rw [e, Bool.true_and, ih, e2]
      have e3 : allL S ((S.2.1 14 (5 * a + p), S.2.1 14 (5 * b + p), d + 1) :: l) = (likeF S (4 - d) (S.2.1 14 (5 * a + p)) (S.2.1 14 (5 * b + p)) && allL S l) := by
        unfold allL
        rw [List.all_cons, show 5 - (d + 1) = 4 - d by omega]
      rw [e3]
      cases likeF S (4 - d) (S.2.1 14 (5 * a + p)) (S.2.1 14 (5 * b + p)) <;> simp
def mu (l : List Pr) : Nat := (l.map (fun q => 6 ^ (5 - q.2.2))).sum
theorem opl_mu {S : St} {a b d : Nat} (hd : d < 5) : ∀ k p l, mu (opl S a b d k p l) ≤ mu l + k * 6 ^ (4 - d) := by
  intro k
  induction k with
  | zero => intro p l; simp [opl]
  | succ k ih =>
    intro p l
    rw [opl]
    split
    · have := ih (p + 1) l
      rw [show (k + 1) * 6 ^ (4 - d) = k * 6 ^ (4 - d) + 6 ^ (4 - d) from Nat.succ_mul _ _]
      exact Nat.le_trans this (by rw [← Nat.add_assoc]; exact Nat.le_add_right _ _)
    · have := ih (p + 1) ((S.2.1 14 (5 * a + p), S.2.1 14 (5 * b + p), d + 1) :: l)
      have e : mu ((S.2.1 14 (5 * a + p), S.2.1 14 (5 * b + p), d + 1) :: l) = 6 ^ (4 - d) + mu l := by
        unfold mu
        rw [List.map_cons, List.sum_cons, show 5 - (d + 1) = 4 - d by omega]
      rw [e] at this
      rw [show (k + 1) * 6 ^ (4 - d) = k * 6 ^ (4 - d) + 6 ^ (4 - d) from Nat.succ_mul _ _]
      have e2 : ∀ W V m : Nat, W + m + V = m + (V + W) := by intros; omega
      exact Nat.le_trans this (Nat.le_of_eq (e2 _ _ _))
def BKs (S : St) : List Pr → Prop
  | [] => True
  | q :: l => l.length ≤ 4 * q.2.2 ∧ q.2.2 ≤ 5 ∧ okT S q.1 ∧ okT S q.2.1 ∧ BKs S l
theorem opl_bk {S : St} {a b d : Nat} (hd : d < 5) (hok : ∀ p, p < 5 → S.2.1 17 (5 * shN S a + p) ≠ 0 → (p < pN S a) → okT S (S.2.1 14 (5 * a + p)) ∧ okT S (S.2.1 14 (5 * b + p))) : ∀ k p l, p + k = pN S a → pN S a ≤ 5 → BKs S l → l.length + k ≤ 4 * (d + 1) + 1 → BKs S (opl S a b d k p l) := by
  intro k
  induction k with
  | zero => intro p l _ _ h _; exact h
  | succ k ih =>
    intro p l hp h5 h hl
    rw [opl]
    split
    · exact ih (p + 1) l (by omega) h5 h (by omega)
    · rename_i hz
      obtain ⟨o1, o2⟩ := hok p (by omega) hz (by omega)
      exact ih (p + 1) _ (by omega) h5 ⟨by show l.length ≤ 4 * (d + 1); omega, by show d + 1 ≤ 5; omega, o1, o2, h⟩ (by simp; omega)
theorem Sc.fam {S S' : St} (h : Sc S S') (v : Int32) : famF S' v = famF S v := by
  unfold famF; rw [h.2.1 3 (by decide) (by decide) (by decide)]
theorem Sc.ok_T {S S' : St} (h : Sc S S') {v : Int32} (g : okT S v) : okT S' v := by
  unfold okT nC nR nD at *
  rw [h.1 0 (by decide), h.1 8 (by decide), h.1 11 (by decide)]
  exact g
theorem fam5' {S : St} {v : Int32} (h : okT S v) (hR : nR S ≤ 512) (hC : nC S ≤ 60) (hb : ∀ c, c < nC S → S.2.1 1 c = nI (kN S c) ∧ kN S c < 6 ∧ (S.2.1 3 c = 0 ∨ S.2.1 3 c = 1 ∨ S.2.1 3 c = 2) ∧ S.2.1 4 c = nI (wN S c) ∧ wN S c ≤ 1000) (hf : 3 < famF S v) (hf4 : ¬ famF S v = 4) : ∃ d, d < nD S ∧ v = nI (100000 + d) := by
  rcases okT_fam h hR hC with h1 | ⟨h1, h2, c, hc, rfl⟩ | ⟨h1, h2, h3, h4⟩ | ⟨h1, h2, h3, h4⟩
  · rw [famF, if_pos h1] at hf; exact absurd hf (by decide)
  · rw [famF, if_neg h2, if_pos h1, tN_n (by omega)] at hf
    rcases (hb c hc).2.2.1 with z | z | z <;> rw [z] at hf <;> exact absurd hf (by decide)
  · rw [famF, if_neg h1, if_neg h2, if_pos h3] at hf4; exact absurd rfl hf4
  · exact h4
theorem likeF_eq {S : St} {k : Nat} {a : Int32} : likeF S k a a = true := by
  cases k <;> (rw [likeF]; exact if_pos rfl)
theorem likeF_n {S : St} {k : Nat} {a b : Int32} (h : ¬ a = b) (g : ¬ (famF S a = famF S b ∧ 3 < famF S a)) : likeF S k a b = false := by
  cases k <;> (rw [likeF, if_neg h]; exact if_neg g)
theorem likeF_4 {S : St} {k : Nat} {a b : Int32} (h : ¬ a = b) (g : famF S a = famF S b ∧ 3 < famF S a) (h4 : famF S a = 4) : likeF S k a b = rlB S (tN a - 100) (tN b - 100) := by
  cases k <;> (rw [likeF, if_neg h, if_pos g]; exact if_pos h4)
theorem likeF_5 {S : St} {k : Nat} {a b : Int32} (h : ¬ a = b) (g : famF S a = famF S b ∧ 3 < famF S a) (h4 : ¬ famF S a = 4) : likeF S (k + 1) a b = reB S (likeF S k) (rcN a) (rcN b) := by
  rw [likeF, if_neg h, if_pos g]; exact if_neg h4
theorem likeF_50 {S : St} {a b : Int32} (h : ¬ a = b) (h4 : ¬ famF S a = 4) : likeF S 0 a b = false := by
  simp [likeF, h, h4]
theorem allL_c (S : St) (a b : Int32) (d : Nat) (l : List Pr) : allL S ((a, b, d) :: l) = (likeF S (5 - d) a b && allL S l) := rfl
theorem mu_c (a b : Int32) (d : Nat) (l : List Pr) : mu ((a, b, d) :: l) = 6 ^ (5 - d) + mu l := rfl
theorem mu_opl {S : St} {a b d : Nat} {x y : Int32} (hd : d < 5) (h5 : pN S a ≤ 5) (l : List Pr) : mu (opl S a b d (pN S a) 0 l) < mu ((x, y, d) :: l) := by
  have h1 := opl_mu (S := S) (a := a) (b := b) hd (pN S a) 0 l
  rw [mu_c, show 5 - d = (4 - d) + 1 by omega, Nat.pow_succ]
  have h2 : pN S a * 6 ^ (4 - d) ≤ 5 * 6 ^ (4 - d) := Nat.mul_le_mul_right _ h5
  have h3 : 0 < 6 ^ (4 - d) := Nat.pow_pos (by decide)
  omega
