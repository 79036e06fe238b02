/-! ===== pure rows for the class ===== -/
theorem tr_0 {ad : Nat → Nat → Nat} : tr ad (-1) = none := by unfold tr; exact if_pos rfl
theorem tr_c {ad : Nat → Nat → Nat} {c : Nat} (h : c < 60) : tr ad (nI c) = some (ad 4 c) := by
  unfold tr
  have h1 : ¬ nI c = -1 := fun z => absurd (congrArg (fun x => decide (x < 0)) z) (by show ¬ decide (nI c < 0) = decide ((-1 : Int32) < 0); rw [decide_eq_false (nI_pos (by omega))]; decide)
  rw [if_neg h1, if_pos (show nI c < 100 by rw [li_100]; exact (nI_ltI (by omega) (by decide)).mpr (by omega)), tN_n (by omega)]
theorem tr_r {ad : Nat → Nat → Nat} {r : Nat} (h : r ≤ 512) : tr ad (nI (100 + r)) = some (ad 6 r) := by
  unfold tr
  have h1 : ¬ nI (100 + r) = -1 := fun z => absurd (congrArg (fun x => decide (x < 0)) z) (by show ¬ decide (nI (100 + r) < 0) = decide ((-1 : Int32) < 0); rw [decide_eq_false (nI_pos (by omega))]; decide)
  rw [if_neg h1, if_neg (show ¬ nI (100 + r) < 100 by rw [li_100]; exact nI_nlt (by omega) (by omega)), if_pos (by rw [li_h]; exact (nI_ltI (by omega) (by decide)).mpr (by omega)), tN_n (by omega), Nat.add_sub_cancel_left]
theorem tr_d {ad : Nat → Nat → Nat} {d : Nat} (h : d ≤ 512) : tr ad (nI (100000 + d)) = some (ad 8 d) := by
  unfold tr
  have h1 : ¬ nI (100000 + d) = -1 := fun z => absurd (congrArg (fun x => decide (x < 0)) z) (by show ¬ decide (nI (100000 + d) < 0) = decide ((-1 : Int32) < 0); rw [decide_eq_false (nI_pos (by omega))]; decide)
  rw [if_neg h1, if_neg (show ¬ nI (100000 + d) < 100 by rw [li_100]; exact nI_nlt (by omega) (by omega)), if_neg (by rw [li_h]; exact nI_nlt (by omega) (by omega)), tN_n (by omega), Nat.add_sub_cancel_left]
theorem fam_c {S : St} {c : Nat} (h : c < 60) : famF S (nI c) = 1 + S.2.1 3 c := by
  unfold famF
  have h1 : ¬ nI c = -1 := fun z => absurd (congrArg (fun x => decide (x < 0)) z) (by show ¬ decide (nI c < 0) = decide ((-1 : Int32) < 0); rw [decide_eq_false (nI_pos (by omega))]; decide)
  rw [if_neg h1, if_pos (show nI c < 100 by rw [li_100]; exact (nI_ltI (by omega) (by decide)).mpr (by omega)), tN_n (by omega)]
theorem fam_r {S : St} {r : Nat} (h : r ≤ 512) : famF S (nI (100 + r)) = 4 := by
  unfold famF
  have h1 : ¬ nI (100 + r) = -1 := fun z => absurd (congrArg (fun x => decide (x < 0)) z) (by show ¬ decide (nI (100 + r) < 0) = decide ((-1 : Int32) < 0); rw [decide_eq_false (nI_pos (by omega))]; decide)
  rw [if_neg h1, if_neg (show ¬ nI (100 + r) < 100 by rw [li_100]; exact nI_nlt (by omega) (by omega)), if_pos (by rw [li_h]; exact (nI_ltI (by omega) (by decide)).mpr (by omega))]
theorem fam_d {S : St} {d : Nat} (h : d ≤ 512) : famF S (nI (100000 + d)) = 5 := by
  unfold famF
  have h1 : ¬ nI (100000 + d) = -1 := fun z => absurd (congrArg (fun x => decide (x < 0)) z) (by show ¬ decide (nI (100000 + d) < 0) = decide ((-1 : Int32) < 0); rw [decide_eq_false (nI_pos (by omega))]; decide)
  rw [if_neg h1, if_neg (show ¬ nI (100000 + d) < 100 by rw [li_100]; exact nI_nlt (by omega) (by omega)), if_neg (by rw [li_h]; exact nI_nlt (by omega) (by omega))]
theorem fam_0 {S : St} : famF S (-1) = 0 := by unfold famF; exact if_pos rfl
theorem ln_t {ad : Nat → Nat → Nat} {S : St} {b i : Nat} (h : i < mb S b) : lnF ad S b i = some (ad 4 (bc S b i)) := if_pos h
def clL (name : Int64) : Nat → Nat → Bool → Bool
  | 0, _, _ => !decide (name = 0)
  | k + 1, i, en => if chN name i = 0 then clL name k (i + 1) true else if en = true then false else if inB (chN name i) 97 122 = true then clL name k (i + 1) false else false
theorem u2_id {α : Type} (f : Nat → Nat → α) {k i : Nat} : u2 f k i (f k i) = f := by
  funext a b
  by_cases h : a = k ∧ b = i
  · obtain ⟨rfl, rfl⟩ := h; rw [u2_s]
  · rw [u2_n h]
theorem u2_comm {α : Type} {f : Nat → Nat → α} {k i k' i' : Nat} {v w : α} (h : k ≠ k') : u2 (u2 f k i v) k' i' w = u2 (u2 f k' i' w) k i v := by
  funext a b
  rw [u2_e, u2_e, u2_e, u2_e]
  by_cases h1 : a = k' ∧ b = i'
  · rw [if_pos h1, if_neg (fun z => h (z.1.symm.trans h1.1)), if_pos h1]
  · rw [if_neg h1, if_neg h1]
theorem tr_n {ad : Nat → Nat → Nat} {v : Int32} (h : tr ad v = none) : v = -1 := by
  unfold tr at h
  split at h
  · assumption
  · split at h
    · cases h
    · split at h <;> cases h
theorem tr_s {ad : Nat → Nat → Nat} {v : Int32} {a : Nat} (h : tr ad v = some a) : ¬ v = -1 := by
  intro e; rw [e, tr_0] at h; cases h
section XN
variable {b0 : Nat} {D : va_G} {dA : Nat → ClassId} {y : MethodName} {cc : ByteArray} {nL : Nat} {ret : Option FieldType} {R : Room} {EX : Array Value → State → Prop} {QF : List Frame → Array Value → State → State → Prop} {pc n t : Nat} {lv : Nat → Option Value} {st : List Value} {dm : Nat → Nat → Prop} {ad : Nat → Nat → Nat} {ct : Nat → Nat → va_E} {cells slots : Nat} {a : Nat}
theorem e_ifnull_0 (hd : dj cc pc .ifnull t n) (kk : E b0 D dA y cc nL ret R EX QF t lv st dm ad ct cells slots) : E b0 D dA y cc nL ret R EX QF pc lv (.null :: st) dm ad ct cells slots := e_ifnull (r := none) hd (fun _ => kk) (fun _ h => by cases h)
theorem e_ifnull_r (hd : dj cc pc .ifnull t n) (kk : E b0 D dA y cc nL ret R EX QF n lv st dm ad ct cells slots) : E b0 D dA y cc nL ret R EX QF pc lv (.ref a :: st) dm ad ct cells slots := e_ifnull (r := some a) hd (fun h => by cases h) (fun _ _ => kk)
theorem e_ifnonnull_0 (hd : dj cc pc .ifnonnull t n) (kk : E b0 D dA y cc nL ret R EX QF n lv st dm ad ct cells slots) : E b0 D dA y cc nL ret R EX QF pc lv (.null :: st) dm ad ct cells slots := e_ifnonnull (r := none) hd (fun _ h => by cases h) (fun _ => kk)
theorem e_ifnonnull_r (hd : dj cc pc .ifnonnull t n) (kk : E b0 D dA y cc nL ret R EX QF t lv st dm ad ct cells slots) : E b0 D dA y cc nL ret R EX QF pc lv (.ref a :: st) dm ad ct cells slots := e_ifnonnull (r := some a) hd (fun _ _ => kk) (fun h => by cases h)
end XN
theorem lack_ne : ∀ {c : Nat}, c < 60 → ¬ (-10 - nI c = (0 : Int32)) := by
  intro c h
  have key : ∀ c, c < 60 → ¬ (-10 - nI c = (0 : Int32)) := by decide +kernel
  exact key c h
theorem lack_e {S : St} {b : Nat} (hbz : S.2.1 6 b = nI (mb S b)) (h : mb S b = 0) : ¬ lackF S b = 0 := by
  unfold lackF
  rw [h]
  show ¬ (if S.2.1 6 b = 0 then (1 : Int32) else 0) = 0
  rw [if_pos (by rw [hbz, h]; rfl)]; decide
theorem bind_n {p : Nat → Bool} {m : Nat} {g : Nat → Option Nat} {h : Nat → Nat} (hg : ∀ i, i < m → g i = some (h i)) (e : (fnd p m 0).bind g = none) : fnd p m 0 = none := by
  cases hf : fnd p m 0 with
  | none => rfl
  | some j =>
    rw [hf] at e
    have hj := fnd_lt hf
    rw [show (some j : Option Nat).bind g = g j from rfl, hg j (by omega)] at e
    cases e
theorem lack_n {S : St} {b : Nat} (hm : S.2.1 6 b = nI (mb S b)) (hp : 0 < mb S b) (h : fnd (laP S b) (mb S b) 0 = none) : lackF S b = 0 := by
  unfold lackF
  rw [h]
  show (if S.2.1 6 b = 0 then (1 : Int32) else 0) = 0
  by_cases hz : S.2.1 6 b = 0
  · have : mb S b = 0 := by unfold mb; rw [hz]; rfl
    omega
  · exact if_neg hz
theorem lack_s {S : St} {b : Nat} {g : Nat → Option Nat} (hw : ∀ i, i < mb S b → S.2.1 7 (60 * b + i) = nI (bc S b i) ∧ bc S b i < 60) (h : (fnd (laP S b) (mb S b) 0).bind g ≠ none) : ¬ lackF S b = 0 := by
  unfold lackF
  cases hf : fnd (laP S b) (mb S b) 0 with
  | none => rw [hf] at h; exact absurd rfl h
  | some j =>
    have hj := fnd_lt hf
    obtain ⟨e, h60⟩ := hw j (by omega)
    show ¬ -10 - S.2.1 7 (60 * b + j) = 0
    rw [e]
    exact lack_ne h60
theorem qx {Q : PQ} {dA : Nat → ClassId} {ad : Nat → Nat → Nat} {Sm S' : St} {f τ : Nat} {F : Int32 × St} {r : Int32} (h : Q (some (.int F.1)) (dmW F.2 τ) ad (cw dA ad Sm F.2 f)) (e : F = (r, S')) : Q (some (.int r)) (dmW S' τ) ad (cw dA ad Sm S' f) := by
  subst e; exact h
theorem hbiX {S : St} {t b : Nat} (I : Inv S t) (hb : b < 18) : ∀ i, i < mb S b → bc S b i < nC S ∧ S.2.1 4 (bc S b i) = nI (wN S (bc S b i)) ∧ wN S (bc S b i) ≤ 1000 ∧ S.2.1 7 (60 * b + i) = nI (bc S b i) := fun i hi => by
  obtain ⟨g1, g2, -⟩ := (I.2.1 b hb).2.2.1 i hi
  obtain ⟨-, -, -, f4, f5⟩ := I.1.2.2.1 _ g2
  exact ⟨g2, f4, f5, g1⟩
theorem fnd_cong {p q : Nat → Bool} {m : Nat} (h : ∀ i, i < m → p i = q i) : fnd p m 0 = fnd q m 0 := by
  have key : ∀ k i, i + k = m → fnd p k i = fnd q k i := by
    intro k
    induction k with
    | zero => intro i _; rfl
    | succ k ih => intro i hi; rw [fnd, fnd, h i (by omega), ih (i + 1) (by omega)]
  exact key m 0 (by omega)
theorem lack_1 {S : St} {b : Nat} (h : S.2.1 6 b = 0) : lackF S b = 1 := by
  have : mb S b = 0 := by unfold mb; rw [h]; rfl
  unfold lackF
  rw [this]
  exact if_pos h
theorem by_name {S : St} {t kd : Nat} (I : Inv S t) (hk : kd < 6) (name : Int64) : (∃ j c, j < mb S (3 * kd + 0) ∧ c < nC S ∧ fnd (fun i => decide (S.2.2 (bc S (3 * kd + 0) i) = name)) (mb S (3 * kd + 0)) 0 = some j ∧ fnd (byP S (nI kd) name) (nC S) 0 = some c ∧ bc S (3 * kd + 0) j = c) ∨ (fnd (fun i => decide (S.2.2 (bc S (3 * kd + 0) i) = name)) (mb S (3 * kd + 0)) 0 = none ∧ fnd (byP S (nI kd) name) (nC S) 0 = none) := by
  rw [Nat.add_zero]
  have h60 := I.1.2.1
  obtain ⟨hm, hmC, hbi, hbj⟩ := I.2.1 (3 * kd) (by omega)
  rcases fnd_spec (byP S (nI kd) name) (nC S) 0 with ⟨c, e1, -, hc, hp, -⟩ | ⟨e1, hn⟩
  · rw [Nat.zero_add] at hc
    simp only [byP, Bool.and_eq_true, decide_eq_true_eq] at hp
    have hkc : kN S c = kd := by
      have := (I.1.2.2.1 c hc).1
      rw [hp.1] at this
      exact ((nI_eq (by omega) (by have := (I.1.2.2.1 c hc).2.1; omega)).mp this).symm
    obtain ⟨i, hi, hic⟩ := I.2.2.1 c hc
    rw [hkc] at hi hic
    rcases fnd_spec (fun i => decide (S.2.2 (bc S (3 * kd) i) = name)) (mb S (3 * kd)) 0 with ⟨j, g1, -, hj, gp, -⟩ | ⟨g1, gn⟩
    · rw [Nat.zero_add] at hj
      simp only [decide_eq_true_eq] at gp
      obtain ⟨-, hlt, hkb⟩ := hbi j hj
      have hkb' : kN S (bc S (3 * kd) j) = kN S c := by rw [hkb, hkc]; omega
      exact Or.inl ⟨j, c, hj, hc, g1, e1, I.1.2.2.2 _ _ hlt hc hkb' (gp.trans hp.2.symm)⟩
    · have := gn i (Nat.zero_le _) (by omega)
      rw [hic] at this
      simp only [decide_eq_false_iff_not] at this
      exact absurd hp.2 this
  · rcases fnd_spec (fun i => decide (S.2.2 (bc S (3 * kd) i) = name)) (mb S (3 * kd)) 0 with ⟨j, g1, -, hj, gp, -⟩ | ⟨g1, gn⟩
    · rw [Nat.zero_add] at hj
      simp only [decide_eq_true_eq] at gp
      obtain ⟨-, hlt, hkb⟩ := hbi j hj
      have := hn (bc S (3 * kd) j) (Nat.zero_le _) (by omega)
      simp only [byP, Bool.and_eq_false_iff, decide_eq_false_iff_not] at this
      rcases this with z | z
      · exact absurd (by rw [(I.1.2.2.1 _ hlt).1, hkb]; congr 1; omega) z
      · exact absurd gp z
    · exact Or.inr ⟨g1, e1⟩
