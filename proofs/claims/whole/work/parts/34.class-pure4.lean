/-! ===== likeness in the class ===== -/
theorem tr_inj {S : St} {t τ : Nat} {v w : Int32} {ad : Nat → Nat → Nat} (I : Inv S t) (hv : okT S v) (hw : okT S w) (hinj : ∀ k i k' i', dmW S τ k i → dmW S τ k' i' → ad k i = ad k' i' → k = k' ∧ i = i') (h : tr ad v = tr ad w) : v = w := by
  obtain ⟨hC, hR, hD⟩ := bd512 I
  have key : ∀ k i k' i', dmW S τ k i → dmW S τ k' i' → (some (ad k i) : Option Nat) = some (ad k' i') → k = k' ∧ i = i' := fun k i k' i' h1 h2 h3 => hinj k i k' i' h1 h2 (Option.some.inj h3)
  rcases hv with rfl | ⟨c, hc, rfl⟩ | ⟨r, hr, rfl⟩ | ⟨d, hd, rfl⟩ <;> rcases hw with rfl | ⟨c', hc', rfl⟩ | ⟨r', hr', rfl⟩ | ⟨d', hd', rfl⟩
  · rfl
  · rw [tr_0, tr_c (by omega)] at h; cases h
  · rw [tr_0, tr_r (by omega)] at h; cases h
  · rw [tr_0, tr_d (by omega)] at h; cases h
  · rw [tr_0, tr_c (by omega)] at h; cases h
  · rw [tr_c (by omega), tr_c (by omega)] at h; rw [(key 4 _ 4 _ hc hc' h).2]
  · rw [tr_c (by omega), tr_r (by omega)] at h; exact absurd (key 4 _ 6 _ hc hr' h).1 (by decide)
  · rw [tr_c (by omega), tr_d (by omega)] at h; exact absurd (key 4 _ 8 _ hc (Nat.lt_of_lt_of_le hd' (Nat.le_add_right _ _)) h).1 (by decide)
  · rw [tr_0, tr_r (by omega)] at h; cases h
  · rw [tr_r (by omega), tr_c (by omega)] at h; exact absurd (key 6 _ 4 _ hr hc' h).1 (by decide)
  · rw [tr_r (by omega), tr_r (by omega)] at h; rw [(key 6 _ 6 _ hr hr' h).2]
  · rw [tr_r (by omega), tr_d (by omega)] at h; exact absurd (key 6 _ 8 _ hr (Nat.lt_of_lt_of_le hd' (Nat.le_add_right _ _)) h).1 (by decide)
  · rw [tr_0, tr_d (by omega)] at h; cases h
  · rw [tr_d (by omega), tr_c (by omega)] at h; exact absurd (key 8 _ 4 _ (Nat.lt_of_lt_of_le hd (Nat.le_add_right _ _)) hc' h).1 (by decide)
  · rw [tr_d (by omega), tr_r (by omega)] at h; exact absurd (key 8 _ 6 _ (Nat.lt_of_lt_of_le hd (Nat.le_add_right _ _)) hr' h).1 (by decide)
  · rw [tr_d (by omega), tr_d (by omega)] at h; rw [(key 8 _ 8 _ (Nat.lt_of_lt_of_le hd (Nat.le_add_right _ _)) (Nat.lt_of_lt_of_le hd' (Nat.le_add_right _ _)) h).2]
def thV (S : St) (d p : Nat) : Int32 := if S.2.1 17 (5 * shN S d + p) = 0 then -1 else S.2.1 14 (5 * d + p)
def nuV (S : St) (d p : Nat) : Int32 := if S.2.1 17 (5 * shN S d + p) = 0 then S.2.1 14 (5 * d + p) else 0
theorem th_V {ad : Nat → Nat → Nat} {S : St} {f d p : Nat} (hd : d < nD S) (hp : p < pN S d) : thF ad S f d p = tr ad (thV S d p) := by
  unfold thF thV flB
  rw [decide_eq_true hd, decide_eq_true hp]
  by_cases h : S.2.1 17 (5 * shN S d + p) = 0
  · rw [decide_eq_true h, if_pos h, tr_0]; rfl
  · rw [decide_eq_false h, if_neg h]; rfl
theorem nu_V {S : St} {f d p : Nat} (hd : d < nD S) (hp : p < pN S d) : nuF S f d p = nuV S d p := by
  unfold nuF nuV flB
  rw [decide_eq_true hd, decide_eq_true hp]
  by_cases h : S.2.1 17 (5 * shN S d + p) = 0
  · rw [decide_eq_true h, if_pos h]; rfl
  · rw [decide_eq_false h, if_neg h]; rfl
theorem thV_ok {S : St} {t d p : Nat} (I : Inv S t) (hd : d < nD S) (hp : p < pN S d) : okT S (thV S d p) := by
  unfold thV
  split
  · exact Or.inl rfl
  · rename_i h
    rcases (I.2.2.2.2.2.1.2.2 d hd).2.2.2.2 p hp with ⟨z, -⟩ | ⟨z, y⟩
    · exact absurd z h
    · exact okV_T z y
theorem re_p {S : St} {k a b p : Nat} (hs : shN S a = shN S b) : reP S (likeF S k) a b p = (decide (nuV S a p = nuV S b p) && likeF S k (thV S a p) (thV S b p)) := by
  unfold reP nuV thV
  rw [← hs]
  by_cases h : S.2.1 17 (5 * shN S a + p) = 0
  · rw [if_pos h, if_pos h, if_pos h, if_pos h, if_pos h, likeF_eq, Bool.and_true]
  · rw [if_neg h, if_neg h, if_neg h, if_neg h, if_neg h, decide_eq_true rfl, Bool.true_and]
theorem all_t {p : Nat → Bool} {k i : Nat} (h : p i = true) : allB p (k + 1) i = allB p k (i + 1) := by rw [allB, h, Bool.true_and]
theorem all_f {p : Nat → Bool} {k i : Nat} (h : p i = false) : allB p (k + 1) i = false := by rw [allB, h, Bool.false_and]
/-- areAlike at a depth -/
def AL (b0 : Nat) (D : va_G) (dA : Nat → ClassId) (ad : Nat → Nat → Nat) (Sm S : St) (f τ k : Nat) : Prop := ∀ (Q : PQ) (a b : Int32), okT S a → okT S b → Q (some (.int (bI (likeF S k a b)))) (dmW S τ) ad (cw dA ad Sm S f) → Ct b0 D dA yX11_areAlike cX11_areAlike 5 (some .boolean) (Rm (2 * k + 3)) [va_rf (tr ad a), va_rf (tr ad b), .int (nI (5 - k))] (dmW S τ) ad (cw dA ad Sm S f) Q
