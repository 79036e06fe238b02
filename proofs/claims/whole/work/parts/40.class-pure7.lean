/-! ===== names ===== -/
theorem ch_sh : ∀ i, i < 8 → ((8 * nI i : Int32).toInt64.toUInt64 &&& Int64.toUInt64 63) = UInt64.ofNat (8 * i) := by decide +kernel
theorem ch_nat {name : Int64} {i : Nat} (hi : i < 8) : (chN name i).toBitVec.toNat = name.toBitVec.toNat / 2 ^ (8 * i) % 256 := by
  unfold chN usr
  rw [ch_sh i hi]
  rw [Int32.toBitVec_and, BitVec.toNat_and, show (255 : Int32).toBitVec.toNat = 2 ^ 8 - 1 from rfl, Nat.and_two_pow_sub_one_eq_mod]
  have e : ((name.toUInt64 >>> UInt64.ofNat (8 * i)).toInt64.toInt32).toBitVec.toNat = name.toBitVec.toNat / 2 ^ (8 * i) % 2 ^ 32 := by
    show (BitVec.signExtend 32 (name.toUInt64 >>> UInt64.ofNat (8 * i)).toBitVec).toNat = _
    rw [BitVec.signExtend_eq_setWidth_of_le _ (by decide), BitVec.toNat_setWidth]
    congr 1
    show (name.toUInt64 >>> UInt64.ofNat (8 * i)).toNat = _
    rw [UInt64.toNat_shiftRight, UInt64.toNat_ofNat_of_lt' (by have : UInt64.size = 18446744073709551616 := rfl; omega), Nat.mod_eq_of_lt (by omega), Nat.shiftRight_eq_div_pow]
    rfl
  rw [e]
  omega
theorem ch_0 {name : Int64} {i : Nat} (hi : i < 8) : chN name i = 0 ↔ name.toBitVec.toNat / 2 ^ (8 * i) % 256 = 0 := by
  rw [← ch_nat hi]
  constructor
  · intro h; rw [h]; rfl
  · intro h
    apply Int32.toBitVec_inj.mp
    apply BitVec.eq_of_toNat_eq
    rw [h]; rfl
def okL (name : Int64) : Nat → Nat → Bool → Bool
  | 0, _, _ => true
  | k + 1, i, en => if chN name i = 0 then okL name k (i + 1) true else if en = true then false else if inB (chN name i) 97 122 = true then okL name k (i + 1) false else false
def czL (name : Int64) : Nat → Nat → Nat
  | 0, _ => 0
  | k + 1, i => (if chN name i = 0 then 0 else 1) + czL name k (i + 1)
theorem cl_ok {name : Int64} : ∀ k i en, clL name k i en = (okL name k i en && !decide (name = 0)) := by
  intro k
  induction k with
  | zero => intro i en; rw [clL, okL, Bool.true_and]
  | succ k ih =>
    intro i en
    rw [clL, okL]
    split
    · exact ih _ _
    · split
      · rfl
      · split
        · exact ih _ _
        · rfl
theorem nm_f {name : Int64} : ∀ k i en n, nmL name k i false en n = false := by
  intro k
  induction k with
  | zero => intro i en n; rfl
  | succ k ih => intro i en n; rw [nmL, Bool.false_and]; exact ih _ _ _
theorem nm_ok {name : Int64} : ∀ k i en n, nmL name k i true en n = (okL name k i en && decide (0 < n + czL name k i)) := by
  intro k
  induction k with
  | zero => intro i en n; rfl
  | succ k ih =>
    intro i en n
    rw [nmL, okL, czL]
    by_cases h : chN name i = 0
    · rw [decide_eq_true h, if_pos h, if_pos h, show (en || true) = true by cases en <;> rfl]
      exact (ih (i + 1) true (n + 0)).trans (by rw [Nat.zero_add (czL name k (i + 1))]; rfl)
    · rw [decide_eq_false h, if_neg h, if_neg h, show (en || false) = en by cases en <;> rfl]
      cases en with
      | true => rw [if_pos rfl, Bool.false_and]; exact nm_f _ _ _ _
      | false =>
        rw [if_neg (by decide)]
        show nmL name k (i + 1) (letB (chN name i)) false (n + 1) = _
        cases hl : inB (chN name i) 97 122 with
        | true => rw [if_pos rfl, show letB (chN name i) = true from hl, ih, Nat.add_assoc]
        | false => rw [if_neg (by decide), show letB (chN name i) = false from hl, nm_f, Bool.false_and]
theorem cz_0 {name : Int64} : ∀ k i, czL name k i = 0 → ∀ j, i ≤ j → j < i + k → chN name j = 0 := by
  intro k
  induction k with
  | zero => intro i _ j h1 h2; omega
  | succ k ih =>
    intro i h j h1 h2
    rw [czL] at h
    by_cases hc : chN name i = 0
    · rw [if_pos hc, Nat.zero_add] at h
      by_cases e : j = i
      · subst e; exact hc
      · exact ih (i + 1) h j (by omega) (by omega)
    · rw [if_neg hc] at h; omega
theorem cz_n {name : Int64} (hz : name = 0) : ∀ k i, i + k ≤ 8 → czL name k i = 0 := by
  intro k
  induction k with
  | zero => intro i _; rfl
  | succ k ih =>
    intro i hi
    rw [czL, if_pos ((ch_0 (by omega)).mpr (by subst hz; show 0 / 2 ^ (8 * i) % 256 = 0; rw [Nat.zero_div])), ih (i + 1) (by omega)]
theorem nm_cl (name : Int64) : clL name 8 0 false = nameB name := by
  unfold nameB
  rw [cl_ok, nm_ok]
  congr 1
  rw [Nat.zero_add]
  by_cases h : name = 0
  · rw [decide_eq_true h, cz_n h 8 0 (by decide)]; rfl
  · rw [decide_eq_false h]
    rw [decide_eq_true]
    · rfl
    · rcases Nat.eq_zero_or_pos (czL name 8 0) with z | z
      · exfalso
        apply h
        have hh := cz_0 8 0 z
        have hlt := name.toBitVec.isLt
        have key : ∀ k, k ≤ 8 → name.toBitVec.toNat / 2 ^ (8 * (8 - k)) = 0 := by
          intro k
          induction k with
          | zero => intro _; exact Nat.div_eq_of_lt hlt
          | succ k ih =>
            intro hk
            have h1 := ih (by omega)
            have h2 := (ch_0 (show 8 - (k + 1) < 8 by omega)).mp (hh (8 - (k + 1)) (by omega) (by omega))
            rw [show 8 * (8 - k) = 8 * (8 - (k + 1)) + 8 by omega, Nat.pow_add, ← Nat.div_div_eq_div_mul] at h1
            have h1' : name.toBitVec.toNat / 2 ^ (8 * (8 - (k + 1))) / 256 = 0 := h1
            generalize name.toBitVec.toNat / 2 ^ (8 * (8 - (k + 1))) = M at h1' h2
            omega
        have h0 := key 8 (by decide)
        apply Int64.toBitVec_inj.mp
        apply BitVec.eq_of_toNat_eq
        rw [show 8 * (8 - 8) = 0 from rfl, Nat.pow_zero, Nat.div_one] at h0
        rw [h0]; rfl
      · exact z
