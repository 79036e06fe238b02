/-! ===== what the reference's methods answer, as functions ===== -/
def inB (v lo hi : Int32) : Bool := decide (lo ≤ v) && decide (v ≤ hi)
theorem inB_f1 {v lo hi : Int32} (h : v < lo) : inB v lo hi = false := by
  unfold inB
  rw [decide_eq_false (Int32.not_le.mpr h)]; rfl
theorem inB_f2 {v lo hi : Int32} (h : hi < v) : inB v lo hi = false := by
  unfold inB
  rw [decide_eq_false (Int32.not_le.mpr h)]; exact Bool.and_false _
theorem inB_t {v lo hi : Int32} (h : ¬ v < lo) (h2 : ¬ hi < v) : inB v lo hi = true := by
  unfold inB
  rw [decide_eq_true (Int32.not_lt.mp h), decide_eq_true (Int32.not_lt.mp h2)]; rfl
theorem inB_iff {v lo hi : Int32} : inB v lo hi = true ↔ lo ≤ v ∧ v ≤ hi := by simp [inB]
def fnd (p : Nat → Bool) : Nat → Nat → Option Nat
  | 0, _ => none
  | k + 1, i => match p i with
    | true => some i
    | false => fnd p k (i + 1)
def oI : Option Nat → Int32
  | some j => nI j
  | none => -3
theorem fnd_t {p : Nat → Bool} {k i : Nat} (h : p i = true) : fnd p (k + 1) i = some i := by simp [fnd, h]
theorem fnd_f {p : Nat → Bool} {k i : Nat} (h : p i = false) : fnd p (k + 1) i = fnd p k (i + 1) := by simp [fnd, h]
theorem fnd_spec (p : Nat → Bool) : ∀ k i, (∃ j, fnd p k i = some j ∧ i ≤ j ∧ j < i + k ∧ p j = true ∧ ∀ l, i ≤ l → l < j → p l = false) ∨ (fnd p k i = none ∧ ∀ l, i ≤ l → l < i + k → p l = false) := by
  intro k
  induction k with
  | zero => intro i; exact Or.inr ⟨rfl, fun l h1 h2 => by omega⟩
  | succ k ih =>
    intro i
    cases hp : p i with
    | true => exact Or.inl ⟨i, fnd_t hp, Nat.le_refl _, by omega, hp, fun l h1 h2 => by omega⟩
    | false =>
      rw [fnd_f hp]
      rcases ih (i + 1) with ⟨j, h1, h2, h3, h4, h5⟩ | ⟨h1, h2⟩
      · refine Or.inl ⟨j, h1, by omega, by omega, h4, fun l g1 g2 => ?_⟩
        by_cases hl : l = i
        · subst hl; exact hp
        · exact h5 l (by omega) g2
      · refine Or.inr ⟨h1, fun l g1 g2 => ?_⟩
        by_cases hl : l = i
        · subst hl; exact hp
        · exact h2 l (by omega) (by omega)
theorem inc1 (i : Nat) : nI i + Int32.ofInt 1 = nI (i + 1) := nI_1 i
theorem li_1 : (1 : Int32) = nI 1 := rfl
theorem li_2 : (2 : Int32) = nI 2 := rfl
theorem li_3 : (3 : Int32) = nI 3 := rfl
theorem li_4 : (4 : Int32) = nI 4 := rfl
theorem li_5 : (5 : Int32) = nI 5 := rfl
theorem li_12 : (12 : Int32) = nI 12 := rfl
theorem li_60 : (60 : Int32) = nI 60 := rfl
theorem lcmp_ne {a b : Int64} (h : ¬ lg_cmp a b = 0) : ¬ a = b := by
  intro e; subst e; apply h; unfold lg_cmp; simp
theorem lcmp_eq {a b : Int64} (h : lg_cmp a b = 0) : a = b := by
  unfold lg_cmp at h
  split at h
  · exact absurd h (by decide)
  · split at h
    · assumption
    · exact absurd h (by decide)
def byP (S : St) (kind : Int32) (name : Int64) : Nat → Bool := fun c => decide (S.2.1 1 c = kind) && decide (S.2.2 c = name)
def orP (S : St) (b : Nat) (c : Int32) : Nat → Bool := fun i => decide (S.2.1 7 (60 * b + i) = c)
def laP (S : St) (b : Nat) : Nat → Bool := fun i => decide (S.2.1 4 (S.2.1 7 (60 * b + i)).toNatClampNeg = 0)
/-- the CONSTANT c behind the others of build row b, which has m -/
def apS (S : St) (b m : Nat) (c : Int32) : St := (S.1, u2 (u2 S.2.1 7 (60 * b + m) c) 6 b (nI (m + 1)), S.2.2)
