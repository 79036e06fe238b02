/-! ===== answers and states, second half ===== -/
def paS (S : St) (s : Nat) (sort k : Int32) : St := (S.1, u2 (u2 (u2 S.2.1 17 (5 * s + pmN S s) sort) 18 (5 * s + pmN S s) k) 16 s (S.2.1 16 s + 1), S.2.2)
def paB (sort k : Int32) : Bool := inB sort 0 4 && (!decide (sort = 0) || inB k 0 1000) && (!(decide (sort = 1) || decide (sort = 4)) || inB k 0 5)
def F_part (S : St) (s sort k : Int32) : Int32 × St := if (inB s 0 5 && paB sort k) = true then (if S.2.1 16 (tN s) = 5 then (-2, S) else (S.2.1 16 (tN s), paS S (tN s) sort k)) else (-1, S)
def fitB (kind s : Int32) : Bool := if kind < 2 then decide (s = 0) else if kind < 4 then decide (s = 3) else if kind = 4 then (decide (s = 1) || decide (s = 2)) else decide (s = 4)
def chS (S : St) (s : Nat) (kind a b : Int32) : St := (S.1, u2 (u2 (u2 (u2 S.2.1 20 (4 * s + cmN S s) kind) 21 (4 * s + cmN S s) a) 22 (4 * s + cmN S s) b) 19 s (S.2.1 19 s + 1), S.2.2)
def ckB (S : St) (s kind a b : Int32) : Bool := inB s 0 5 && inB kind 0 5 && inB a 0 (S.2.1 16 (tN s) - 1) && inB b 0 (S.2.1 16 (tN s) - 1) && decide (S.2.1 17 (5 * tN s + tN b) = 0) && fitB kind (S.2.1 17 (5 * tN s + tN a))
def F_check (S : St) (s kind a b : Int32) : Int32 × St := if ckB S s kind a b = true then (if S.2.1 19 (tN s) = 4 then (-2, S) else (S.2.1 19 (tN s), chS S (tN s) kind a b)) else (-1, S)
def F_give (S : St) (p v q : Int32) : Int32 × St := if (inB p 0 4 && inB q 0 9) = true then (1, (S.1, u2 (u2 S.2.1 23 (tN p) v) 24 (tN p) q, S.2.2)) else (-1, S)
def F_cause (S : St) (w : Int32) : Int32 := if w = 0 then S.1 25 else if w = 1 then S.1 26 else -1
def F_started (S : St) (k : Int32) : Int32 := if inB k 0 5 = true then S.2.1 27 (tN k) else -1
def cnt (p : Nat → Bool) : Nat → Nat
  | 0 => 0
  | i + 1 => cnt p i + match p i with
    | true => 1
    | false => 0
theorem cnt_le (p : Nat → Bool) : ∀ i, cnt p i ≤ i := by
  intro i
  induction i with
  | zero => exact Nat.le_refl _
  | succ i ih => rw [cnt]; split <;> omega
theorem cnt_t {p : Nat → Bool} {i : Nat} (h : p i = true) : cnt p (i + 1) = cnt p i + 1 := by simp [cnt, h]
theorem cnt_f {p : Nat → Bool} {i : Nat} (h : p i = false) : cnt p (i + 1) = cnt p i := by simp [cnt, h]
def heP (S : St) : Nat → Bool := fun p => !decide (S.2.1 15 p = -1)
def stP (S : St) : Nat → Bool := fun k => !decide (S.2.1 27 k = -3)
def F_count (S : St) (w : Int32) : Int32 := if w = 0 then S.1 0 else if w = 1 then S.1 28 else if w = 2 then S.1 29 else if w = 3 then S.1 11 else if w = 4 then nI (cnt (heP S) 10) else if w = 5 then nI (cnt (stP S) 6) else -1
def rcN (v : Int32) : Nat := tN v - 100000
def F_told (S : St) (p q : Int32) : Int32 :=
  if (inB p 0 9 && decide (famF S (S.2.1 15 (tN p)) = 5)) = true then
    (if q = -3 then S.2.1 12 (rcN (S.2.1 15 (tN p))) else if inB q 0 (S.2.1 13 (rcN (S.2.1 15 (tN p))) - 1) = true then
      (if S.2.1 17 (5 * shN S (rcN (S.2.1 15 (tN p))) + tN q) = 0 then S.2.1 14 (5 * rcN (S.2.1 15 (tN p)) + tN q) else famF S (S.2.1 14 (5 * rcN (S.2.1 15 (tN p)) + tN q)) - 10) else -1) else -1
def F_take (S : St) (p q o : Int32) : Int32 × St :=
  if (inB p 0 9 && decide (famF S (S.2.1 15 (tN p)) = 5) && inB o 0 9) = true then
    (if (inB q 0 (S.2.1 13 (rcN (S.2.1 15 (tN p))) - 1) && !decide (S.2.1 17 (5 * shN S (rcN (S.2.1 15 (tN p))) + tN q) = 0)) = true then
      (famF S (S.2.1 14 (5 * rcN (S.2.1 15 (tN p)) + tN q)), (S.1, u2 S.2.1 15 (tN o) (S.2.1 14 (5 * rcN (S.2.1 15 (tN p)) + tN q)), S.2.2)) else (-1, S)) else (-1, S)
theorem fam5 {S : St} {v : Int32} (h : okT S v) (hR : nR S ≤ 512) (hC : nC S ≤ 60) (hb : ∀ c, c < nC S → S.2.1 1 c = nI (kN S c) ∧ kN S c < 6 ∧ (S.2.1 3 c = 0 ∨ S.2.1 3 c = 1 ∨ S.2.1 3 c = 2) ∧ S.2.1 4 c = nI (wN S c) ∧ wN S c ≤ 1000) (hf : famF S v = 5) : ∃ d, d < nD S ∧ v = nI (100000 + d) := by
  rcases okT_fam h hR hC with h1 | ⟨h1, h2, c, hc, rfl⟩ | ⟨h1, h2, h3, h4⟩ | ⟨h1, h2, h3, h4⟩
  · rw [famF, if_pos h1] at hf; exact absurd hf (by decide)
  · rw [famF, if_neg h2, if_pos h1, tN_n (by omega)] at hf
    rcases (hb c hc).2.2.1 with z | z | z <;> rw [z] at hf <;> exact absurd hf (by decide)
  · rw [famF, if_neg h1, if_neg h2, if_pos h3] at hf; exact absurd hf (by decide)
  · exact h4
theorem okV_T {S : St} {s v : Int32} (hs : s ≠ 0) (h : okV S s v) : okT S v := by
  rcases h with h | h | ⟨-, h⟩ | ⟨-, h⟩ | ⟨-, h⟩
  · exact absurd h hs
  · exact Or.inl h
  · exact Or.inr (Or.inl h)
  · exact Or.inr (Or.inr (Or.inl h))
  · exact Or.inr (Or.inr (Or.inr h))
theorem li_100 : (100 : Int32) = nI 100 := rfl
theorem li_h : (100000 : Int32) = nI 100000 := by decide
theorem rc_n {d : Nat} (h : d ≤ 512) : rcN (nI (100000 + d)) = d := by unfold rcN; rw [tN_n (by omega)]; omega
theorem sub_h {d : Nat} : nI (100000 + d) - 100000 = nI d := by
  have e : nI (100000 + d) - nI 100000 = nI (100000 + d - 100000) := pk_sub (by omega)
  rw [li_h, e, Nat.add_sub_cancel_left]
theorem sub_100 {d : Nat} : nI (100 + d) - 100 = nI d := by
  have e : nI (100 + d) - nI 100 = nI (100 + d - 100) := pk_sub (by omega)
  rw [li_100, e, Nat.add_sub_cancel_left]
