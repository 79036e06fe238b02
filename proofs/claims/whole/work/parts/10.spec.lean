/-! ===== what the reference's methods answer, as functions ===== -/
def inB (v lo hi : Int32) : Bool := decide (lo ≤ v) && decide (v ≤ hi)
theorem inB_f1 {v lo hi : Int32} (h : v < lo) : inB v lo hi = false := by
  unfold inB
  rw [decide_eq_false (Int32.not_le.mpr h)]; rfl
theorem inB_f2 {v lo hi : Int32} (h : hi < v) : inB v lo hi = false := by
  unfold inB
  rw [decide_eq_false (Int32.not_le.mpr h)]; exact Bool.and_false _
theorem inB_t {v lo hi : Int32} (h : ¬ v < lo) (h2 : ¬ hi < v) : inB v lo hi = true := by
  unfold inB
  rw [decide_eq_true (Int32.not_lt.mp h), decide_eq_true (Int32.not_lt.mp h2)]; rfl
theorem inB_iff {v lo hi : Int32} : inB v lo hi = true ↔ lo ≤ v ∧ v ≤ hi := by simp [inB]
def fnd (p : Nat → Bool) : Nat → Nat → Option Nat
  | 0, _ => none
  | k + 1, i => match p i with
    | true => some i
    | false => fnd p k (i + 1)
def oI : Option Nat → Int32
  | some j => nI j
  | none => -3
theorem fnd_t {p : Nat → Bool} {k i : Nat} (h : p i = true) : fnd p (k + 1) i = some i := by simp [fnd, h]
theorem fnd_f {p : Nat → Bool} {k i : Nat} (h : p i = false) : fnd p (k + 1) i = fnd p k (i + 1) := by simp [fnd, h]
theorem fnd_spec (p : Nat → Bool) : ∀ k i, (∃ j, fnd p k i = some j ∧ i ≤ j ∧ j < i + k ∧ p j = true ∧ ∀ l, i ≤ l → l < j → p l = false) ∨ (fnd p k i = none ∧ ∀ l, i ≤ l → l < i + k → p l = false) := by
  intro k
  induction k with
  | zero => intro i; exact Or.inr ⟨rfl, fun l h1 h2 => by omega⟩
  | succ k ih =>
    intro i
    cases hp : p i with
    | true => exact Or.inl ⟨i, fnd_t hp, Nat.le_refl _, by omega, hp, fun l h1 h2 => by omega⟩
    | false =>
      rw [fnd_f hp]
      rcases ih (i + 1) with ⟨j, h1, h2, h3, h4, h5⟩ | ⟨h1, h2⟩
      · refine Or.inl ⟨j, h1, by omega, by omega, h4, fun l g1 g2 => ?_⟩
        by_cases hl : l = i
        · subst hl; exact hp
        · exact h5 l (by omega) g2
      · refine Or.inr ⟨h1, fun l g1 g2 => ?_⟩
        by_cases hl : l = i
        · subst hl; exact hp
        · exact h2 l (by omega) (by omega)
theorem fnd_lt {p : Nat → Bool} {k i j : Nat} (h : fnd p k i = some j) : j < i + k := by
  rcases fnd_spec p k i with ⟨j', h1, -, h3, -⟩ | ⟨h1, -⟩
  · rw [h1] at h; cases h; exact h3
  · rw [h1] at h; cases h
theorem fnd_none {p : Nat → Bool} {k i : Nat} (h : fnd p k i = none) : ∀ l, i ≤ l → l < i + k → p l = false := by
  rcases fnd_spec p k i with ⟨j', h1, -⟩ | ⟨-, h2⟩
  · rw [h1] at h; cases h
  · exact h2
theorem inc1 (i : Nat) : nI i + Int32.ofInt 1 = nI (i + 1) := nI_1 i
theorem li_1 : (1 : Int32) = nI 1 := rfl
theorem li_2 : (2 : Int32) = nI 2 := rfl
theorem li_3 : (3 : Int32) = nI 3 := rfl
theorem li_4 : (4 : Int32) = nI 4 := rfl
theorem li_5 : (5 : Int32) = nI 5 := rfl
theorem li_12 : (12 : Int32) = nI 12 := rfl
theorem li_60 : (60 : Int32) = nI 60 := rfl
theorem lcmp_ne {a b : Int64} (h : ¬ lg_cmp a b = 0) : ¬ a = b := by
  intro e; subst e; apply h; unfold lg_cmp; simp
theorem lcmp_eq {a b : Int64} (h : lg_cmp a b = 0) : a = b := by
  unfold lg_cmp at h
  split at h
  · exact absurd h (by decide)
  · split at h
    · assumption
    · exact absurd h (by decide)
def byP (S : St) (kind : Int32) (name : Int64) : Nat → Bool := fun c => decide (S.2.1 1 c = kind) && decide (S.2.2 c = name)
def orP (S : St) (b : Nat) (c : Int32) : Nat → Bool := fun i => decide (S.2.1 7 (60 * b + i) = c)
def laP (S : St) (b : Nat) : Nat → Bool := fun i => decide (S.2.1 4 (S.2.1 7 (60 * b + i)).toNatClampNeg = 0)
/-- the CONSTANT c behind the others of build row b, which has m -/
def apS (S : St) (b m : Nat) (c : Int32) : St := (S.1, u2 (u2 S.2.1 7 (60 * b + m) c) 6 b (nI (m + 1)), S.2.2)
theorem qs {Q : PQ} {dA : Nat → ClassId} {dm : Nat → Nat → Prop} {ad : Nat → Nat → Nat} {ct0 : Nat → Nat → va_E} {F : Int32 × St} {r : Int32} {S' : St} (h : Q (some (.int F.1)) dm ad (ctM dA ad ct0 F.2)) (e : F = (r, S')) : Q (some (.int r)) dm ad (ctM dA ad ct0 S') := by
  subst e; exact h
theorem qv {Q : PQ} {dA : Nat → ClassId} {dm : Nat → Nat → Prop} {ad : Nat → Nat → Nat} {ct0 : Nat → Nat → va_E} {F S' : St} (h : Q none dm ad (ctM dA ad ct0 F)) (e : F = S') : Q none dm ad (ctM dA ad ct0 S') := by
  subst e; exact h
theorem inB_n {v : Int32} {N : Nat} (hN : N < 2 ^ 30) (h : inB v 0 (nI N - 1) = true) : ∃ j, j < N ∧ v = nI j := by
  obtain ⟨h1, h2⟩ := inB_iff.mp h
  obtain ⟨j, hj, rfl⟩ := nI_of (Int32.not_lt.mpr h1)
  refine ⟨j, ?_, rfl⟩
  have e1 : (nI N - 1).toInt = (N : Int) - 1 := pk_sub_toInt (b := 1) hN (by decide)
  have e2 := Int32.le_iff_toInt_le.mp h2
  rw [e1, nI_toInt hj] at e2
  omega
theorem inB_nN {j N : Nat} (hN : N < 2 ^ 30) (hj : j < N) : inB (nI j) 0 (nI N - 1) = true := by
  refine inB_iff.mpr ⟨nI_pos' (by omega), ?_⟩
  have e1 : (nI N - 1).toInt = (N : Int) - 1 := pk_sub_toInt (b := 1) hN (by decide)
  refine Int32.le_iff_toInt_le.mpr ?_
  rw [e1, nI_toInt (by omega)]
  omega
theorem inB_l {v hi : Int32} {a b : Nat} {lo : Int32} (hl : lo = nI a) (hb : hi = nI b) (ha : a < 2 ^ 31) (hb2 : b < 2 ^ 31) (h : inB v lo hi = true) : ∃ j, a ≤ j ∧ j ≤ b ∧ v = nI j := by
  obtain ⟨h1, h2⟩ := inB_iff.mp h
  subst hl; subst hb
  have h0 : ¬ v < 0 := Int32.not_lt.mpr (Int32.le_trans (nI_pos' ha) h1)
  obtain ⟨j, hj, rfl⟩ := nI_of h0
  exact ⟨j, (nI_leI ha hj).mp h1, (nI_leI hj hb2).mp h2, rfl⟩
theorem inB_ln {j a b : Nat} (h1 : a ≤ j) (h2 : j ≤ b) (hb : b < 2 ^ 31) : inB (nI j) (nI a) (nI b) = true := inB_iff.mpr ⟨(nI_leI (by omega) (by omega)).mpr h1, (nI_leI (by omega) (by omega)).mpr h2⟩
/-! the numbers of a state, and what holds of them at every time -/
def nC (S : St) : Nat := (S.1 0).toNatClampNeg
def nR (S : St) : Nat := (S.1 8).toNatClampNeg
def nD (S : St) : Nat := min (S.1 11).toNatClampNeg 100000
def kN (S : St) (c : Nat) : Nat := (S.2.1 1 c).toNatClampNeg
def mb (S : St) (b : Nat) : Nat := (S.2.1 6 b).toNatClampNeg
def bc (S : St) (b i : Nat) : Nat := (S.2.1 7 (60 * b + i)).toNatClampNeg
def wN (S : St) (c : Nat) : Nat := (S.2.1 4 c).toNatClampNeg
def sz (S : St) (r : Nat) : Nat := (S.2.1 9 r).toNatClampNeg
def shN (S : St) (d : Nat) : Nat := (S.2.1 12 d).toNatClampNeg
def pN (S : St) (d : Nat) : Nat := (S.2.1 13 d).toNatClampNeg
def pmN (S : St) (s : Nat) : Nat := (S.2.1 16 s).toNatClampNeg
def cmN (S : St) (s : Nat) : Nat := (S.2.1 19 s).toNatClampNeg
/-- a THING's number: NOTHING, a CONSTANT, a ROW, a RECORD that is there -/
def okT (S : St) (v : Int32) : Prop := v = -1 ∨ (∃ c, c < nC S ∧ v = nI c) ∨ (∃ r, r < nR S ∧ v = nI (100 + r)) ∨ ∃ d, d < nD S ∧ v = nI (100000 + d)
def I_c (S : St) : Prop := S.1 0 = nI (nC S) ∧ nC S ≤ 60 ∧ (∀ c, c < nC S → S.2.1 1 c = nI (kN S c) ∧ kN S c < 6 ∧ (S.2.1 3 c = 0 ∨ S.2.1 3 c = 1 ∨ S.2.1 3 c = 2) ∧ S.2.1 4 c = nI (wN S c) ∧ wN S c ≤ 1000) ∧ ∀ c c', c < nC S → c' < nC S → kN S c = kN S c' → S.2.2 c = S.2.2 c' → c = c'
def I_z (S : St) : Prop := ∀ c, nC S ≤ c → c < 60 → S.2.1 4 c = 0 ∧ S.2.1 5 c = 0
def I_b (S : St) : Prop := ∀ b, b < 18 → S.2.1 6 b = nI (mb S b) ∧ mb S b ≤ nC S ∧ (∀ i, i < mb S b → S.2.1 7 (60 * b + i) = nI (bc S b i) ∧ bc S b i < nC S ∧ kN S (bc S b i) = b / 3) ∧ ∀ i j, i < mb S b → j < mb S b → bc S b i = bc S b j → i = j
def I_o (S : St) : Prop := ∀ c, c < nC S → ∃ i, i < mb S (3 * kN S c) ∧ bc S (3 * kN S c) i = c
def I_r (S : St) (t : Nat) : Prop := S.1 8 = nI (nR S) ∧ nR S ≤ t ∧ ∀ r, r < nR S → S.2.1 9 r = nI (sz S r) ∧ sz S r ≤ 12
def I_s (S : St) : Prop := ∀ s, s < 6 → S.2.1 16 s = nI (pmN S s) ∧ pmN S s ≤ 5 ∧ S.2.1 19 s = nI (cmN S s) ∧ cmN S s ≤ 4 ∧
  (∀ p, p < pmN S s → (S.2.1 17 (5 * s + p) = 0 ∨ S.2.1 17 (5 * s + p) = 1 ∨ S.2.1 17 (5 * s + p) = 2 ∨ S.2.1 17 (5 * s + p) = 3 ∨ S.2.1 17 (5 * s + p) = 4)) ∧
  ∀ c, c < cmN S s → ∃ a b, a < pmN S s ∧ b < pmN S s ∧ S.2.1 21 (4 * s + c) = nI a ∧ S.2.1 22 (4 * s + c) = nI b ∧ S.2.1 17 (5 * s + b) = 0 ∧
    ((S.2.1 20 (4 * s + c) = 0 ∧ S.2.1 17 (5 * s + a) = 0) ∨ (S.2.1 20 (4 * s + c) = 1 ∧ S.2.1 17 (5 * s + a) = 0) ∨ (S.2.1 20 (4 * s + c) = 2 ∧ S.2.1 17 (5 * s + a) = 3) ∨ (S.2.1 20 (4 * s + c) = 3 ∧ S.2.1 17 (5 * s + a) = 3) ∨ (S.2.1 20 (4 * s + c) = 4 ∧ (S.2.1 17 (5 * s + a) = 1 ∨ S.2.1 17 (5 * s + a) = 2)) ∨ (S.2.1 20 (4 * s + c) = 5 ∧ S.2.1 17 (5 * s + a) = 4))
/-- a value that a PART of a sort may hold -/
def okV (S : St) (sort v : Int32) : Prop := sort = 0 ∨ v = -1 ∨ ((sort = 1 ∨ sort = 2) ∧ ∃ c, c < nC S ∧ v = nI c) ∨ (sort = 3 ∧ ∃ r, r < nR S ∧ v = nI (100 + r)) ∨ (sort = 4 ∧ ∃ d, d < nD S ∧ v = nI (100000 + d))
def I_d (S : St) (t : Nat) : Prop := S.1 11 = nI (nD S) ∧ nD S ≤ t ∧ ∀ d, d < nD S → S.2.1 12 d = nI (shN S d) ∧ shN S d < 6 ∧ S.2.1 13 d = nI (pN S d) ∧ pN S d ≤ pmN S (shN S d) ∧ ∀ p, p < pN S d → (S.2.1 17 (5 * shN S d + p) = 0 ∧ ∃ q, q < 2 ^ 31 ∧ S.2.1 14 (5 * d + p) = nI q) ∨ (S.2.1 17 (5 * shN S d + p) ≠ 0 ∧ okV S (S.2.1 17 (5 * shN S d + p)) (S.2.1 14 (5 * d + p)))
def I_p (S : St) : Prop := (∀ p, p < 10 → okT S (S.2.1 15 p)) ∧ ∀ p, p < 5 → ∃ q, q < 10 ∧ S.2.1 24 p = nI q
/-- all of it, after at most t calls -/
def Inv (S : St) (t : Nat) : Prop := I_c S ∧ I_b S ∧ I_o S ∧ I_r S t ∧ I_s S ∧ I_d S t ∧ I_p S ∧ t ≤ 512 ∧ I_z S
theorem m1_n (N : Nat) (h : 0 < N) : nI N - 1 = nI (N - 1) := pk_sub (b := 1) h
/-! ===== the calls' answers and states ===== -/
def tN (x : Int32) : Nat := x.toNatClampNeg
theorem tN_n {n : Nat} (h : n < 2 ^ 31) : tN (nI n) = n := nI_clamp h
def isC (S : St) (c : Int32) : Bool := inB c 0 (S.1 0 - 1)
def F_arrange (S : St) (c bd : Int32) : Int32 × St :=
  if (isC S c && inB bd 1 2) = true then
    match fnd (orP S (3 * kN S (tN c) + tN bd) c) (mb S (3 * kN S (tN c) + tN bd)) 0 with
    | some _ => (-1, S)
    | none => (nI (mb S (3 * kN S (tN c) + tN bd)), apS S (3 * kN S (tN c) + tN bd) (mb S (3 * kN S (tN c) + tN bd)) c)
  else (-1, S)
def usr (x : Int64) (y : Int32) : Int64 := (x.toUInt64 >>> (y.toInt64.toUInt64 &&& Int64.toUInt64 63)).toInt64
def drw1 (seed : Int64) (n : Int32) : Int64 := seed + (n.toInt64 + 1) * (-7046029254386353131)
def drw2 (z : Int64) : Int64 := (z ^^^ usr z 30) * (-4658895280553007687)
def drw3 (z : Int64) : Int64 := (z ^^^ usr z 27) * (-7723592293110705685)
def drw (seed : Int64) (n : Int32) : Int64 := drw3 (drw2 (drw1 seed n)) ^^^ usr (drw3 (drw2 (drw1 seed n))) 31
def lrm (x y : Int64) : Int64 := x - x / y * y
def mdl (z : Int64) (n : Int32) : Int32 := (lrm (lrm (usr z 1) n.toInt64 * 2 + (z &&& 1)) n.toInt64).toInt32
def swp (a : Nat → Nat → Int32) (p q : Nat) : Nat → Nat → Int32 := u2 (u2 a 7 p (a 7 q)) 7 q (a 7 p)
def shufA (seed : Int64) (b : Nat) : Nat → (Nat → Nat → Int32) → (Nat → Nat → Int32)
  | 0, a => a
  | i + 1, a => shufA seed b i (swp a (60 * b + (i + 1)) (60 * b + tN (mdl (drw seed (nI (i + 1))) (nI (i + 2)))))
def F_shuffle (S : St) (kind bd : Int32) (seed : Int64) : Int32 × St :=
  if (inB kind 0 5 && inB bd 1 2) = true then (S.2.1 6 (3 * tN kind + tN bd), (S.1, shufA seed (3 * tN kind + tN bd) (mb S (3 * tN kind + tN bd) - 1) S.2.1, S.2.2)) else (-1, S)
def F_kind (S : St) (kind bd i : Int32) : Int32 :=
  if (inB kind 0 5 && inB bd 0 2) = true then (if i = -3 then S.2.1 6 (3 * tN kind + tN bd) else if inB i 0 (S.2.1 6 (3 * tN kind + tN bd) - 1) = true then S.2.1 7 (60 * (3 * tN kind + tN bd) + tN i) else -1) else -1
def F_named (S : St) (kind : Int32) (name : Int64) : Int32 := if inB kind 0 5 = true then oI (fnd (byP S kind name) (nC S) 0) else -1
def F_order (S : St) (c bd : Int32) : Int32 := if (isC S c && inB bd 0 2) = true then oI (fnd (orP S (3 * kN S (tN c) + tN bd) c) (mb S (3 * kN S (tN c) + tN bd)) 0) else -1
def F_about (S : St) (c what : Int32) : Int32 := if (isC S c && inB what 0 3) = true then (if what = 0 then S.2.1 1 (tN c) else if what = 1 then S.2.1 3 (tN c) else if what = 2 then S.2.1 4 (tN c) else S.2.1 5 (tN c)) else -1
def stS (S : St) (c : Nat) : St := (S.1, u2 S.2.1 27 (kN S c) (if S.2.1 27 (kN S c) = -3 then S.1 28 else S.2.1 27 (kN S c)), S.2.2)
def actS (S : St) : St := (u1 S.1 28 (S.1 28 + 1), S.2)
def wor (body w : Int32) : Int32 := if body = 0 then w else if body = 1 then 2 * w else 2 * w - 3
def F_worth (S : St) (c v : Int32) : Int32 × St := if isC S c = true then (wor (S.2.1 3 (tN c)) (v + oI (fnd (orP S (3 * kN S (tN c)) c) (mb S (3 * kN S (tN c))) 0)), actS (stS S (tN c))) else (-1, S)
def F_weigh (S : St) (c w : Int32) : Int32 × St := if (isC S c && inB w 0 1000) = true then (S.2.1 4 (tN c), (S.1, u2 S.2.1 4 (tN c) w, S.2.2)) else (-1, S)
def lackF (S : St) (b : Nat) : Int32 := match fnd (laP S b) (mb S b) 0 with
  | some i => -10 - S.2.1 7 (60 * b + i)
  | none => if S.2.1 6 b = 0 then 1 else 0
def F_table (S : St) (kind bd : Int32) : Int32 := if (inB kind 0 5 && inB bd 0 2) = true then lackF S (3 * tN kind + tN bd) else -1
def sumW (S : St) (b : Nat) : Nat → Nat
  | 0 => 0
  | i + 1 => sumW S b i + wN S (bc S b i)
def pick (S : St) (b : Nat) : Nat → Nat → Nat → Nat
  | 0, _, i => i
  | k + 1, l, i => if wN S (bc S b i) ≤ l then pick S b k (l - wN S (bc S b i)) (i + 1) else i
def drS (S : St) (c : Nat) : St := actS (stS (u1 S.1 29 (S.1 29 + 1), u2 S.2.1 5 c (S.2.1 5 c + 1), S.2.2) c)
def F_draw (S : St) (kind bd : Int32) (seed : Int64) (n : Int32) : Int32 × St :=
  if (inB kind 0 5 && inB bd 0 2 && decide (0 ≤ n)) = true then
    (if lackF S (3 * tN kind + tN bd) = 0 then (S.2.1 7 (60 * (3 * tN kind + tN bd) + pick S (3 * tN kind + tN bd) (mb S (3 * tN kind + tN bd)) (tN (mdl (drw seed n) (nI (sumW S (3 * tN kind + tN bd) (mb S (3 * tN kind + tN bd)))))) 0),
      drS S (bc S (3 * tN kind + tN bd) (pick S (3 * tN kind + tN bd) (mb S (3 * tN kind + tN bd)) (tN (mdl (drw seed n) (nI (sumW S (3 * tN kind + tN bd) (mb S (3 * tN kind + tN bd)))))) 0))) else (-3, S))
  else (-1, S)
def famF (S : St) (v : Int32) : Int32 := if v = -1 then 0 else if v < 100 then 1 + S.2.1 3 (tN v) else if v < 100000 then 4 else 5
def F_hold (S : St) (p c : Int32) : Int32 × St := if (inB p 0 9 && isC S c) = true then (S.2.1 1 (tN c), actS (stS (S.1, u2 S.2.1 15 (tN p) c, S.2.2) (tN c))) else (-1, S)
theorem dec1 (i : Nat) : nI (i + 1) + Int32.ofInt (-1) = nI i := pk_m1 i
theorem shufA_o (seed : Int64) (b : Nat) : ∀ i a k x, k ≠ 7 → shufA seed b i a k x = a k x := by
  intro i
  induction i with
  | zero => intro a k x _; rfl
  | succ i ih =>
    intro a k x hk
    show shufA seed b i _ k x = _
    rw [ih _ k x hk]
    unfold swp
    rw [u2_n (fun h => hk h.1), u2_n (fun h => hk h.1)]
def lackM (S : St) (b : Nat) (o : Option Nat) : Int32 := match o with
  | some i => -10 - S.2.1 7 (60 * b + i)
  | none => if S.2.1 6 b = 0 then 1 else 0
def chN (name : Int64) (i : Nat) : Int32 := (usr name (8 * nI i)).toInt32 &&& 255
def letB (c : Int32) : Bool := decide (97 ≤ c) && decide (c ≤ 122)
theorem letB_f1 {c : Int32} (h : c < 97) : letB c = false := by unfold letB; rw [decide_eq_false (Int32.not_le.mpr h)]; rfl
theorem letB_f2 {c : Int32} (h : 122 < c) : letB c = false := by unfold letB; rw [decide_eq_false (Int32.not_le.mpr h)]; exact Bool.and_false _
theorem letB_t {c : Int32} (h : ¬ c < 97) (h2 : ¬ 122 < c) : letB c = true := by unfold letB; rw [decide_eq_true (Int32.not_lt.mp h), decide_eq_true (Int32.not_lt.mp h2)]; rfl
def nmL (name : Int64) : Nat → Nat → Bool → Bool → Nat → Bool
  | 0, _, is, _, n => is && decide (0 < n)
  | k + 1, i, is, en, n => nmL name k (i + 1) (is && (decide (chN name i = 0) || (!(en || decide (chN name i = 0)) && letB (chN name i)))) (en || decide (chN name i = 0)) (n + if chN name i = 0 then 0 else 1)
def nameB (name : Int64) : Bool := nmL name 8 0 true false 0
theorem bI_or (a b : Bool) : bI a ||| bI b = bI (a || b) := by cases a <;> cases b <;> decide
theorem bI_and (a b : Bool) : bI a &&& bI b = bI (a && b) := by cases a <;> cases b <;> decide
def coS (S : St) (kind : Int32) (name : Int64) (body : Int32) : St := (u1 S.1 0 (S.1 0 + 1), u2 (u2 S.2.1 1 (nC S) kind) 3 (nC S) body, u1 S.2.2 (nC S) name)
def F_constant (S : St) (kind : Int32) (name : Int64) (body : Int32) : Int32 × St :=
  if (inB kind 0 5 && nameB name && decide (fnd (byP S kind name) (nC S) 0 = none) && inB body 0 2) = true then
    (if S.1 0 = 60 then (-2, S) else (nI (nC S), apS (coS S kind name body) (3 * tN kind) (mb S (3 * tN kind)) (nI (nC S)))) else (-1, S)
def zerA (r : Nat) : Nat → (Nat → Nat → Int32) → (Nat → Nat → Int32)
  | 0, a => a
  | i + 1, a => u2 (zerA r i a) 10 (12 * r + i) 0
def F_row (S : St) (p n : Int32) : Int32 × St :=
  if (inB p 0 9 && (decide (n = -3) || inB n 0 12)) = true then
    (if n = -3 then (1, (S.1, u2 S.2.1 15 (tN p) (-1), S.2.2)) else (1, (u1 S.1 8 (S.1 8 + 1), u2 (zerA (nR S) 12 (u2 S.2.1 9 (nR S) n)) 15 (tN p) (nI (100 + nR S)), S.2.2))) else (-1, S)
def F_item (S : St) (p i v : Int32) : Int32 × St :=
  if (inB p 0 9 && decide (famF S (S.2.1 15 (tN p)) = 4)) = true then
    (if inB i 0 (S.2.1 9 (tN (S.2.1 15 (tN p)) - 100) - 1) = true then (S.2.1 10 (12 * (tN (S.2.1 15 (tN p)) - 100) + tN i), (S.1, u2 S.2.1 10 (12 * (tN (S.2.1 15 (tN p)) - 100) + tN i) v, S.2.2)) else (-1, S)) else (-1, S)
def F_share (S : St) (p q : Int32) : Int32 × St := if (inB p 0 9 && inB q 0 9) = true then (famF S (S.2.1 15 (tN q)), (S.1, u2 S.2.1 15 (tN p) (S.2.1 15 (tN q)), S.2.2)) else (-1, S)
def F_family (S : St) (p : Int32) : Int32 := if inB p 0 9 = true then famF S (S.2.1 15 (tN p)) else -1
def F_is (S : St) (p f : Int32) : Int32 := if (inB p 0 9 && inB f 1 5) = true then bI (decide (famF S (S.2.1 15 (tN p)) = f) || (decide (famF S (S.2.1 15 (tN p)) = 3) && decide (f = 2))) else -1
theorem nI_m1 {c : Nat} (h : c < 2 ^ 31) : ¬ nI c = -1 := fun z => absurd (congrArg (fun x => decide (x < 0)) z) (by show ¬ decide (nI c < 0) = decide ((-1 : Int32) < 0); rw [decide_eq_false (nI_pos h)]; decide)
theorem okT_fam {S : St} {v : Int32} (h : okT S v) (hR : nR S ≤ 512) (hC : nC S ≤ 60) : v = -1 ∨ (v < 100 ∧ ¬ v = -1 ∧ ∃ c, c < nC S ∧ v = nI c) ∨ (¬ v = -1 ∧ ¬ v < 100 ∧ v < 100000 ∧ ∃ r, r < nR S ∧ v = nI (100 + r)) ∨ (¬ v = -1 ∧ ¬ v < 100 ∧ ¬ v < 100000 ∧ ∃ d, d < nD S ∧ v = nI (100000 + d)) := by
  have l1 : (100 : Int32) = nI 100 := rfl
  have l2 : (100000 : Int32) = nI 100000 := by decide
  have hD : nD S ≤ 100000 := Nat.min_le_right _ _
  rcases h with h | ⟨c, hc, rfl⟩ | ⟨r, hr, rfl⟩ | ⟨d, hd, rfl⟩
  · exact Or.inl h
  · exact Or.inr (Or.inl ⟨by rw [l1]; exact (nI_ltI (by omega) (by decide)).mpr (by omega), nI_m1 (by omega), c, hc, rfl⟩)
  · exact Or.inr (Or.inr (Or.inl ⟨nI_m1 (by omega), by rw [l1]; exact fun z => absurd ((nI_ltI (by omega) (by decide)).mp z) (by omega), by rw [l2]; exact (nI_ltI (by omega) (by decide)).mpr (by omega), r, hr, rfl⟩))
  · exact Or.inr (Or.inr (Or.inr ⟨nI_m1 (by omega), by rw [l1]; exact fun z => absurd ((nI_ltI (by omega) (by decide)).mp z) (by omega), by rw [l2]; exact fun z => absurd ((nI_ltI (by omega) (by decide)).mp z) (by omega), d, hd, rfl⟩))
theorem sumW_le {S : St} {b m : Nat} (hm : m ≤ 60) (h : ∀ i, i < m → wN S (bc S b i) ≤ 1000) : sumW S b m ≤ 60000 := by
  have key : ∀ j, j ≤ m → sumW S b j ≤ 1000 * j := by
    intro j
    induction j with
    | zero => intro _; exact Nat.le_refl _
    | succ j ih => intro hj; have := ih (by omega); have := h j (by omega); rw [sumW]; omega
  have := key m (Nat.le_refl _)
  omega
theorem lack_sum {S : St} {b : Nat} (hw : ∀ i, i < mb S b → S.2.1 4 (bc S b i) = nI (wN S (bc S b i)) ∧ S.2.1 7 (60 * b + i) = nI (bc S b i) ∧ bc S b i < 60) (hm : S.2.1 6 b = nI (mb S b)) (h : lackF S b = 0) : 0 < sumW S b (mb S b) := by
  have h60 : ∀ c, c < 60 → ¬ (-10 - nI c = (0 : Int32)) := by decide +kernel
  unfold lackF at h
  rcases fnd_spec (laP S b) (mb S b) 0 with ⟨j, e, -, hj, -⟩ | ⟨e, hn⟩
  · rw [e] at h
    obtain ⟨-, e7, hlt⟩ := hw j (by omega)
    have h' : -10 - S.2.1 7 (60 * b + j) = 0 := h
    rw [e7] at h'
    exact absurd h' (h60 _ hlt)
  · rw [e] at h
    have h' : (if S.2.1 6 b = 0 then (1 : Int32) else 0) = 0 := h
    have hm0 : 0 < mb S b := by
      rcases Nat.eq_zero_or_pos (mb S b) with z | z
      · exfalso
        by_cases h6 : S.2.1 6 b = 0
        · rw [if_pos h6] at h'; exact absurd h' (by decide)
        · exact h6 (by rw [hm, z]; rfl)
      · exact z
    have hp : ∀ i, i < mb S b → 0 < wN S (bc S b i) := fun i hi => by
      have hla := hn i (Nat.zero_le _) (by omega)
      rcases Nat.eq_zero_or_pos (wN S (bc S b i)) with z | z
      · exfalso
        have e4 := (hw i hi).1
        rw [z] at e4
        have ht : laP S b i = true := decide_eq_true e4
        rw [ht] at hla
        cases hla
      · exact z
    obtain ⟨k, hk⟩ : ∃ k, mb S b = k + 1 := ⟨mb S b - 1, by omega⟩
    rw [hk, sumW]
    have := hp k (by omega)
    omega
theorem pick_i {S : St} {b m : Nat} : ∀ k l i, i + k = m → l + sumW S b i < sumW S b m → pick S b k l i < m := by
  intro k
  induction k with
  | zero => intro l i hi hs; rw [Nat.add_zero] at hi; subst hi; omega
  | succ k ih =>
    intro l i hi hs
    rw [pick]
    split
    · exact ih _ _ (by omega) (by rw [sumW]; omega)
    · omega
theorem pick_lt {S : St} {b l m : Nat} (h : l < sumW S b m) : pick S b m l 0 < m := pick_i m l 0 (by omega) (by simpa [sumW] using h)
theorem fam4 {S : St} {v : Int32} (h : okT S v) (hR : nR S ≤ 512) (hC : nC S ≤ 60) (hb : ∀ c, c < nC S → S.2.1 1 c = nI (kN S c) ∧ kN S c < 6 ∧ (S.2.1 3 c = 0 ∨ S.2.1 3 c = 1 ∨ S.2.1 3 c = 2) ∧ S.2.1 4 c = nI (wN S c) ∧ wN S c ≤ 1000) (hf : famF S v = 4) : ∃ r, r < nR S ∧ v = nI (100 + r) := by
  rcases okT_fam h hR hC with h1 | ⟨h1, h2, c, hc, rfl⟩ | ⟨h1, h2, h3, h4⟩ | ⟨h1, h2, h3, h4⟩
  · rw [famF, if_pos h1] at hf; exact absurd hf (by decide)
  · rw [famF, if_neg h2, if_pos h1, tN_n (by omega)] at hf
    rcases (hb c hc).2.2.1 with z | z | z <;> rw [z] at hf <;> exact absurd hf (by decide)
  · exact h4
  · rw [famF, if_neg h1, if_neg h2, if_neg h3] at hf; exact absurd hf (by decide)
