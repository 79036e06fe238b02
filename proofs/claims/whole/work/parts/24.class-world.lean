/-! ===== the class's world: its cells as a function of the state ===== -/
def tr (ad : Nat → Nat → Nat) (v : Int32) : Option Nat := if v = -1 then none else if v < 100 then some (ad 4 (tN v)) else if v < 100000 then some (ad 6 (tN v - 100)) else some (ad 8 (tN v - 100000))
def fo (S : St) (c : Nat) : Int32 := oI (fnd (orP S (3 * kN S c) (nI c)) (mb S (3 * kN S c)) 0)
def coF (ad : Nat → Nat → Nat) (S : St) : Nat → Option Nat := fun j => if j < nC S then some (ad 4 j) else none
def lnF (ad : Nat → Nat → Nat) (S : St) (b : Nat) : Nat → Option Nat := fun j => if j < mb S b then some (ad 4 (bc S b j)) else none
def ckR (ad : Nat → Nat → Nat) (S : St) (s : Nat) : Nat → Option Nat := fun c => if c < cmN S s then some (ad 15 (4 * s + c)) else none
def itF (S : St) (r : Nat) : Nat → Int32 := fun j => if j < sz S r then S.2.1 10 (12 * r + j) else 0
def soF (S : St) (s : Nat) : Nat → Int32 := fun p => if p < 5 then S.2.1 17 (5 * s + p) else 0
def liF (S : St) (s : Nat) : Nat → Int32 := fun p => if p < 5 then S.2.1 18 (5 * s + p) else 0
def flB (S : St) (f i p : Nat) : Bool := (decide (i < nD S) || decide (p < f)) && decide (p < pN S i)
def nuF (S : St) (f i : Nat) : Nat → Int32 := fun p => if (flB S f i p && decide (S.2.1 17 (5 * shN S i + p) = 0)) = true then S.2.1 14 (5 * i + p) else 0
def thF (ad : Nat → Nat → Nat) (S : St) (f i : Nat) : Nat → Option Nat := fun p => if (flB S f i p && !decide (S.2.1 17 (5 * shN S i + p) = 0)) = true then tr ad (S.2.1 14 (5 * i + p)) else none
def plF (ad : Nat → Nat → Nat) (S : St) : Nat → Option Nat := fun j => if j < 10 then tr ad (S.2.1 15 j) else none
theorem pl_t {ad : Nat → Nat → Nat} {S : St} {j : Nat} (h : j < 10) : plF ad S j = tr ad (S.2.1 15 j) := if_pos h
theorem pl_w {ad : Nat → Nat → Nat} {S : St} {j : Nat} {v : Int32} (h : j < 10) : plF ad (S.1, u2 S.2.1 15 j v, S.2.2) j = tr ad v := (pl_t h).trans (congrArg (tr ad) (show u2 S.2.1 15 j v 15 j = v from u2_s))
def cw1 (dA : Nat → ClassId) (ad : Nat → Nat → Nat) (S : St) (i : Nat) : va_E := match Nat.beq i 0 with
  | true => rfs dA 2 60 (coF ad S)
  | false => match Nat.beq i 2 with
  | true => rfs dA 3 18 (fun j => some (ad 2 j))
  | false => match Nat.beq i 3 with
  | true => ins dA 6 (S.2.1 27)
  | false => match Nat.beq i 6 with
  | true => rfs dA 4 10 (plF ad S)
  | false => match Nat.beq i 7 with
  | true => rfs dA 5 6 (fun j => some (ad 11 j))
  | false => match Nat.beq i 8 with
  | true => ins dA 5 (S.2.1 23)
  | false => ins dA 5 (S.2.1 24)
def cw (dA : Nat → ClassId) (ad : Nat → Nat → Nat) (Sm S : St) (f : Nat) : Nat → Nat → va_E := fun k i => match Nat.beq k 0 with
  | true => .inr (9, [.ref (ad 1 0), .int (S.1 0), .ref (ad 1 2), .ref (ad 1 3), .int (S.1 28), .int (S.1 29), .ref (ad 1 6), .ref (ad 1 7), .ref (ad 1 8), .ref (ad 1 9), .int (S.1 11), .int (S.1 25), .int (S.1 26)])
  | false => match Nat.beq k 1 with
  | true => cw1 dA ad S i
  | false => match Nat.beq k 2 with
  | true => .inr (0, [.ref (ad 3 i), .int (S.2.1 6 i)])
  | false => match Nat.beq k 3 with
  | true => rfs dA 2 60 (lnF ad S i)
  | false => match Nat.beq k 4 with
  | true => .inr (cb (S.2.1 3 i), [.ref (ad 5 i), .int (S.2.1 4 i), .int (S.2.1 5 i)])
  | false => match Nat.beq k 5 with
  | true => .inr (2, [.int (nI i), .int (S.2.1 1 i), .long (S.2.2 i), .int (fo S i)])
  | false => match Nat.beq k 6 with
  | true => .inr (6, [.ref (ad 7 i)])
  | false => match Nat.beq k 7 with
  | true => ins dA (sz S i) (itF S i)
  | false => match Nat.beq k 8 with
  | true => .inr (4, [.ref (ad 11 (shN S i)), .int (S.2.1 13 i), .ref (ad 9 i), .ref (ad 10 i)])
  | false => match Nat.beq k 9 with
  | true => ins dA (pN S i) (nuF S f i)
  | false => match Nat.beq k 10 with
  | true => rfs dA 4 (pN S i) (thF ad S f i)
  | false => match Nat.beq k 11 with
  | true => .inr (7, [.int (nI i), .ref (ad 12 i), .ref (ad 13 i), .int (S.2.1 16 i), .ref (ad 14 i), .int (S.2.1 19 i)])
  | false => match Nat.beq k 12 with
  | true => ins dA 5 (soF S i)
  | false => match Nat.beq k 13 with
  | true => ins dA 5 (liF S i)
  | false => match Nat.beq k 14 with
  | true => rfs dA 6 4 (ckR ad S i)
  | false => match Nat.beq k 15 with
  | true => .inr (1, [.int (S.2.1 20 i), .int (S.2.1 21 i), .int (S.2.1 22 i)])
  | false => match Nat.beq k 16 with
  | true => mO ad Sm
  | false => match Nat.beq k 17 with
  | true => mA dA Sm i
  | false => .inr (0, [])
def dmW (S : St) (τ : Nat) : Nat → Nat → Prop := fun k i => match Nat.beq k 0 with
  | true => i = 0
  | false => match Nat.beq k 1 with
  | true => i = 0 ∨ i = 2 ∨ i = 3 ∨ i = 6 ∨ i = 7 ∨ i = 8 ∨ i = 9
  | false => match Nat.beq k 2 with
  | true => i < 18
  | false => match Nat.beq k 3 with
  | true => i < 18
  | false => match Nat.beq k 4 with
  | true => i < nC S
  | false => match Nat.beq k 5 with
  | true => i < nC S
  | false => match Nat.beq k 6 with
  | true => i < nR S
  | false => match Nat.beq k 7 with
  | true => i < nR S
  | false => match Nat.beq k 8 with
  | true => i < nD S + τ
  | false => match Nat.beq k 9 with
  | true => i < nD S + τ
  | false => match Nat.beq k 10 with
  | true => i < nD S + τ
  | false => match Nat.beq k 11 with
  | true => i < 6
  | false => match Nat.beq k 12 with
  | true => i < 6
  | false => match Nat.beq k 13 with
  | true => i < 6
  | false => match Nat.beq k 14 with
  | true => i < 6
  | false => match Nat.beq k 15 with
  | true => i < 24 ∧ i % 4 < cmN S (i / 4)
  | false => match Nat.beq k 16 with
  | true => i = 0
  | false => match Nat.beq k 17 with
  | true => mIsA i = true
  | false => False
theorem cw_0 {dA : Nat → ClassId} {ad : Nat → Nat → Nat} {Sm S : St} {f i : Nat} : cw dA ad Sm S f 0 i = .inr (9, [.ref (ad 1 0), .int (S.1 0), .ref (ad 1 2), .ref (ad 1 3), .int (S.1 28), .int (S.1 29), .ref (ad 1 6), .ref (ad 1 7), .ref (ad 1 8), .ref (ad 1 9), .int (S.1 11), .int (S.1 25), .int (S.1 26)]) := rfl
theorem cw_1 {dA : Nat → ClassId} {ad : Nat → Nat → Nat} {Sm S : St} {f i : Nat} : cw dA ad Sm S f 1 i = cw1 dA ad S i := rfl
theorem cw_2 {dA : Nat → ClassId} {ad : Nat → Nat → Nat} {Sm S : St} {f i : Nat} : cw dA ad Sm S f 2 i = .inr (0, [.ref (ad 3 i), .int (S.2.1 6 i)]) := rfl
theorem cw_3 {dA : Nat → ClassId} {ad : Nat → Nat → Nat} {Sm S : St} {f i : Nat} : cw dA ad Sm S f 3 i = rfs dA 2 60 (lnF ad S i) := rfl
theorem cw_4 {dA : Nat → ClassId} {ad : Nat → Nat → Nat} {Sm S : St} {f i : Nat} : cw dA ad Sm S f 4 i = .inr (cb (S.2.1 3 i), [.ref (ad 5 i), .int (S.2.1 4 i), .int (S.2.1 5 i)]) := rfl
theorem cw_5 {dA : Nat → ClassId} {ad : Nat → Nat → Nat} {Sm S : St} {f i : Nat} : cw dA ad Sm S f 5 i = .inr (2, [.int (nI i), .int (S.2.1 1 i), .long (S.2.2 i), .int (fo S i)]) := rfl
theorem cw_6 {dA : Nat → ClassId} {ad : Nat → Nat → Nat} {Sm S : St} {f i : Nat} : cw dA ad Sm S f 6 i = .inr (6, [.ref (ad 7 i)]) := rfl
theorem cw_7 {dA : Nat → ClassId} {ad : Nat → Nat → Nat} {Sm S : St} {f i : Nat} : cw dA ad Sm S f 7 i = ins dA (sz S i) (itF S i) := rfl
theorem cw_8 {dA : Nat → ClassId} {ad : Nat → Nat → Nat} {Sm S : St} {f i : Nat} : cw dA ad Sm S f 8 i = .inr (4, [.ref (ad 11 (shN S i)), .int (S.2.1 13 i), .ref (ad 9 i), .ref (ad 10 i)]) := rfl
theorem cw_9 {dA : Nat → ClassId} {ad : Nat → Nat → Nat} {Sm S : St} {f i : Nat} : cw dA ad Sm S f 9 i = ins dA (pN S i) (nuF S f i) := rfl
theorem cw_10 {dA : Nat → ClassId} {ad : Nat → Nat → Nat} {Sm S : St} {f i : Nat} : cw dA ad Sm S f 10 i = rfs dA 4 (pN S i) (thF ad S f i) := rfl
theorem cw_11 {dA : Nat → ClassId} {ad : Nat → Nat → Nat} {Sm S : St} {f i : Nat} : cw dA ad Sm S f 11 i = .inr (7, [.int (nI i), .ref (ad 12 i), .ref (ad 13 i), .int (S.2.1 16 i), .ref (ad 14 i), .int (S.2.1 19 i)]) := rfl
theorem cw_12 {dA : Nat → ClassId} {ad : Nat → Nat → Nat} {Sm S : St} {f i : Nat} : cw dA ad Sm S f 12 i = ins dA 5 (soF S i) := rfl
theorem cw_13 {dA : Nat → ClassId} {ad : Nat → Nat → Nat} {Sm S : St} {f i : Nat} : cw dA ad Sm S f 13 i = ins dA 5 (liF S i) := rfl
theorem cw_14 {dA : Nat → ClassId} {ad : Nat → Nat → Nat} {Sm S : St} {f i : Nat} : cw dA ad Sm S f 14 i = rfs dA 6 4 (ckR ad S i) := rfl
theorem cw_15 {dA : Nat → ClassId} {ad : Nat → Nat → Nat} {Sm S : St} {f i : Nat} : cw dA ad Sm S f 15 i = .inr (1, [.int (S.2.1 20 i), .int (S.2.1 21 i), .int (S.2.1 22 i)]) := rfl
theorem cw_16 {dA : Nat → ClassId} {ad : Nat → Nat → Nat} {Sm S : St} {f i : Nat} : cw dA ad Sm S f 16 i = mO ad Sm := rfl
theorem cw_17 {dA : Nat → ClassId} {ad : Nat → Nat → Nat} {Sm S : St} {f i : Nat} : cw dA ad Sm S f 17 i = mA dA Sm i := rfl
theorem dmW_0 {S : St} {τ i : Nat} : dmW S τ 0 i = (i = 0) := rfl
theorem dmW_1 {S : St} {τ i : Nat} : dmW S τ 1 i = (i = 0 ∨ i = 2 ∨ i = 3 ∨ i = 6 ∨ i = 7 ∨ i = 8 ∨ i = 9) := rfl
theorem dmW_2 {S : St} {τ i : Nat} : dmW S τ 2 i = (i < 18) := rfl
theorem dmW_3 {S : St} {τ i : Nat} : dmW S τ 3 i = (i < 18) := rfl
theorem dmW_4 {S : St} {τ i : Nat} : dmW S τ 4 i = (i < nC S) := rfl
theorem dmW_5 {S : St} {τ i : Nat} : dmW S τ 5 i = (i < nC S) := rfl
theorem dmW_6 {S : St} {τ i : Nat} : dmW S τ 6 i = (i < nR S) := rfl
theorem dmW_7 {S : St} {τ i : Nat} : dmW S τ 7 i = (i < nR S) := rfl
theorem dmW_8 {S : St} {τ i : Nat} : dmW S τ 8 i = (i < nD S + τ) := rfl
theorem dmW_9 {S : St} {τ i : Nat} : dmW S τ 9 i = (i < nD S + τ) := rfl
theorem dmW_10 {S : St} {τ i : Nat} : dmW S τ 10 i = (i < nD S + τ) := rfl
theorem dmW_11 {S : St} {τ i : Nat} : dmW S τ 11 i = (i < 6) := rfl
theorem dmW_12 {S : St} {τ i : Nat} : dmW S τ 12 i = (i < 6) := rfl
theorem dmW_13 {S : St} {τ i : Nat} : dmW S τ 13 i = (i < 6) := rfl
theorem dmW_14 {S : St} {τ i : Nat} : dmW S τ 14 i = (i < 6) := rfl
theorem dmW_15 {S : St} {τ i : Nat} : dmW S τ 15 i = (i < 24 ∧ i % 4 < cmN S (i / 4)) := rfl
theorem dmW_16 {S : St} {τ i : Nat} : dmW S τ 16 i = (i = 0) := rfl
theorem dmW_17 {S : St} {τ i : Nat} : dmW S τ 17 i = (mIsA i = true) := rfl
theorem dmW_big {S : St} {τ i k : Nat} (h : dmW S τ k i) : k < 18 := by
  rcases Nat.lt_or_ge k 18 with z | z
  · exact z
  · exfalso
    obtain ⟨j, rfl⟩ : ∃ j, k = j + 18 := ⟨k - 18, by omega⟩
    exact h
theorem dmW_M (S : St) (τ : Nat) : dmM (dmW S τ) := ⟨rfl, fun _ h => h, fun _ h => h⟩
theorem cw_M (dA : Nat → ClassId) (ad : Nat → Nat → Nat) (Sm Sm' S : St) (f : Nat) : ctM dA ad (cw dA ad Sm S f) Sm' = cw dA ad Sm' S f := by
  funext k i
  rcases Nat.lt_or_ge k 18 with h | h
  · match k, h with
    | 0, _ => rfl
    | 1, _ => rfl
    | 2, _ => rfl
    | 3, _ => rfl
    | 4, _ => rfl
    | 5, _ => rfl
    | 6, _ => rfl
    | 7, _ => rfl
    | 8, _ => rfl
    | 9, _ => rfl
    | 10, _ => rfl
    | 11, _ => rfl
    | 12, _ => rfl
    | 13, _ => rfl
    | 14, _ => rfl
    | 15, _ => rfl
    | 16, _ => rfl
    | 17, _ => rfl
    | q + 18, h => exact absurd h (by omega)
  · rw [ctM_n (by omega) (by omega)]
    obtain ⟨j, rfl⟩ : ∃ j, k = j + 18 := ⟨k - 18, by omega⟩
    rfl
/-- to show that two worlds say the same: pool by pool -/
theorem cw_cases {P : Nat → Nat → Prop} {S : St} {τ : Nat} (h0 : ∀ i, (i = 0) → P 0 i) (h1 : ∀ i, (i = 0 ∨ i = 2 ∨ i = 3 ∨ i = 6 ∨ i = 7 ∨ i = 8 ∨ i = 9) → P 1 i) (h2 : ∀ i, (i < 18) → P 2 i) (h3 : ∀ i, (i < 18) → P 3 i) (h4 : ∀ i, (i < nC S) → P 4 i) (h5 : ∀ i, (i < nC S) → P 5 i) (h6 : ∀ i, (i < nR S) → P 6 i) (h7 : ∀ i, (i < nR S) → P 7 i) (h8 : ∀ i, (i < nD S + τ) → P 8 i) (h9 : ∀ i, (i < nD S + τ) → P 9 i) (h10 : ∀ i, (i < nD S + τ) → P 10 i) (h11 : ∀ i, (i < 6) → P 11 i) (h12 : ∀ i, (i < 6) → P 12 i) (h13 : ∀ i, (i < 6) → P 13 i) (h14 : ∀ i, (i < 6) → P 14 i) (h15 : ∀ i, (i < 24 ∧ i % 4 < cmN S (i / 4)) → P 15 i) (h16 : ∀ i, (i = 0) → P 16 i) (h17 : ∀ i, (mIsA i = true) → P 17 i) : ∀ k i, dmW S τ k i → P k i := by
  intro k i hd
  match k, dmW_big hd with
  | 0, _ => exact h0 i hd
  | 1, _ => exact h1 i hd
  | 2, _ => exact h2 i hd
  | 3, _ => exact h3 i hd
  | 4, _ => exact h4 i hd
  | 5, _ => exact h5 i hd
  | 6, _ => exact h6 i hd
  | 7, _ => exact h7 i hd
  | 8, _ => exact h8 i hd
  | 9, _ => exact h9 i hd
  | 10, _ => exact h10 i hd
  | 11, _ => exact h11 i hd
  | 12, _ => exact h12 i hd
  | 13, _ => exact h13 i hd
  | 14, _ => exact h14 i hd
  | 15, _ => exact h15 i hd
  | 16, _ => exact h16 i hd
  | 17, _ => exact h17 i hd
  | q + 18, h => exact absurd h (by omega)
section XW
variable {b0 : Nat} {D : va_G} {dA : Nat → ClassId} {y : MethodName} {cc : ByteArray} {nL : Nat} {ret : Option FieldType} {R : Room} {EX : Array Value → State → Prop} {QF : List Frame → Array Value → State → State → Prop} {pc n t : Nat} {lv : Nat → Option Value} {st : List Value} {ad : Nat → Nat → Nat} {cells slots : Nat} {Sm S : St} {f τ : Nat} {idx : Nat}
theorem w_put4 {v : Int32} (hd : dc cc pc (.putfield idx) 3 n) (hg : FP y.cls idx 9 4 .int false) (kk : E b0 D dA y cc nL ret R EX QF n lv (st) (dmW (u1 S.1 28 v, S.2) τ) ad (cw dA ad Sm (u1 S.1 28 v, S.2) f) cells slots) : E b0 D dA y cc nL ret R EX QF pc lv (.int v :: .ref (ad 0 0) :: st) (dmW S τ) ad (cw dA ad Sm S f) cells slots := by
  refine x_put hd hg rfl (show dmW S τ 0 0 from rfl) cw_0 rfl rfl (Nat.le_of_ble_eq_true rfl) ?_
  refine e_conv ?_ kk
  exact cw_cases (S := (u1 S.1 28 v, S.2)) (τ := τ) (fun i hi => by subst hi; exact ⟨rfl, rfl, rfl⟩) (fun i hi => ⟨hi, rfl, rfl⟩) (fun i hi => ⟨hi, rfl, rfl⟩) (fun i hi => ⟨hi, rfl, rfl⟩) (fun i hi => ⟨hi, rfl, rfl⟩) (fun i hi => ⟨hi, rfl, rfl⟩) (fun i hi => ⟨hi, rfl, rfl⟩) (fun i hi => ⟨hi, rfl, rfl⟩) (fun i hi => ⟨hi, rfl, rfl⟩) (fun i hi => ⟨hi, rfl, rfl⟩) (fun i hi => ⟨hi, rfl, rfl⟩) (fun i hi => ⟨hi, rfl, rfl⟩) (fun i hi => ⟨hi, rfl, rfl⟩) (fun i hi => ⟨hi, rfl, rfl⟩) (fun i hi => ⟨hi, rfl, rfl⟩) (fun i hi => ⟨hi, rfl, rfl⟩) (fun i hi => ⟨hi, rfl, rfl⟩) (fun i hi => ⟨hi, rfl, rfl⟩)
theorem w_put5 {v : Int32} (hd : dc cc pc (.putfield idx) 3 n) (hg : FP y.cls idx 9 5 .int false) (kk : E b0 D dA y cc nL ret R EX QF n lv (st) (dmW (u1 S.1 29 v, S.2) τ) ad (cw dA ad Sm (u1 S.1 29 v, S.2) f) cells slots) : E b0 D dA y cc nL ret R EX QF pc lv (.int v :: .ref (ad 0 0) :: st) (dmW S τ) ad (cw dA ad Sm S f) cells slots := by
  refine x_put hd hg rfl (show dmW S τ 0 0 from rfl) cw_0 rfl rfl (Nat.le_of_ble_eq_true rfl) ?_
  refine e_conv ?_ kk
  exact cw_cases (S := (u1 S.1 29 v, S.2)) (τ := τ) (fun i hi => by subst hi; exact ⟨rfl, rfl, rfl⟩) (fun i hi => ⟨hi, rfl, rfl⟩) (fun i hi => ⟨hi, rfl, rfl⟩) (fun i hi => ⟨hi, rfl, rfl⟩) (fun i hi => ⟨hi, rfl, rfl⟩) (fun i hi => ⟨hi, rfl, rfl⟩) (fun i hi => ⟨hi, rfl, rfl⟩) (fun i hi => ⟨hi, rfl, rfl⟩) (fun i hi => ⟨hi, rfl, rfl⟩) (fun i hi => ⟨hi, rfl, rfl⟩) (fun i hi => ⟨hi, rfl, rfl⟩) (fun i hi => ⟨hi, rfl, rfl⟩) (fun i hi => ⟨hi, rfl, rfl⟩) (fun i hi => ⟨hi, rfl, rfl⟩) (fun i hi => ⟨hi, rfl, rfl⟩) (fun i hi => ⟨hi, rfl, rfl⟩) (fun i hi => ⟨hi, rfl, rfl⟩) (fun i hi => ⟨hi, rfl, rfl⟩)
theorem w_put11 {v : Int32} (hd : dc cc pc (.putfield idx) 3 n) (hg : FP y.cls idx 9 11 .int false) (kk : E b0 D dA y cc nL ret R EX QF n lv (st) (dmW (u1 S.1 25 v, S.2) τ) ad (cw dA ad Sm (u1 S.1 25 v, S.2) f) cells slots) : E b0 D dA y cc nL ret R EX QF pc lv (.int v :: .ref (ad 0 0) :: st) (dmW S τ) ad (cw dA ad Sm S f) cells slots := by
  refine x_put hd hg rfl (show dmW S τ 0 0 from rfl) cw_0 rfl rfl (Nat.le_of_ble_eq_true rfl) ?_
  refine e_conv ?_ kk
  exact cw_cases (S := (u1 S.1 25 v, S.2)) (τ := τ) (fun i hi => by subst hi; exact ⟨rfl, rfl, rfl⟩) (fun i hi => ⟨hi, rfl, rfl⟩) (fun i hi => ⟨hi, rfl, rfl⟩) (fun i hi => ⟨hi, rfl, rfl⟩) (fun i hi => ⟨hi, rfl, rfl⟩) (fun i hi => ⟨hi, rfl, rfl⟩) (fun i hi => ⟨hi, rfl, rfl⟩) (fun i hi => ⟨hi, rfl, rfl⟩) (fun i hi => ⟨hi, rfl, rfl⟩) (fun i hi => ⟨hi, rfl, rfl⟩) (fun i hi => ⟨hi, rfl, rfl⟩) (fun i hi => ⟨hi, rfl, rfl⟩) (fun i hi => ⟨hi, rfl, rfl⟩) (fun i hi => ⟨hi, rfl, rfl⟩) (fun i hi => ⟨hi, rfl, rfl⟩) (fun i hi => ⟨hi, rfl, rfl⟩) (fun i hi => ⟨hi, rfl, rfl⟩) (fun i hi => ⟨hi, rfl, rfl⟩)
theorem w_put12 {v : Int32} (hd : dc cc pc (.putfield idx) 3 n) (hg : FP y.cls idx 9 12 .int false) (kk : E b0 D dA y cc nL ret R EX QF n lv (st) (dmW (u1 S.1 26 v, S.2) τ) ad (cw dA ad Sm (u1 S.1 26 v, S.2) f) cells slots) : E b0 D dA y cc nL ret R EX QF pc lv (.int v :: .ref (ad 0 0) :: st) (dmW S τ) ad (cw dA ad Sm S f) cells slots := by
  refine x_put hd hg rfl (show dmW S τ 0 0 from rfl) cw_0 rfl rfl (Nat.le_of_ble_eq_true rfl) ?_
  refine e_conv ?_ kk
  exact cw_cases (S := (u1 S.1 26 v, S.2)) (τ := τ) (fun i hi => by subst hi; exact ⟨rfl, rfl, rfl⟩) (fun i hi => ⟨hi, rfl, rfl⟩) (fun i hi => ⟨hi, rfl, rfl⟩) (fun i hi => ⟨hi, rfl, rfl⟩) (fun i hi => ⟨hi, rfl, rfl⟩) (fun i hi => ⟨hi, rfl, rfl⟩) (fun i hi => ⟨hi, rfl, rfl⟩) (fun i hi => ⟨hi, rfl, rfl⟩) (fun i hi => ⟨hi, rfl, rfl⟩) (fun i hi => ⟨hi, rfl, rfl⟩) (fun i hi => ⟨hi, rfl, rfl⟩) (fun i hi => ⟨hi, rfl, rfl⟩) (fun i hi => ⟨hi, rfl, rfl⟩) (fun i hi => ⟨hi, rfl, rfl⟩) (fun i hi => ⟨hi, rfl, rfl⟩) (fun i hi => ⟨hi, rfl, rfl⟩) (fun i hi => ⟨hi, rfl, rfl⟩) (fun i hi => ⟨hi, rfl, rfl⟩)
theorem w_ist3 {x v : Int32} (q : Nat) (hd : dc cc pc .iastore 1 n) (hx : x = nI q) (hq : q < 6) (kk : E b0 D dA y cc nL ret R EX QF n lv (st) (dmW (S.1, u2 S.2.1 27 q v, S.2.2) τ) ad (cw dA ad Sm (S.1, u2 S.2.1 27 q v, S.2.2) f) cells slots) : E b0 D dA y cc nL ret R EX QF pc lv (.int v :: .int x :: .ref (ad 1 3) :: st) (dmW S τ) ad (cw dA ad Sm S f) cells slots := by
  refine x_ist q hd rfl (show dmW S τ 1 3 from by rw [dmW_1]; decide) (show cw dA ad Sm S f 1 3 = ins dA 6 (S.2.1 27) from rfl) hx hq (by decide) ?_
  refine e_conv ?_ kk
  refine cw_cases (S := (S.1, u2 S.2.1 27 q v, S.2.2)) (τ := τ) (fun i hi => ⟨hi, rfl, rfl⟩) (fun i hi => ⟨hi, rfl, ?_⟩) (fun i hi => ⟨hi, rfl, rfl⟩) (fun i hi => ⟨hi, rfl, rfl⟩) (fun i hi => ⟨hi, rfl, rfl⟩) (fun i hi => ⟨hi, rfl, rfl⟩) (fun i hi => ⟨hi, rfl, rfl⟩) (fun i hi => ⟨hi, rfl, rfl⟩) (fun i hi => ⟨hi, rfl, rfl⟩) (fun i hi => ⟨hi, rfl, rfl⟩) (fun i hi => ⟨hi, rfl, rfl⟩) (fun i hi => ⟨hi, rfl, rfl⟩) (fun i hi => ⟨hi, rfl, rfl⟩) (fun i hi => ⟨hi, rfl, rfl⟩) (fun i hi => ⟨hi, rfl, rfl⟩) (fun i hi => ⟨hi, rfl, rfl⟩) (fun i hi => ⟨hi, rfl, rfl⟩) (fun i hi => ⟨hi, rfl, rfl⟩)
  rcases hi with rfl | rfl | rfl | rfl | rfl | rfl | rfl <;> first | rfl | (rw [u2_s, upd_u2]; rfl)
theorem w_ist8 {x v : Int32} (q : Nat) (hd : dc cc pc .iastore 1 n) (hx : x = nI q) (hq : q < 5) (kk : E b0 D dA y cc nL ret R EX QF n lv (st) (dmW (S.1, u2 S.2.1 23 q v, S.2.2) τ) ad (cw dA ad Sm (S.1, u2 S.2.1 23 q v, S.2.2) f) cells slots) : E b0 D dA y cc nL ret R EX QF pc lv (.int v :: .int x :: .ref (ad 1 8) :: st) (dmW S τ) ad (cw dA ad Sm S f) cells slots := by
  refine x_ist q hd rfl (show dmW S τ 1 8 from by rw [dmW_1]; decide) (show cw dA ad Sm S f 1 8 = ins dA 5 (S.2.1 23) from rfl) hx hq (by decide) ?_
  refine e_conv ?_ kk
  refine cw_cases (S := (S.1, u2 S.2.1 23 q v, S.2.2)) (τ := τ) (fun i hi => ⟨hi, rfl, rfl⟩) (fun i hi => ⟨hi, rfl, ?_⟩) (fun i hi => ⟨hi, rfl, rfl⟩) (fun i hi => ⟨hi, rfl, rfl⟩) (fun i hi => ⟨hi, rfl, rfl⟩) (fun i hi => ⟨hi, rfl, rfl⟩) (fun i hi => ⟨hi, rfl, rfl⟩) (fun i hi => ⟨hi, rfl, rfl⟩) (fun i hi => ⟨hi, rfl, rfl⟩) (fun i hi => ⟨hi, rfl, rfl⟩) (fun i hi => ⟨hi, rfl, rfl⟩) (fun i hi => ⟨hi, rfl, rfl⟩) (fun i hi => ⟨hi, rfl, rfl⟩) (fun i hi => ⟨hi, rfl, rfl⟩) (fun i hi => ⟨hi, rfl, rfl⟩) (fun i hi => ⟨hi, rfl, rfl⟩) (fun i hi => ⟨hi, rfl, rfl⟩) (fun i hi => ⟨hi, rfl, rfl⟩)
  rcases hi with rfl | rfl | rfl | rfl | rfl | rfl | rfl <;> first | rfl | (rw [u2_s, upd_u2]; rfl)
theorem w_ist9 {x v : Int32} (q : Nat) (hd : dc cc pc .iastore 1 n) (hx : x = nI q) (hq : q < 5) (kk : E b0 D dA y cc nL ret R EX QF n lv (st) (dmW (S.1, u2 S.2.1 24 q v, S.2.2) τ) ad (cw dA ad Sm (S.1, u2 S.2.1 24 q v, S.2.2) f) cells slots) : E b0 D dA y cc nL ret R EX QF pc lv (.int v :: .int x :: .ref (ad 1 9) :: st) (dmW S τ) ad (cw dA ad Sm S f) cells slots := by
  refine x_ist q hd rfl (show dmW S τ 1 9 from by rw [dmW_1]; decide) (show cw dA ad Sm S f 1 9 = ins dA 5 (S.2.1 24) from rfl) hx hq (by decide) ?_
  refine e_conv ?_ kk
  refine cw_cases (S := (S.1, u2 S.2.1 24 q v, S.2.2)) (τ := τ) (fun i hi => ⟨hi, rfl, rfl⟩) (fun i hi => ⟨hi, rfl, ?_⟩) (fun i hi => ⟨hi, rfl, rfl⟩) (fun i hi => ⟨hi, rfl, rfl⟩) (fun i hi => ⟨hi, rfl, rfl⟩) (fun i hi => ⟨hi, rfl, rfl⟩) (fun i hi => ⟨hi, rfl, rfl⟩) (fun i hi => ⟨hi, rfl, rfl⟩) (fun i hi => ⟨hi, rfl, rfl⟩) (fun i hi => ⟨hi, rfl, rfl⟩) (fun i hi => ⟨hi, rfl, rfl⟩) (fun i hi => ⟨hi, rfl, rfl⟩) (fun i hi => ⟨hi, rfl, rfl⟩) (fun i hi => ⟨hi, rfl, rfl⟩) (fun i hi => ⟨hi, rfl, rfl⟩) (fun i hi => ⟨hi, rfl, rfl⟩) (fun i hi => ⟨hi, rfl, rfl⟩) (fun i hi => ⟨hi, rfl, rfl⟩)
  rcases hi with rfl | rfl | rfl | rfl | rfl | rfl | rfl <;> first | rfl | (rw [u2_s, upd_u2]; rfl)
end XW
