/-! ===== the reference's state: numbers by field, int rows by field, the names; its cells: pool 16 the object, pool 17 its rows by field ===== -/
abbrev St : Type := (Nat → Int32) × (Nat → Nat → Int32) × (Nat → Int64)
def u1 {α : Type} (f : Nat → α) (k : Nat) (v : α) : Nat → α := fun j => match Nat.beq j k with
  | true => v
  | false => f j
theorem u1_s {α : Type} {f : Nat → α} {k : Nat} {v : α} : u1 f k v k = v := by unfold u1; rw [Nat.beq_refl]
theorem u1_n {α : Type} {f : Nat → α} {k j : Nat} {v : α} (h : j ≠ k) : u1 f k v j = f j := by
  unfold u1
  split
  · rename_i hb; exact absurd (Nat.eq_of_beq_eq_true hb) h
  · rfl
theorem u1_e {α : Type} {f : Nat → α} {k j : Nat} {v : α} : u1 f k v j = if j = k then v else f j := by
  by_cases h : j = k
  · subst h; rw [u1_s, if_pos rfl]
  · rw [u1_n h, if_neg h]
theorem u2_e {α : Type} {f : Nat → Nat → α} {k i k' i' : Nat} {v : α} : u2 f k i v k' i' = if k' = k ∧ i' = i then v else f k' i' := by
  by_cases h : k' = k ∧ i' = i
  · obtain ⟨rfl, rfl⟩ := h; rw [u2_s, if_pos ⟨rfl, rfl⟩]
  · rw [u2_n h, if_neg h]
theorem upd_u2 (f : Nat → Nat → Int32) (k i : Nat) (v : Int32) : upd (f k) i v = u2 f k i v k := by
  funext j
  rw [u2_e]
  simp [upd]
theorem updL_u1 (f : Nat → Int64) (i : Nat) (v : Int64) : vp_updL f i v = u1 f i v := by
  funext j
  rw [u1_e]
  rfl
def mLen : Nat → Nat
  | 1 => 60
  | 2 => 60
  | 3 => 60
  | 4 => 60
  | 5 => 60
  | 6 => 18
  | 7 => 1080
  | 9 => 520
  | 10 => 6240
  | 12 => 520
  | 13 => 520
  | 14 => 2600
  | 15 => 10
  | 16 => 6
  | 17 => 30
  | 18 => 30
  | 19 => 6
  | 20 => 24
  | 21 => 24
  | 22 => 24
  | 23 => 5
  | 24 => 5
  | 27 => 6
  | 31 => 32
  | 32 => 32
  | 33 => 32
  | _ => 0
def mIsA (j : Nat) : Bool := match mLen j with
  | 0 => false
  | _ => true
def mFld (ad : Nat → Nat → Nat) (S : St) (j : Nat) : Value := match mLen j with
  | 0 => .int (S.1 j)
  | _ => .ref (ad 17 j)
def mO (ad : Nat → Nat → Nat) (S : St) : va_E := .inr (10, [.int (S.1 0), .ref (ad 17 1), .ref (ad 17 2), .ref (ad 17 3), .ref (ad 17 4), .ref (ad 17 5), .ref (ad 17 6), .ref (ad 17 7), .int (S.1 8), .ref (ad 17 9), .ref (ad 17 10), .int (S.1 11), .ref (ad 17 12), .ref (ad 17 13), .ref (ad 17 14), .ref (ad 17 15), .ref (ad 17 16), .ref (ad 17 17), .ref (ad 17 18), .ref (ad 17 19), .ref (ad 17 20), .ref (ad 17 21), .ref (ad 17 22), .ref (ad 17 23), .ref (ad 17 24), .int (S.1 25), .int (S.1 26), .ref (ad 17 27), .int (S.1 28), .int (S.1 29), .int (S.1 30), .ref (ad 17 31), .ref (ad 17 32), .ref (ad 17 33)])
def mA (dA : Nat → ClassId) (S : St) (i : Nat) : va_E := match Nat.beq i 2 with
  | true => .inl (dA 1, 60, .inr (.inl S.2.2))
  | false => .inl (dA 0, mLen i, .inl (S.2.1 i))
def ctM (dA : Nat → ClassId) (ad : Nat → Nat → Nat) (ct0 : Nat → Nat → va_E) (S : St) : Nat → Nat → va_E := fun k i => match Nat.beq k 17 with
  | true => mA dA S i
  | false => match Nat.beq k 16 with
    | true => mO ad S
    | false => ct0 k i
/-- the reference's cells are there -/
def dmM (dm : Nat → Nat → Prop) : Prop := dm 16 0 ∧ (∀ i, dm 16 i → i = 0) ∧ ∀ i, mIsA i = true → dm 17 i
theorem ctM_o {dA : Nat → ClassId} {ad : Nat → Nat → Nat} {ct0 : Nat → Nat → va_E} {S : St} {i : Nat} : ctM dA ad ct0 S 16 i = mO ad S := rfl
theorem ctM_a {dA : Nat → ClassId} {ad : Nat → Nat → Nat} {ct0 : Nat → Nat → va_E} {S : St} {j : Nat} (h : j ≠ 2) : ctM dA ad ct0 S 17 j = .inl (dA 0, mLen j, .inl (S.2.1 j)) := by
  show mA dA S j = _
  unfold mA
  split
  · rename_i hb; exact absurd (Nat.eq_of_beq_eq_true hb) h
  · rfl
theorem ctM_n {dA : Nat → ClassId} {ad : Nat → Nat → Nat} {ct0 : Nat → Nat → va_E} {S : St} {k i : Nat} (h1 : k ≠ 17) (h2 : k ≠ 16) : ctM dA ad ct0 S k i = ct0 k i := by
  unfold ctM
  split
  · rename_i hb; exact absurd (Nat.eq_of_beq_eq_true hb) h1
  · split
    · rename_i hb; exact absurd (Nat.eq_of_beq_eq_true hb) h2
    · rfl
theorem mFld_at {ad : Nat → Nat → Nat} {S : St} {j : Nat} (h : j < 34) : ∃ fs, mO ad S = .inr (10, fs) ∧ fs[j]? = some (mFld ad S j) ∧ fs.length = 34 := by
  refine ⟨_, rfl, ?_, rfl⟩
  match j, h with
  | 0, _ => rfl
  | 1, _ => rfl
  | 2, _ => rfl
  | 3, _ => rfl
  | 4, _ => rfl
  | 5, _ => rfl
  | 6, _ => rfl
  | 7, _ => rfl
  | 8, _ => rfl
  | 9, _ => rfl
  | 10, _ => rfl
  | 11, _ => rfl
  | 12, _ => rfl
  | 13, _ => rfl
  | 14, _ => rfl
  | 15, _ => rfl
  | 16, _ => rfl
  | 17, _ => rfl
  | 18, _ => rfl
  | 19, _ => rfl
  | 20, _ => rfl
  | 21, _ => rfl
  | 22, _ => rfl
  | 23, _ => rfl
  | 24, _ => rfl
  | 25, _ => rfl
  | 26, _ => rfl
  | 27, _ => rfl
  | 28, _ => rfl
  | 29, _ => rfl
  | 30, _ => rfl
  | 31, _ => rfl
  | 32, _ => rfl
  | 33, _ => rfl
  | q + 34, h => exact absurd h (by omega)
theorem mO_put {ad : Nat → Nat → Nat} {S : St} {j : Nat} {v : Int32} (h : j < 34) (ha : mLen j = 0) : ∃ fs, mO ad S = .inr (10, fs) ∧ mO ad (u1 S.1 j v, S.2) = .inr (10, fs.set j (.int v)) ∧ fs.length = 34 := by
  refine ⟨_, rfl, ?_, rfl⟩
  match j, h, ha with
  | 0, _, _ => rfl
  | 1, _, ha => exact absurd ha (by decide)
  | 2, _, ha => exact absurd ha (by decide)
  | 3, _, ha => exact absurd ha (by decide)
  | 4, _, ha => exact absurd ha (by decide)
  | 5, _, ha => exact absurd ha (by decide)
  | 6, _, ha => exact absurd ha (by decide)
  | 7, _, ha => exact absurd ha (by decide)
  | 8, _, _ => rfl
  | 9, _, ha => exact absurd ha (by decide)
  | 10, _, ha => exact absurd ha (by decide)
  | 11, _, _ => rfl
  | 12, _, ha => exact absurd ha (by decide)
  | 13, _, ha => exact absurd ha (by decide)
  | 14, _, ha => exact absurd ha (by decide)
  | 15, _, ha => exact absurd ha (by decide)
  | 16, _, ha => exact absurd ha (by decide)
  | 17, _, ha => exact absurd ha (by decide)
  | 18, _, ha => exact absurd ha (by decide)
  | 19, _, ha => exact absurd ha (by decide)
  | 20, _, ha => exact absurd ha (by decide)
  | 21, _, ha => exact absurd ha (by decide)
  | 22, _, ha => exact absurd ha (by decide)
  | 23, _, ha => exact absurd ha (by decide)
  | 24, _, ha => exact absurd ha (by decide)
  | 25, _, _ => rfl
  | 26, _, _ => rfl
  | 27, _, ha => exact absurd ha (by decide)
  | 28, _, _ => rfl
  | 29, _, _ => rfl
  | 30, _, _ => rfl
  | 31, _, ha => exact absurd ha (by decide)
  | 32, _, ha => exact absurd ha (by decide)
  | 33, _, ha => exact absurd ha (by decide)
  | q + 34, h, _ => exact absurd h (by omega)
section MR
variable {b0 : Nat} {D : va_G} {dA : Nat → ClassId} {y : MethodName} {cc : ByteArray} {nL : Nat} {ret : Option FieldType} {R : Room} {EX : Array Value → State → Prop} {QF : List Frame → Array Value → State → State → Prop} {pc n t : Nat} {lv : Nat → Option Value} {st : List Value} {dm : Nat → Nat → Prop} {ad : Nat → Nat → Nat} {ct0 : Nat → Nat → va_E} {cells slots : Nat} {S : St} {idx j : Nat}
theorem m_get {v : Value} (hd : dc cc pc (.getfield idx) 3 n) (hg : FG y.cls idx 10 j) (hM : dmM dm) (hj : j < 34) (hv : mFld ad S j = v) (kk : E b0 D dA y cc nL ret R EX QF n lv (v :: st) dm ad (ctM dA ad ct0 S) cells slots) : E b0 D dA y cc nL ret R EX QF pc lv (.ref (ad 16 0) :: st) dm ad (ctM dA ad ct0 S) cells slots := by
  obtain ⟨fs, h1, h2, -⟩ := mFld_at (ad := ad) (S := S) hj
  rw [hv] at h2
  exact e_getf hd hg hM.1 (ctM_o.trans h1) h2 kk
theorem m_geti (hd : dc cc pc (.getfield idx) 3 n) (hg : FG y.cls idx 10 j) (hM : dmM dm) (hj : j < 34) (ha : mLen j = 0) (kk : E b0 D dA y cc nL ret R EX QF n lv (.int (S.1 j) :: st) dm ad (ctM dA ad ct0 S) cells slots) : E b0 D dA y cc nL ret R EX QF pc lv (.ref (ad 16 0) :: st) dm ad (ctM dA ad ct0 S) cells slots := m_get hd hg hM hj (by simp [mFld, ha]) kk
theorem m_geta (hd : dc cc pc (.getfield idx) 3 n) (hg : FG y.cls idx 10 j) (hM : dmM dm) (hj : j < 34) (ha : mIsA j = true) (kk : E b0 D dA y cc nL ret R EX QF n lv (.ref (ad 17 j) :: st) dm ad (ctM dA ad ct0 S) cells slots) : E b0 D dA y cc nL ret R EX QF pc lv (.ref (ad 16 0) :: st) dm ad (ctM dA ad ct0 S) cells slots := m_get hd hg hM hj (by unfold mFld; unfold mIsA at ha; split <;> simp_all) kk
theorem m_put {v : Int32} (hd : dc cc pc (.putfield idx) 3 n) (hg : FP y.cls idx 10 j .int false) (hM : dmM dm) (hj : j < 34) (ha : mLen j = 0) (kk : E b0 D dA y cc nL ret R EX QF n lv (st) dm ad (ctM dA ad ct0 (u1 S.1 j v, S.2)) cells slots) : E b0 D dA y cc nL ret R EX QF pc lv (.int v :: .ref (ad 16 0) :: st) dm ad (ctM dA ad ct0 S) cells slots := by
  obtain ⟨fs, h1, h2, h3⟩ := mO_put (ad := ad) (S := S) (v := v) hj ha
  refine e_putf (ctM dA ad ct0 (u1 S.1 j v, S.2)) hd hg hM.1 (ctM_o.trans h1) rfl rfl (by omega) (ctM_o.trans h2) (fun k' i' hd' hn => ?_) kk
  by_cases h17 : k' = 17
  · subst h17; rfl
  · by_cases h16 : k' = 16
    · subst h16; exact absurd ⟨rfl, hM.2.1 i' hd'⟩ hn
    · rw [ctM_n h17 h16, ctM_n h17 h16]
theorem m_ald {x : Int32} (hd : dc cc pc .iaload 1 n) (hM : dmM dm) (hj : mIsA j = true) (h2 : j ≠ 2) (hin : vp_in x (mLen j)) (kk : E b0 D dA y cc nL ret R EX QF n lv (.int (S.2.1 j x.toNatClampNeg) :: st) dm ad (ctM dA ad ct0 S) cells slots) : E b0 D dA y cc nL ret R EX QF pc lv (.int x :: .ref (ad 17 j) :: st) dm ad (ctM dA ad ct0 S) cells slots := e_iald hd (hM.2.2 j hj) (ctM_a h2) hin kk
theorem m_ast {x v : Int32} (hd : dc cc pc .iastore 1 n) (hM : dmM dm) (hj : mIsA j = true) (h2 : j ≠ 2) (hin : vp_in x (mLen j)) (kk : E b0 D dA y cc nL ret R EX QF n lv (st) dm ad (ctM dA ad ct0 (S.1, u2 S.2.1 j x.toNatClampNeg v, S.2.2)) cells slots) : E b0 D dA y cc nL ret R EX QF pc lv (.int v :: .int x :: .ref (ad 17 j) :: st) dm ad (ctM dA ad ct0 S) cells slots := by
  refine e_iast (ctM dA ad ct0 (S.1, u2 S.2.1 j x.toNatClampNeg v, S.2.2)) hd (hM.2.2 j hj) (ctM_a h2) hin ?_ (fun k' i' hd' hn => ?_) kk
  · rw [ctM_a h2, upd_u2]
  · by_cases h17 : k' = 17
    · subst h17
      have hi : i' ≠ j := fun q => hn ⟨rfl, q⟩
      by_cases hi2 : i' = 2
      · subst hi2; rfl
      · rw [ctM_a hi2, ctM_a hi2]
        have : u2 S.2.1 j x.toNatClampNeg v i' = S.2.1 i' := by
          funext q; exact u2_n (fun z => hi z.1)
        dsimp only
        rw [this]
    · by_cases h16 : k' = 16
      · subst h16; rfl
      · rw [ctM_n h17 h16, ctM_n h17 h16]
theorem m_aldN {x : Int32} (q : Nat) (hd : dc cc pc .iaload 1 n) (hM : dmM dm) (hj : mIsA j = true) (h2 : j ≠ 2) (hx : x = nI q) (hq : q < mLen j) (hb : mLen j < 2 ^ 31) (kk : E b0 D dA y cc nL ret R EX QF n lv (.int (S.2.1 j q) :: st) dm ad (ctM dA ad ct0 S) cells slots) : E b0 D dA y cc nL ret R EX QF pc lv (.int x :: .ref (ad 17 j) :: st) dm ad (ctM dA ad ct0 S) cells slots := by
  subst hx
  have hc : (nI q).toNatClampNeg = q := nI_clamp (by omega)
  refine m_ald hd hM hj h2 (vp_in_nI hq hb) ?_
  rw [hc]; exact kk
theorem m_astN {x v : Int32} (q : Nat) (hd : dc cc pc .iastore 1 n) (hM : dmM dm) (hj : mIsA j = true) (h2 : j ≠ 2) (hx : x = nI q) (hq : q < mLen j) (hb : mLen j < 2 ^ 31) (kk : E b0 D dA y cc nL ret R EX QF n lv (st) dm ad (ctM dA ad ct0 (S.1, u2 S.2.1 j q v, S.2.2)) cells slots) : E b0 D dA y cc nL ret R EX QF pc lv (.int v :: .int x :: .ref (ad 17 j) :: st) dm ad (ctM dA ad ct0 S) cells slots := by
  subst hx
  have hc : (nI q).toNatClampNeg = q := nI_clamp (by omega)
  refine m_ast hd hM hj h2 (vp_in_nI hq hb) ?_
  rw [hc]; exact kk
theorem m_lld {x : Int32} (hd : dc cc pc .laload 1 n) (hM : dmM dm) (hin : vp_in x 60) (kk : E b0 D dA y cc nL ret R EX QF n lv (.long (S.2.2 x.toNatClampNeg) :: st) dm ad (ctM dA ad ct0 S) cells slots) : E b0 D dA y cc nL ret R EX QF pc lv (.int x :: .ref (ad 17 2) :: st) dm ad (ctM dA ad ct0 S) cells slots := e_lald hd (hM.2.2 2 rfl) rfl hin kk
theorem m_lst {x : Int32} {v : Int64} (hd : dc cc pc .lastore 1 n) (hM : dmM dm) (hin : vp_in x 60) (kk : E b0 D dA y cc nL ret R EX QF n lv (st) dm ad (ctM dA ad ct0 (S.1, S.2.1, u1 S.2.2 x.toNatClampNeg v)) cells slots) : E b0 D dA y cc nL ret R EX QF pc lv (.long v :: .int x :: .ref (ad 17 2) :: st) dm ad (ctM dA ad ct0 S) cells slots := by
  refine e_last (ctM dA ad ct0 (S.1, S.2.1, u1 S.2.2 x.toNatClampNeg v)) hd (hM.2.2 2 rfl) rfl hin ?_ (fun k' i' hd' hn => ?_) kk
  · rw [updL_u1]; rfl
  · by_cases h17 : k' = 17
    · subst h17
      have hi : i' ≠ 2 := fun q => hn ⟨rfl, q⟩
      rw [ctM_a hi, ctM_a hi]
    · by_cases h16 : k' = 16
      · subst h16; rfl
      · rw [ctM_n h17 h16, ctM_n h17 h16]
theorem m_lldN {x : Int32} (q : Nat) (hd : dc cc pc .laload 1 n) (hM : dmM dm) (hx : x = nI q) (hq : q < 60) (kk : E b0 D dA y cc nL ret R EX QF n lv (.long (S.2.2 q) :: st) dm ad (ctM dA ad ct0 S) cells slots) : E b0 D dA y cc nL ret R EX QF pc lv (.int x :: .ref (ad 17 2) :: st) dm ad (ctM dA ad ct0 S) cells slots := by
  subst hx
  have hc : (nI q).toNatClampNeg = q := nI_clamp (by omega)
  refine m_lld hd hM (vp_in_nI hq (by decide)) ?_
  rw [hc]; exact kk
theorem m_lstN {x : Int32} {v : Int64} (q : Nat) (hd : dc cc pc .lastore 1 n) (hM : dmM dm) (hx : x = nI q) (hq : q < 60) (kk : E b0 D dA y cc nL ret R EX QF n lv (st) dm ad (ctM dA ad ct0 (S.1, S.2.1, u1 S.2.2 q v)) cells slots) : E b0 D dA y cc nL ret R EX QF pc lv (.long v :: .int x :: .ref (ad 17 2) :: st) dm ad (ctM dA ad ct0 S) cells slots := by
  subst hx
  have hc : (nI q).toNatClampNeg = q := nI_clamp (by omega)
  refine m_lst hd hM (vp_in_nI hq (by decide)) ?_
  rw [hc]; exact kk
theorem e_topi {x x' : Int32} {ct : Nat → Nat → va_E} (h : x = x') (kk : E b0 D dA y cc nL ret R EX QF pc lv (.int x' :: st) dm ad ct cells slots) : E b0 D dA y cc nL ret R EX QF pc lv (.int x :: st) dm ad ct cells slots := h ▸ kk
end MR
theorem qi {Q : PQ} {dm : Nat → Nat → Prop} {ad : Nat → Nat → Nat} {ct : Nat → Nat → va_E} {a b : Int32} (h : Q (some (.int a)) dm ad ct) (e : b = a) : Q (some (.int b)) dm ad ct := e ▸ h
