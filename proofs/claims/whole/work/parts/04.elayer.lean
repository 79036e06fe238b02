/-! ===== the layer E: a frame of a method over a pool of cells (pool k, number i): which are there (dm), where (ad), what they hold (ct) ===== -/
abbrev eCl : List vw_C := [(RX0, TX0, 2), (RX1, TX1, 3), (RX3, TX3, 4), (RX4, TX4, 3), (RX5, TX5, 4), (RX6, TX6, 3), (RX7, TX7, 1), (RX8, TX8, 6), (RX10, TX10, 3), (RX11, TX11, 13), (RX12, TX12, 34)]
def eTs (dA : Nat → ClassId) : List (ClassId × FieldType) := [(dA 0, .int), (dA 1, .long), (dA 2, .object "ConstantKinds$Constant"), (dA 3, .object "ConstantKinds$Build"), (dA 4, .object "ConstantKinds$Thing"), (dA 5, .object "ConstantKinds$Shape"), (dA 6, .object "ConstantKinds$Check")]
def gT : List Cond := lw_tbl.filter goodWord
theorem gT_in {w : Cond} (h : w ∈ lw_tbl) (hg : goodWord w = true) : w ∈ gT := List.mem_filter.mpr ⟨h, hg⟩
/-- words that are not good in themselves: links to a nest mate's private members, declared abstract methods, arrays of a class, casts that hold and that don't -/
def eNL : List (String × Nat × MethodName × String) := [(RX11, 62, yX0_init, RX11), (RX0, 21, yX11_isIn, RX11), (RX2, 1, yX9_init, RX11), (RX5, 3, yX9_init, RX11), (RX5, 32, yX11_isIn, RX11), (RX7, 3, yX9_init, RX11), (RX7, 9, yX11_isIn, RX11), (RX8, 34, yX11_isIn, RX11)]
def eDc : List MethodName := [⟨RX2, "bodyNumber", "()I"⟩, ⟨RX2, "worthFor", "(I)I"⟩, ⟨RX9, "familyNumber", "()I"⟩]
def eAO : List String := ["ConstantKinds$Constant", "ConstantKinds$Build", "ConstantKinds$Thing", "ConstantKinds$Shape", "ConstantKinds$Check"]
def eCa : List (String × String) := [(RX4, RX2), (RX6, RX2), (RX10, RX2), (RX4, RX4), (RX5, RX5), (RX4, RX10), (RX10, RX10), (RX5, RX9), (RX6, RX9), (RX7, RX7), (RX6, RX6), (RX7, RX9), (RX10, RX9), (RX4, RX9)]
def eNc : List (String × String) := [(RX10, RX7), (RX4, RX7), (RX6, RX7), (RX5, RX7), (RX10, RX6), (RX4, RX6), (RX7, RX6), (RX5, RX6), (RX6, RX10), (RX7, RX10), (RX5, RX10), (RX10, RX4), (RX6, RX4), (RX7, RX4), (RX5, RX4), (RX10, RX5), (RX4, RX5), (RX6, RX5), (RX7, RX5), (RX7, RX2), (RX5, RX2)]
def KK (D : va_G) (dA : Nat → ClassId) (U : State) : Prop := va_K D eCl (eTs dA) U ∧ (∀ q ∈ eNL, va_Nw (.methodLinkNest q.1 q.2.1 q.2.2.1 q.2.2.2) U) ∧ (∀ x ∈ eDc, va_Nw (.declares x) U) ∧ (∀ C ∈ eAO, va_AO C U) ∧ (∀ q ∈ eCa, va_Nw (.castable q.1 q.2) U) ∧ (∀ q ∈ eNc, va_Nc q.1 q.2 U)
theorem KK.warm {D : va_G} {dA : Nat → ClassId} {s U : State} (hW : s.WarmedH U.vm) (h : KK D dA s) : KK D dA U :=
  ⟨va_K.moved hW.alike h.1, fun q hq => va_Nw.warmM hW (h.2.1 q hq), fun x hx => va_Nw.warmD hW (h.2.2.1 x hx), fun C hC => va_AO.moved hW.alike (h.2.2.2.1 C hC), fun q hq => va_Nw.warmC hW (h.2.2.2.2.1 q hq), fun q hq => va_Nc.moved hW.alike (h.2.2.2.2.2 q hq)⟩
theorem KK.same {D : va_G} {dA : Nat → ClassId} {s U : State} (hv : s.vm = U.vm) (h : KK D dA s) : KK D dA U := by
  have ha : s.vm.Alike U.vm := by rw [hv]; exact Vm.Alike.refl _
  exact ⟨va_K.moved ha h.1, fun q hq => va_Nw.same rfl hv (h.2.1 q hq), fun x hx => va_Nw.same rfl hv (h.2.2.1 x hx), fun C hC => va_AO.moved ha (h.2.2.2.1 C hC), fun q hq => va_Nw.same rfl hv (h.2.2.2.2.1 q hq), fun q hq => va_Nc.moved ha (h.2.2.2.2.2 q hq)⟩
/-- the heap holds the pool: every cell at its place, from b0 on, no two at one -/
def Rl (b0 : Nat) (D : va_G) (dm : Nat → Nat → Prop) (ad : Nat → Nat → Nat) (ct : Nat → Nat → va_E) (H : Heap) : Prop :=
  b0 ≤ H.size ∧ (∀ k i, dm k i → va_at D eCl (ad k i, ct k i) H ∧ b0 ≤ ad k i) ∧ ∀ k i k' i', dm k i → dm k' i' → ad k i = ad k' i' → k = k' ∧ i = i'
/-- locals as a function -/
def lf_has (ls : Array Slot) (nL : Nat) (f : Nat → Option Value) : Prop := ls.size = nL ∧ lv_wf ls ∧ ∀ (i : Nat) (v : Value), f i = some v → ls[i]? = some (.val v)
def lf_L (f : Nat → Option Value) (nL : Nat) : List (Nat × Value) := (List.range nL).filterMap (fun j => (f j).map (fun v => (j, v)))
theorem lf_L_in {f : Nat → Option Value} {nL j : Nat} {v : Value} (hj : j < nL) (h : f j = some v) : (j, v) ∈ lf_L f nL := List.mem_filterMap.mpr ⟨j, List.mem_range.mpr hj, by rw [h]; rfl⟩
theorem lf_to {ls : Array Slot} {nL : Nat} {f : Nat → Option Value} (h : lf_has ls nL f) : lv_has ls nL (lf_L f nL) := by
  refine ⟨h.1, h.2.1, fun q hq => ?_⟩
  obtain ⟨j, -, hj⟩ := List.mem_filterMap.mp hq
  cases hf : f j with
  | none => rw [hf] at hj; cases hj
  | some v => rw [hf] at hj; cases hj; exact h.2.2 j v hf
def lst (f : Nat → Option Value) (i : Nat) (v : Value) : Nat → Option Value := fun j => match Nat.beq j i with
  | true => some v
  | false => match Nat.beq (j + 1) i with
    | true => (match f j with
      | some w => (match w.category with
        | 2 => none
        | _ => some w)
      | none => none)
    | false => f j
def lst2 (f : Nat → Option Value) (i : Nat) (v : Value) : Nat → Option Value := fun j => match Nat.beq j (i + 1) with
  | true => none
  | false => lst f i v j
theorem lst_spec {f : Nat → Option Value} {i j : Nat} {v w : Value} (h : lst f i v j = some w) : (j = i ∧ w = v) ∨ (j ≠ i ∧ f j = some w ∧ ¬ (j + 1 = i ∧ w.category = 2)) := by
  unfold lst at h
  split at h
  · rename_i hb
    exact Or.inl ⟨Nat.eq_of_beq_eq_true hb, (Option.some.inj h).symm⟩
  · rename_i hb
    have hne : j ≠ i := Nat.ne_of_beq_eq_false hb
    split at h
    · rename_i hb2
      split at h
      · rename_i w0 hw0
        split at h
        · cases h
        · rename_i hc
          cases h
          exact Or.inr ⟨hne, hw0, fun q => hc q.2⟩
      · cases h
    · rename_i hb2
      exact Or.inr ⟨hne, h, fun q => Nat.ne_of_beq_eq_false hb2 q.1⟩
theorem lf_lt {ls : Array Slot} {nL : Nat} {f : Nat → Option Value} (h : lf_has ls nL f) {j : Nat} {w : Value} (hj : f j = some w) : j < nL := by
  rw [← h.1]; exact lv_lt (h.2.2 j w hj)
theorem lf_st {ls ls' : Array Slot} {nL i : Nat} {f : Nat → Option Value} {v : Value} (h : lf_has ls nL f) (h' : lv_has ls' nL ((i, v) :: (lf_L f nL).filter (fun q => !(q.1 == i) && !(q.1 + 1 == i && q.2.category == 2)))) : lf_has ls' nL (lst f i v) := by
  refine ⟨h'.1, h'.2.1, fun j w hj => ?_⟩
  rcases lst_spec hj with ⟨rfl, rfl⟩ | ⟨hne, hf, hc⟩
  · exact h'.2.2 (j, w) List.mem_cons_self
  · refine h'.2.2 (j, w) (List.mem_cons_of_mem _ (List.mem_filter.mpr ⟨lf_L_in (lf_lt h hf) hf, ?_⟩))
    have h1 : (j == i) = false := by simpa using hne
    have h2 : (j + 1 == i && w.category == 2) = false := by
      cases hq : (j + 1 == i && w.category == 2) with
      | false => rfl
      | true => simp at hq; exact absurd hq hc
    simp [h1, h2]
theorem lf_st2 {ls ls' : Array Slot} {nL i : Nat} {f : Nat → Option Value} {v : Value} (h : lf_has ls nL f) (h' : lv_has ls' nL ((i, v) :: (lf_L f nL).filter (fun q => !(q.1 == i) && (!(q.1 == i + 1) && !(q.1 + 1 == i && q.2.category == 2))))) : lf_has ls' nL (lst2 f i v) := by
  refine ⟨h'.1, h'.2.1, fun j w hj => ?_⟩
  unfold lst2 at hj
  split at hj
  · cases hj
  · rename_i hb
    have hn1 : j ≠ i + 1 := Nat.ne_of_beq_eq_false hb
    rcases lst_spec hj with ⟨rfl, rfl⟩ | ⟨hne, hf, hc⟩
    · exact h'.2.2 (j, w) List.mem_cons_self
    · refine h'.2.2 (j, w) (List.mem_cons_of_mem _ (List.mem_filter.mpr ⟨lf_L_in (lf_lt h hf) hf, ?_⟩))
      have h1 : (j == i) = false := by simpa using hne
      have h3 : (j == i + 1) = false := by simpa using hn1
      have h2 : (j + 1 == i && w.category == 2) = false := by
        cases hq : (j + 1 == i && w.category == 2) with
        | false => rfl
        | true => simp at hq; exact absurd hq hc
      simp [h1, h2, h3]
def isR : Value → Bool
  | .null => true
  | .ref _ => true
  | _ => false
theorem isR_or {v : Value} (h : isR v = true) : v = .null ∨ ∃ a, v = .ref a := by
  cases v <;> first | exact Or.inl rfl | exact Or.inr ⟨_, rfl⟩ | cases h
theorem isR_rf (r : Option Nat) : isR (va_rf r) = true := by cases r <;> rfl
/-- what stands fixed in a method's frame -/
def Cx (b0 : Nat) (D : va_G) (dA : Nat → ClassId) (y : MethodName) (cc : ByteArray) (nL : Nat) (ret : Option FieldType) (EX : Array Value → State → Prop) (p : Program) (s : State) (m : MethodId) (args : Array Value) (meth : Method) (c : Code) : Prop :=
  p.tables.exec = Jvm.exec ∧ c.code = cc ∧ meth.sig.returnType = ret ∧ c.maxLocals = nL ∧ s.vm.findClass y.cls = some m.cls ∧ (∀ w ∈ gT, w.before args s = true) ∧ meth.locks = false ∧ meth.name = y.name ∧ KK D dA s ∧ b0 ≤ s.heap.size ∧ EX args s
def E (b0 : Nat) (D : va_G) (dA : Nat → ClassId) (y : MethodName) (cc : ByteArray) (nL : Nat) (ret : Option FieldType) (R : Room) (EX : Array Value → State → Prop) (QF : List Frame → Array Value → State → State → Prop) (pc : Nat) (lv : Nat → Option Value) (st : List Value) (dm : Nat → Nat → Prop) (ad : Nat → Nat → Nat) (ct : Nat → Nat → va_E) (cells slots : Nat) : Prop :=
  ∀ (p : Program) (l : Launch) (e : Env) (s : State) (m : MethodId) (args : Array Value) (below : List Frame) (meth : Method) (c : Code), Cx b0 D dA y cc nL ret EX p s m args meth c →
    ∀ (H : Heap) (locs : List Loc) (ls : Array Slot), lf_has ls nL lv → Rl b0 D dm ad ct H → va_S (fun q => b0 ≤ q) s.heap H locs →
      W p l e R s m args below meth c H locs cells slots (QF below args s) (F0 m pc ls st)
section ER
variable {b0 : Nat} {D : va_G} {dA : Nat → ClassId} {y : MethodName} {cc : ByteArray} {nL : Nat} {ret : Option FieldType} {R : Room} {EX : Array Value → State → Prop} {QF : List Frame → Array Value → State → State → Prop} {pc n t : Nat} {lv : Nat → Option Value} {st : List Value} {dm : Nat → Nat → Prop} {ad : Nat → Nat → Nat} {ct : Nat → Nat → va_E} {cells slots : Nat}
theorem e_push {v : Int32} (hd : dKc cc pc v n) (k : E b0 D dA y cc nL ret R EX QF n lv (.int v :: st) dm ad ct cells slots) : E b0 D dA y cc nL ret R EX QF pc lv (st) dm ad ct cells slots := by
  intro p l e s m args below meth c C H locs ls hl hR hS
  rcases hd with ⟨i, hv, hd, rfl⟩ | ⟨i, hv, hd, rfl⟩ | ⟨i, hv, hd, rfl⟩
  · exact lv_iconst C.1 C.2.1 hd hv (k p l e s m args below meth c C H locs ls hl hR hS)
  · exact lv_bipush C.1 C.2.1 hd hv (k p l e s m args below meth c C H locs ls hl hR hS)
  · exact lv_sipush C.1 C.2.1 hd hv (k p l e s m args below meth c C H locs ls hl hR hS)
theorem e_lconst {i : Fin 2} {v : Int64} (hd : dc cc pc (.lconst i) 1 n) (hv : Int64.ofNat (i : Nat) = v) (k : E b0 D dA y cc nL ret R EX QF n lv (.long v :: st) dm ad ct cells slots) : E b0 D dA y cc nL ret R EX QF pc lv (st) dm ad ct cells slots := by
  obtain ⟨hd, rfl⟩ := hd
  intro p l e s m args below meth c C H locs ls hl hR hS
  exact lv_lconst C.1 C.2.1 hd hv (k p l e s m args below meth c C H locs ls hl hR hS)
theorem e_iload {i : Nat} {x : Int32} (hd : dIl cc pc i n) (hv : lv i = some (.int x)) (k : E b0 D dA y cc nL ret R EX QF n lv (.int x :: st) dm ad ct cells slots) : E b0 D dA y cc nL ret R EX QF pc lv (st) dm ad ct cells slots := by
  intro p l e s m args below meth c C H locs ls hl hR hS
  have hq := hl.2.2 i _ hv
  rcases hd with ⟨j, hj, hd, rfl⟩ | ⟨hd, rfl⟩
  · exact lv_iload_n C.1 C.2.1 hd hj hq (k p l e s m args below meth c C H locs ls hl hR hS)
  · exact lv_iload C.1 C.2.1 hd hq (k p l e s m args below meth c C H locs ls hl hR hS)
theorem e_lload {i : Nat} {x : Int64} (hd : dLl cc pc i n) (hv : lv i = some (.long x)) (k : E b0 D dA y cc nL ret R EX QF n lv (.long x :: st) dm ad ct cells slots) : E b0 D dA y cc nL ret R EX QF pc lv (st) dm ad ct cells slots := by
  intro p l e s m args below meth c C H locs ls hl hR hS
  have hq := hl.2.2 i _ hv
  obtain ⟨j, hj, hd, rfl⟩ := hd
  exact lv_lload_n C.1 C.2.1 hd hj hq (k p l e s m args below meth c C H locs ls hl hR hS)
theorem e_aload {i : Nat} {v : Value} (hd : dAl cc pc i n) (hv : lv i = some v) (k : E b0 D dA y cc nL ret R EX QF n lv (v :: st) dm ad ct cells slots) (hr : isR v = true := by first | rfl | exact isR_rf _) : E b0 D dA y cc nL ret R EX QF pc lv (st) dm ad ct cells slots := by
  intro p l e s m args below meth c C H locs ls hl hR hS
  have hq := hl.2.2 i _ hv
  rcases isR_or hr with rfl | ⟨a, rfl⟩ <;> rcases hd with ⟨j, hj, hd, rfl⟩ | ⟨hd, rfl⟩
  · exact lv_aload_nN C.1 C.2.1 hd hj hq (k p l e s m args below meth c C H locs ls hl hR hS)
  · exact lv_aloadN C.1 C.2.1 hd hq (k p l e s m args below meth c C H locs ls hl hR hS)
  · exact lv_aload_n C.1 C.2.1 hd hj hq (k p l e s m args below meth c C H locs ls hl hR hS)
  · exact lv_aload C.1 C.2.1 hd hq (k p l e s m args below meth c C H locs ls hl hR hS)
theorem e_istore {i : Nat} {x : Int32} (hd : dIs cc pc i n) (k : E b0 D dA y cc nL ret R EX QF n (lst lv i (.int x)) (st) dm ad ct cells slots) (hi : i < nL := by decide) : E b0 D dA y cc nL ret R EX QF pc lv (.int x :: st) dm ad ct cells slots := by
  intro p l e s m args below meth c C H locs ls hl hR hS
  rcases hd with ⟨j, hj, hd, rfl⟩ | ⟨hd, rfl⟩
  · exact lv_istore_n C.1 C.2.1 hd hj (lf_to hl) hi rfl (fun ls' hl' => k p l e s m args below meth c C H locs ls' (lf_st hl hl') hR hS)
  · exact lv_istore C.1 C.2.1 hd (lf_to hl) hi rfl (fun ls' hl' => k p l e s m args below meth c C H locs ls' (lf_st hl hl') hR hS)
theorem e_lstore {i : Nat} {x : Int64} (hd : dLs cc pc i n) (k : E b0 D dA y cc nL ret R EX QF n (lst2 lv i (.long x)) (st) dm ad ct cells slots) (hi : i + 1 < nL := by decide) : E b0 D dA y cc nL ret R EX QF pc lv (.long x :: st) dm ad ct cells slots := by
  intro p l e s m args below meth c C H locs ls hl hR hS
  obtain ⟨j, hj, hd, rfl⟩ := hd
  exact lv_lstore_n C.1 C.2.1 hd hj (lf_to hl) hi rfl (fun ls' hl' => k p l e s m args below meth c C H locs ls' (lf_st2 hl hl') hR hS)
theorem e_astore {i : Nat} {v : Value} (hd : dAs cc pc i n) (k : E b0 D dA y cc nL ret R EX QF n (lst lv i v) (st) dm ad ct cells slots) (hi : i < nL := by decide) (hr : isR v = true := by first | rfl | exact isR_rf _) : E b0 D dA y cc nL ret R EX QF pc lv (v :: st) dm ad ct cells slots := by
  intro p l e s m args below meth c C H locs ls hl hR hS
  rcases isR_or hr with rfl | ⟨a, rfl⟩ <;> rcases hd with ⟨j, hj, hd, rfl⟩ | ⟨hd, rfl⟩
  · exact lv_astore_nN C.1 C.2.1 hd hj (lf_to hl) hi rfl (fun ls' hl' => k p l e s m args below meth c C H locs ls' (lf_st hl hl') hR hS)
  · exact lv_astoreN C.1 C.2.1 hd (lf_to hl) hi rfl (fun ls' hl' => k p l e s m args below meth c C H locs ls' (lf_st hl hl') hR hS)
  · exact lv_astore_n C.1 C.2.1 hd hj (lf_to hl) hi rfl (fun ls' hl' => k p l e s m args below meth c C H locs ls' (lf_st hl hl') hR hS)
  · exact lv_astore C.1 C.2.1 hd (lf_to hl) hi rfl (fun ls' hl' => k p l e s m args below meth c C H locs ls' (lf_st hl hl') hR hS)
theorem e_iinc {i : Nat} {d : Int} {x v : Int32} (hd : dc cc pc (.iinc i d) 3 n) (hv : lv i = some (.int x)) (he : x + Int32.ofInt d = v) (k : E b0 D dA y cc nL ret R EX QF n (lst lv i (.int v)) (st) dm ad ct cells slots) : E b0 D dA y cc nL ret R EX QF pc lv (st) dm ad ct cells slots := by
  obtain ⟨hd, rfl⟩ := hd
  intro p l e s m args below meth c C H locs ls hl hR hS
  have hlt := lf_lt hl hv
  obtain ⟨q, hq⟩ := List.getElem?_of_mem (lf_L_in hlt hv)
  exact lv_iinc C.1 C.2.1 hd (lf_to hl) (k := q) hq he hlt rfl (fun ls' hl' => k p l e s m args below meth c C H locs ls' (lf_st hl hl') hR hS)
theorem e_iadd {x1 x2 : Int32} (hd : dc cc pc .iadd 1 n) (k : E b0 D dA y cc nL ret R EX QF n lv (.int (x1 + x2) :: st) dm ad ct cells slots) : E b0 D dA y cc nL ret R EX QF pc lv (.int x2 :: .int x1 :: st) dm ad ct cells slots := by
  obtain ⟨hd, rfl⟩ := hd
  intro p l e s m args below meth c C H locs ls hl hR hS
  exact lv_iadd C.1 C.2.1 hd  (k p l e s m args below meth c C H locs ls hl hR hS)
theorem e_isub {x1 x2 : Int32} (hd : dc cc pc .isub 1 n) (k : E b0 D dA y cc nL ret R EX QF n lv (.int (x1 - x2) :: st) dm ad ct cells slots) : E b0 D dA y cc nL ret R EX QF pc lv (.int x2 :: .int x1 :: st) dm ad ct cells slots := by
  obtain ⟨hd, rfl⟩ := hd
  intro p l e s m args below meth c C H locs ls hl hR hS
  exact lv_isub C.1 C.2.1 hd  (k p l e s m args below meth c C H locs ls hl hR hS)
theorem e_imul {x1 x2 : Int32} (hd : dc cc pc .imul 1 n) (k : E b0 D dA y cc nL ret R EX QF n lv (.int (x1 * x2) :: st) dm ad ct cells slots) : E b0 D dA y cc nL ret R EX QF pc lv (.int x2 :: .int x1 :: st) dm ad ct cells slots := by
  obtain ⟨hd, rfl⟩ := hd
  intro p l e s m args below meth c C H locs ls hl hR hS
  exact lv_imul C.1 C.2.1 hd  (k p l e s m args below meth c C H locs ls hl hR hS)
theorem e_iand {x1 x2 : Int32} (hd : dc cc pc .iand 1 n) (k : E b0 D dA y cc nL ret R EX QF n lv (.int (x1 &&& x2) :: st) dm ad ct cells slots) : E b0 D dA y cc nL ret R EX QF pc lv (.int x2 :: .int x1 :: st) dm ad ct cells slots := by
  obtain ⟨hd, rfl⟩ := hd
  intro p l e s m args below meth c C H locs ls hl hR hS
  exact lv_iand C.1 C.2.1 hd  (k p l e s m args below meth c C H locs ls hl hR hS)
theorem e_ior {x1 x2 : Int32} (hd : dc cc pc .ior 1 n) (k : E b0 D dA y cc nL ret R EX QF n lv (.int (x1 ||| x2) :: st) dm ad ct cells slots) : E b0 D dA y cc nL ret R EX QF pc lv (.int x2 :: .int x1 :: st) dm ad ct cells slots := by
  obtain ⟨hd, rfl⟩ := hd
  intro p l e s m args below meth c C H locs ls hl hR hS
  exact lv_ior C.1 C.2.1 hd  (k p l e s m args below meth c C H locs ls hl hR hS)
theorem e_ladd {x1 x2 : Int64} (hd : dc cc pc .ladd 1 n) (k : E b0 D dA y cc nL ret R EX QF n lv (.long (x1 + x2) :: st) dm ad ct cells slots) : E b0 D dA y cc nL ret R EX QF pc lv (.long x2 :: .long x1 :: st) dm ad ct cells slots := by
  obtain ⟨hd, rfl⟩ := hd
  intro p l e s m args below meth c C H locs ls hl hR hS
  exact lv_ladd C.1 C.2.1 hd  (k p l e s m args below meth c C H locs ls hl hR hS)
theorem e_lmul {x1 x2 : Int64} (hd : dc cc pc .lmul 1 n) (k : E b0 D dA y cc nL ret R EX QF n lv (.long (x1 * x2) :: st) dm ad ct cells slots) : E b0 D dA y cc nL ret R EX QF pc lv (.long x2 :: .long x1 :: st) dm ad ct cells slots := by
  obtain ⟨hd, rfl⟩ := hd
  intro p l e s m args below meth c C H locs ls hl hR hS
  exact lv_lmul C.1 C.2.1 hd  (k p l e s m args below meth c C H locs ls hl hR hS)
theorem e_land {x1 x2 : Int64} (hd : dc cc pc .land 1 n) (k : E b0 D dA y cc nL ret R EX QF n lv (.long (x1 &&& x2) :: st) dm ad ct cells slots) : E b0 D dA y cc nL ret R EX QF pc lv (.long x2 :: .long x1 :: st) dm ad ct cells slots := by
  obtain ⟨hd, rfl⟩ := hd
  intro p l e s m args below meth c C H locs ls hl hR hS
  exact lv_land C.1 C.2.1 hd  (k p l e s m args below meth c C H locs ls hl hR hS)
theorem e_lor {x1 x2 : Int64} (hd : dc cc pc .lor 1 n) (k : E b0 D dA y cc nL ret R EX QF n lv (.long (x1 ||| x2) :: st) dm ad ct cells slots) : E b0 D dA y cc nL ret R EX QF pc lv (.long x2 :: .long x1 :: st) dm ad ct cells slots := by
  obtain ⟨hd, rfl⟩ := hd
  intro p l e s m args below meth c C H locs ls hl hR hS
  exact lv_lor C.1 C.2.1 hd  (k p l e s m args below meth c C H locs ls hl hR hS)
theorem e_lxor {x1 x2 : Int64} (hd : dc cc pc .lxor 1 n) (k : E b0 D dA y cc nL ret R EX QF n lv (.long (x1 ^^^ x2) :: st) dm ad ct cells slots) : E b0 D dA y cc nL ret R EX QF pc lv (.long x2 :: .long x1 :: st) dm ad ct cells slots := by
  obtain ⟨hd, rfl⟩ := hd
  intro p l e s m args below meth c C H locs ls hl hR hS
  exact lv_lxor C.1 C.2.1 hd  (k p l e s m args below meth c C H locs ls hl hR hS)
theorem e_irem {x1 x2 : Int32} (hd : dc cc pc .irem 1 n) (hne : ¬ x2 = 0) (k : E b0 D dA y cc nL ret R EX QF n lv (.int (x1 - x1 / x2 * x2) :: st) dm ad ct cells slots) : E b0 D dA y cc nL ret R EX QF pc lv (.int x2 :: .int x1 :: st) dm ad ct cells slots := by
  obtain ⟨hd, rfl⟩ := hd
  intro p l e s m args below meth c C H locs ls hl hR hS
  exact lv_irem C.1 C.2.1 hd hne (k p l e s m args below meth c C H locs ls hl hR hS)
theorem e_lrem {x1 x2 : Int64} (hd : dc cc pc .lrem 1 n) (hne : ¬ x2 = 0) (k : E b0 D dA y cc nL ret R EX QF n lv (.long (x1 - x1 / x2 * x2) :: st) dm ad ct cells slots) : E b0 D dA y cc nL ret R EX QF pc lv (.long x2 :: .long x1 :: st) dm ad ct cells slots := by
  obtain ⟨hd, rfl⟩ := hd
  intro p l e s m args below meth c C H locs ls hl hR hS
  exact lv_lrem C.1 C.2.1 hd hne (k p l e s m args below meth c C H locs ls hl hR hS)
theorem e_i2l {x1 : Int32} (hd : dc cc pc .i2l 1 n) (k : E b0 D dA y cc nL ret R EX QF n lv (.long x1.toInt64 :: st) dm ad ct cells slots) : E b0 D dA y cc nL ret R EX QF pc lv (.int x1 :: st) dm ad ct cells slots := by
  obtain ⟨hd, rfl⟩ := hd
  intro p l e s m args below meth c C H locs ls hl hR hS
  exact lv_i2l C.1 C.2.1 hd rfl (k p l e s m args below meth c C H locs ls hl hR hS)
theorem e_l2i {x1 : Int64} (hd : dc cc pc .l2i 1 n) (k : E b0 D dA y cc nL ret R EX QF n lv (.int x1.toInt32 :: st) dm ad ct cells slots) : E b0 D dA y cc nL ret R EX QF pc lv (.long x1 :: st) dm ad ct cells slots := by
  obtain ⟨hd, rfl⟩ := hd
  intro p l e s m args below meth c C H locs ls hl hR hS
  exact lv_l2i C.1 C.2.1 hd rfl (k p l e s m args below meth c C H locs ls hl hR hS)
theorem e_lushr {x1 : Int64} {x2 : Int32} (hd : dc cc pc .lushr 1 n) (k : E b0 D dA y cc nL ret R EX QF n lv (.long (x1.toUInt64 >>> (x2.toInt64.toUInt64 &&& Int64.toUInt64 63)).toInt64 :: st) dm ad ct cells slots) : E b0 D dA y cc nL ret R EX QF pc lv (.int x2 :: .long x1 :: st) dm ad ct cells slots := by
  obtain ⟨hd, rfl⟩ := hd
  intro p l e s m args below meth c C H locs ls hl hR hS
  exact lv_lushr C.1 C.2.1 hd rfl (k p l e s m args below meth c C H locs ls hl hR hS)
theorem e_lshl {x1 : Int64} {x2 : Int32} (hd : dc cc pc .lshl 1 n) (k : E b0 D dA y cc nL ret R EX QF n lv (.long (x1 <<< (x2.toInt64 &&& 63)) :: st) dm ad ct cells slots) : E b0 D dA y cc nL ret R EX QF pc lv (.int x2 :: .long x1 :: st) dm ad ct cells slots := by
  obtain ⟨hd, rfl⟩ := hd
  intro p l e s m args below meth c C H locs ls hl hR hS
  exact lv_lshl C.1 C.2.1 hd rfl (k p l e s m args below meth c C H locs ls hl hR hS)
theorem e_lcmp {x1 x2 : Int64} (hd : dc cc pc .lcmp 1 n) (k : E b0 D dA y cc nL ret R EX QF n lv (.int (lg_cmp x1 x2) :: st) dm ad ct cells slots) : E b0 D dA y cc nL ret R EX QF pc lv (.long x2 :: .long x1 :: st) dm ad ct cells slots := by
  obtain ⟨hd, rfl⟩ := hd
  intro p l e s m args below meth c C H locs ls hl hR hS
  exact W.lcmp C.1 C.2.1 hd  (k p l e s m args below meth c C H locs ls hl hR hS)
theorem e_dup {v : Value} (hd : dc cc pc .dup 1 n) (k : E b0 D dA y cc nL ret R EX QF n lv (v :: v :: st) dm ad ct cells slots) (hv : v.category = 1 := by rfl) : E b0 D dA y cc nL ret R EX QF pc lv (v :: st) dm ad ct cells slots := by
  obtain ⟨hd, rfl⟩ := hd
  intro p l e s m args below meth c C H locs ls hl hR hS
  exact lv_dup C.1 C.2.1 hd hv (k p l e s m args below meth c C H locs ls hl hR hS)
theorem e_pop {v : Value} (hd : dc cc pc .pop 1 n) (k : E b0 D dA y cc nL ret R EX QF n lv (st) dm ad ct cells slots) (hv : v.category = 1 := by rfl) : E b0 D dA y cc nL ret R EX QF pc lv (v :: st) dm ad ct cells slots := by
  obtain ⟨hd, rfl⟩ := hd
  intro p l e s m args below meth c C H locs ls hl hR hS
  exact lv_pop C.1 C.2.1 hd hv (k p l e s m args below meth c C H locs ls hl hR hS)
theorem e_dup2 {v w : Value} (hd : dc cc pc .dup2 1 n) (k : E b0 D dA y cc nL ret R EX QF n lv (v :: w :: v :: w :: st) dm ad ct cells slots) (hv : v.category = 1 := by rfl) (hw : w.category = 1 := by rfl) : E b0 D dA y cc nL ret R EX QF pc lv (v :: w :: st) dm ad ct cells slots := by
  obtain ⟨hd, rfl⟩ := hd
  intro p l e s m args below meth c C H locs ls hl hR hS
  exact lv_dup2_11 C.1 C.2.1 hd hv hw (k p l e s m args below meth c C H locs ls hl hR hS)
theorem e_null (hd : dc cc pc .aconst_null 1 n) (k : E b0 D dA y cc nL ret R EX QF n lv (.null :: st) dm ad ct cells slots) : E b0 D dA y cc nL ret R EX QF pc lv (st) dm ad ct cells slots := by
  obtain ⟨hd, rfl⟩ := hd
  intro p l e s m args below meth c C H locs ls hl hR hS
  exact lv_null C.1 C.2.1 hd (k p l e s m args below meth c C H locs ls hl hR hS)
theorem e_goto (hd : dj cc pc .goto t n) (k : E b0 D dA y cc nL ret R EX QF t lv (st) dm ad ct cells slots) : E b0 D dA y cc nL ret R EX QF pc lv (st) dm ad ct cells slots := by
  obtain ⟨off, hd, ht, rfl⟩ := hd
  intro p l e s m args below meth c C H locs ls hl hR hS
  exact lv_goto C.1 C.2.1 hd ht (k p l e s m args below meth c C H locs ls hl hR hS)
theorem e_icmp_eq {x1 x2 : Int32} (hd : dj cc pc (.if_icmp .eq) t n) (kt : x1 = x2 → E b0 D dA y cc nL ret R EX QF t lv (st) dm ad ct cells slots) (kf : ¬ x1 = x2 → E b0 D dA y cc nL ret R EX QF n lv (st) dm ad ct cells slots) : E b0 D dA y cc nL ret R EX QF pc lv (.int x2 :: .int x1 :: st) dm ad ct cells slots := by
  obtain ⟨off, hd, ht, rfl⟩ := hd
  intro p l e s m args below meth c C H locs ls hl hR hS
  exact lv_icmp_eq C.1 C.2.1 hd ht (fun q => kt q p l e s m args below meth c C H locs ls hl hR hS) (fun q => kf q p l e s m args below meth c C H locs ls hl hR hS)
theorem e_if_eq {x1 : Int32} (hd : dj cc pc (.ifCond .eq) t n) (kt : x1 = 0 → E b0 D dA y cc nL ret R EX QF t lv (st) dm ad ct cells slots) (kf : ¬ x1 = 0 → E b0 D dA y cc nL ret R EX QF n lv (st) dm ad ct cells slots) : E b0 D dA y cc nL ret R EX QF pc lv (.int x1 :: st) dm ad ct cells slots := by
  obtain ⟨off, hd, ht, rfl⟩ := hd
  intro p l e s m args below meth c C H locs ls hl hR hS
  exact lv_if_eq C.1 C.2.1 hd ht (fun q => kt q p l e s m args below meth c C H locs ls hl hR hS) (fun q => kf q p l e s m args below meth c C H locs ls hl hR hS)
theorem e_icmp_ne {x1 x2 : Int32} (hd : dj cc pc (.if_icmp .ne) t n) (kt : ¬ x1 = x2 → E b0 D dA y cc nL ret R EX QF t lv (st) dm ad ct cells slots) (kf : x1 = x2 → E b0 D dA y cc nL ret R EX QF n lv (st) dm ad ct cells slots) : E b0 D dA y cc nL ret R EX QF pc lv (.int x2 :: .int x1 :: st) dm ad ct cells slots := by
  obtain ⟨off, hd, ht, rfl⟩ := hd
  intro p l e s m args below meth c C H locs ls hl hR hS
  exact lv_icmp_ne C.1 C.2.1 hd ht (fun q => kt q p l e s m args below meth c C H locs ls hl hR hS) (fun q => kf q p l e s m args below meth c C H locs ls hl hR hS)
theorem e_if_ne {x1 : Int32} (hd : dj cc pc (.ifCond .ne) t n) (kt : ¬ x1 = 0 → E b0 D dA y cc nL ret R EX QF t lv (st) dm ad ct cells slots) (kf : x1 = 0 → E b0 D dA y cc nL ret R EX QF n lv (st) dm ad ct cells slots) : E b0 D dA y cc nL ret R EX QF pc lv (.int x1 :: st) dm ad ct cells slots := by
  obtain ⟨off, hd, ht, rfl⟩ := hd
  intro p l e s m args below meth c C H locs ls hl hR hS
  exact lv_if_ne C.1 C.2.1 hd ht (fun q => kt q p l e s m args below meth c C H locs ls hl hR hS) (fun q => kf q p l e s m args below meth c C H locs ls hl hR hS)
theorem e_icmp_lt {x1 x2 : Int32} (hd : dj cc pc (.if_icmp .lt) t n) (kt : x1 < x2 → E b0 D dA y cc nL ret R EX QF t lv (st) dm ad ct cells slots) (kf : ¬ x1 < x2 → E b0 D dA y cc nL ret R EX QF n lv (st) dm ad ct cells slots) : E b0 D dA y cc nL ret R EX QF pc lv (.int x2 :: .int x1 :: st) dm ad ct cells slots := by
  obtain ⟨off, hd, ht, rfl⟩ := hd
  intro p l e s m args below meth c C H locs ls hl hR hS
  exact lv_icmp_lt C.1 C.2.1 hd ht (fun q => kt q p l e s m args below meth c C H locs ls hl hR hS) (fun q => kf q p l e s m args below meth c C H locs ls hl hR hS)
theorem e_if_lt {x1 : Int32} (hd : dj cc pc (.ifCond .lt) t n) (kt : x1 < 0 → E b0 D dA y cc nL ret R EX QF t lv (st) dm ad ct cells slots) (kf : ¬ x1 < 0 → E b0 D dA y cc nL ret R EX QF n lv (st) dm ad ct cells slots) : E b0 D dA y cc nL ret R EX QF pc lv (.int x1 :: st) dm ad ct cells slots := by
  obtain ⟨off, hd, ht, rfl⟩ := hd
  intro p l e s m args below meth c C H locs ls hl hR hS
  exact lv_if_lt C.1 C.2.1 hd ht (fun q => kt q p l e s m args below meth c C H locs ls hl hR hS) (fun q => kf q p l e s m args below meth c C H locs ls hl hR hS)
theorem e_icmp_ge {x1 x2 : Int32} (hd : dj cc pc (.if_icmp .ge) t n) (kt : x2 ≤ x1 → E b0 D dA y cc nL ret R EX QF t lv (st) dm ad ct cells slots) (kf : ¬ x2 ≤ x1 → E b0 D dA y cc nL ret R EX QF n lv (st) dm ad ct cells slots) : E b0 D dA y cc nL ret R EX QF pc lv (.int x2 :: .int x1 :: st) dm ad ct cells slots := by
  obtain ⟨off, hd, ht, rfl⟩ := hd
  intro p l e s m args below meth c C H locs ls hl hR hS
  exact lv_icmp_ge C.1 C.2.1 hd ht (fun q => kt q p l e s m args below meth c C H locs ls hl hR hS) (fun q => kf q p l e s m args below meth c C H locs ls hl hR hS)
theorem e_if_ge {x1 : Int32} (hd : dj cc pc (.ifCond .ge) t n) (kt : 0 ≤ x1 → E b0 D dA y cc nL ret R EX QF t lv (st) dm ad ct cells slots) (kf : ¬ 0 ≤ x1 → E b0 D dA y cc nL ret R EX QF n lv (st) dm ad ct cells slots) : E b0 D dA y cc nL ret R EX QF pc lv (.int x1 :: st) dm ad ct cells slots := by
  obtain ⟨off, hd, ht, rfl⟩ := hd
  intro p l e s m args below meth c C H locs ls hl hR hS
  exact lv_if_ge C.1 C.2.1 hd ht (fun q => kt q p l e s m args below meth c C H locs ls hl hR hS) (fun q => kf q p l e s m args below meth c C H locs ls hl hR hS)
theorem e_icmp_gt {x1 x2 : Int32} (hd : dj cc pc (.if_icmp .gt) t n) (kt : x2 < x1 → E b0 D dA y cc nL ret R EX QF t lv (st) dm ad ct cells slots) (kf : ¬ x2 < x1 → E b0 D dA y cc nL ret R EX QF n lv (st) dm ad ct cells slots) : E b0 D dA y cc nL ret R EX QF pc lv (.int x2 :: .int x1 :: st) dm ad ct cells slots := by
  obtain ⟨off, hd, ht, rfl⟩ := hd
  intro p l e s m args below meth c C H locs ls hl hR hS
  exact lv_icmp_gt C.1 C.2.1 hd ht (fun q => kt q p l e s m args below meth c C H locs ls hl hR hS) (fun q => kf q p l e s m args below meth c C H locs ls hl hR hS)
theorem e_if_gt {x1 : Int32} (hd : dj cc pc (.ifCond .gt) t n) (kt : 0 < x1 → E b0 D dA y cc nL ret R EX QF t lv (st) dm ad ct cells slots) (kf : ¬ 0 < x1 → E b0 D dA y cc nL ret R EX QF n lv (st) dm ad ct cells slots) : E b0 D dA y cc nL ret R EX QF pc lv (.int x1 :: st) dm ad ct cells slots := by
  obtain ⟨off, hd, ht, rfl⟩ := hd
  intro p l e s m args below meth c C H locs ls hl hR hS
  exact lv_if_gt C.1 C.2.1 hd ht (fun q => kt q p l e s m args below meth c C H locs ls hl hR hS) (fun q => kf q p l e s m args below meth c C H locs ls hl hR hS)
theorem e_icmp_le {x1 x2 : Int32} (hd : dj cc pc (.if_icmp .le) t n) (kt : x1 ≤ x2 → E b0 D dA y cc nL ret R EX QF t lv (st) dm ad ct cells slots) (kf : ¬ x1 ≤ x2 → E b0 D dA y cc nL ret R EX QF n lv (st) dm ad ct cells slots) : E b0 D dA y cc nL ret R EX QF pc lv (.int x2 :: .int x1 :: st) dm ad ct cells slots := by
  obtain ⟨off, hd, ht, rfl⟩ := hd
  intro p l e s m args below meth c C H locs ls hl hR hS
  exact lv_icmp_le C.1 C.2.1 hd ht (fun q => kt q p l e s m args below meth c C H locs ls hl hR hS) (fun q => kf q p l e s m args below meth c C H locs ls hl hR hS)
theorem e_if_le {x1 : Int32} (hd : dj cc pc (.ifCond .le) t n) (kt : x1 ≤ 0 → E b0 D dA y cc nL ret R EX QF t lv (st) dm ad ct cells slots) (kf : ¬ x1 ≤ 0 → E b0 D dA y cc nL ret R EX QF n lv (st) dm ad ct cells slots) : E b0 D dA y cc nL ret R EX QF pc lv (.int x1 :: st) dm ad ct cells slots := by
  obtain ⟨off, hd, ht, rfl⟩ := hd
  intro p l e s m args below meth c C H locs ls hl hR hS
  exact lv_if_le C.1 C.2.1 hd ht (fun q => kt q p l e s m args below meth c C H locs ls hl hR hS) (fun q => kf q p l e s m args below meth c C H locs ls hl hR hS)
theorem e_acmp_ne {r1 r2 : Option Nat} (hd : dj cc pc (.if_acmp .ne) t n) (kt : ¬ r1 = r2 → E b0 D dA y cc nL ret R EX QF t lv (st) dm ad ct cells slots) (kf : r1 = r2 → E b0 D dA y cc nL ret R EX QF n lv (st) dm ad ct cells slots) : E b0 D dA y cc nL ret R EX QF pc lv (va_rf r2 :: va_rf r1 :: st) dm ad ct cells slots := by
  obtain ⟨off, hd, ht, rfl⟩ := hd
  intro p l e s m args below meth c C H locs ls hl hR hS
  exact lv_acmp_ne C.1 C.2.1 hd ht (fun q => kt q p l e s m args below meth c C H locs ls hl hR hS) (fun q => kf q p l e s m args below meth c C H locs ls hl hR hS)
theorem e_ifnull {r : Option Nat} (hd : dj cc pc .ifnull t n) (kt : r = none → E b0 D dA y cc nL ret R EX QF t lv (st) dm ad ct cells slots) (kf : ∀ a, r = some a → E b0 D dA y cc nL ret R EX QF n lv (st) dm ad ct cells slots) : E b0 D dA y cc nL ret R EX QF pc lv (va_rf r :: st) dm ad ct cells slots := by
  obtain ⟨off, hd, ht, rfl⟩ := hd
  intro p l e s m args below meth c C H locs ls hl hR hS
  cases r with
  | none => exact lv_ifnullN C.1 C.2.1 hd ht (kt rfl p l e s m args below meth c C H locs ls hl hR hS)
  | some a => exact lv_ifnull C.1 C.2.1 hd (kf a rfl p l e s m args below meth c C H locs ls hl hR hS)
theorem e_ifnonnull {r : Option Nat} (hd : dj cc pc .ifnonnull t n) (kt : ∀ a, r = some a → E b0 D dA y cc nL ret R EX QF t lv (st) dm ad ct cells slots) (kf : r = none → E b0 D dA y cc nL ret R EX QF n lv (st) dm ad ct cells slots) : E b0 D dA y cc nL ret R EX QF pc lv (va_rf r :: st) dm ad ct cells slots := by
  obtain ⟨off, hd, ht, rfl⟩ := hd
  intro p l e s m args below meth c C H locs ls hl hR hS
  cases r with
  | none => exact lv_ifnonnullN C.1 C.2.1 hd (kf rfl p l e s m args below meth c C H locs ls hl hR hS)
  | some a => exact lv_ifnonnull C.1 C.2.1 hd ht (kt a rfl p l e s m args below meth c C H locs ls hl hR hS)
theorem e_tab {dflt lo hi : Int} {offs : Array Int} {len : Nat} {x : Int32} {off : Int} (hd : dc cc pc (.tableswitch dflt lo hi offs) len n) (h1 : lo ≤ x.toInt) (h2 : x.toInt ≤ hi) (ho : offs[(x.toInt - lo).toNat]? = some off) (ht : (pc : Int) + off = (t : Int)) (k : E b0 D dA y cc nL ret R EX QF t lv (st) dm ad ct cells slots) : E b0 D dA y cc nL ret R EX QF pc lv (.int x :: st) dm ad ct cells slots := by
  obtain ⟨hd, rfl⟩ := hd
  intro p l e s m args below meth c C H locs ls hl hR hS
  exact lv_tableIn C.1 C.2.1 hd (by omega) (by omega) ho ht (k p l e s m args below meth c C H locs ls hl hR hS)
theorem e_tabD {dflt lo hi : Int} {offs : Array Int} {len : Nat} {x : Int32} (hd : dc cc pc (.tableswitch dflt lo hi offs) len n) (h : x.toInt < lo ∨ hi < x.toInt) (ht : (pc : Int) + dflt = (t : Int)) (k : E b0 D dA y cc nL ret R EX QF t lv (st) dm ad ct cells slots) : E b0 D dA y cc nL ret R EX QF pc lv (.int x :: st) dm ad ct cells slots := by
  obtain ⟨hd, rfl⟩ := hd
  intro p l e s m args below meth c C H locs ls hl hR hS
  exact lv_tableOut C.1 C.2.1 hd h ht (k p l e s m args below meth c C H locs ls hl hR hS)
theorem e_look {dflt : Int} {ps : Array (Int × Int)} {len : Nat} {x : Int32} {off : Int} (hd : dc cc pc (.lookupswitch dflt ps) len n) (hp : (ps.toList.zip (ps.toList.drop 1)).all (fun (a, next) => a.1 < next.1) = true) (ho : Op.lookupswitch.offset ps.toList dflt x.toInt = off) (ht : (pc : Int) + off = (t : Int)) (k : E b0 D dA y cc nL ret R EX QF t lv (st) dm ad ct cells slots) : E b0 D dA y cc nL ret R EX QF pc lv (.int x :: st) dm ad ct cells slots := by
  obtain ⟨hd, rfl⟩ := hd
  intro p l e s m args below meth c C H locs ls hl hR hS
  exact lv_lookup C.1 C.2.1 hd hp ho ht (k p l e s m args below meth c C H locs ls hl hR hS)
theorem e_ldc {idx : Nat} {v : Int32} (hd : dc cc pc (.ldc idx) 2 n) (hw : Cond.constant y.cls idx v ∈ gT) (k : E b0 D dA y cc nL ret R EX QF n lv (.int v :: st) dm ad ct cells slots) : E b0 D dA y cc nL ret R EX QF pc lv (st) dm ad ct cells slots := by
  obtain ⟨hd, rfl⟩ := hd
  intro p l e s m args below meth c C H locs ls hl hR hS
  exact lv_ldc C.1 C.2.1 C.2.2.2.2.1 (C.2.2.2.2.2.1 _ hw) hd (k p l e s m args below meth c C H locs ls hl hR hS)
theorem e_ldc2 {idx : Nat} {v : Int64} (hd : dc cc pc (.ldc2_w idx) 3 n) (hw : Cond.constantLong y.cls idx v ∈ gT) (k : E b0 D dA y cc nL ret R EX QF n lv (.long v :: st) dm ad ct cells slots) : E b0 D dA y cc nL ret R EX QF pc lv (st) dm ad ct cells slots := by
  obtain ⟨hd, rfl⟩ := hd
  intro p l e s m args below meth c C H locs ls hl hR hS
  exact lv_ldc2 C.1 C.2.1 C.2.2.2.2.1 (C.2.2.2.2.2.1 _ hw) hd (k p l e s m args below meth c C H locs ls hl hR hS)
end ER
