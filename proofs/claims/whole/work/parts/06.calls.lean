/-! ===== contracts, calls, returns ===== -/
abbrev PQ : Type := Option Value → (Nat → Nat → Prop) → (Nat → Nat → Nat) → (Nat → Nat → va_E) → Prop
def Qk (b0 : Nat) (D : va_G) (dA : Nat → ClassId) (Q : PQ) : Array Value → State → Outcome → State → Prop := fun _ st oc t =>
  (∃ (v : Option Value) (dm : Nat → Nat → Prop) (ad : Nat → Nat → Nat) (ct : Nat → Nat → va_E), oc = .returned v ∧ Q v dm ad ct ∧ Rl b0 D dm ad ct t.heap ∧ KK D dA t) ∧ va_F (fun q => b0 ≤ q) st t
def Pk (b0 : Nat) (D : va_G) (dA : Nat → ClassId) (as : List Value) (dm : Nat → Nat → Prop) (ad : Nat → Nat → Nat) (ct : Nat → Nat → va_E) : Array Value → State → Prop := va_Pc as (fun U => Rl b0 D dm ad ct U.heap ∧ KK D dA U)
/-- method y, called with as over the pool (dm, ad, ct): it returns, and Q holds of its answer and the pool then -/
def Ct (b0 : Nat) (D : va_G) (dA : Nat → ClassId) (y : MethodName) (cc : ByteArray) (nL : Nat) (ret : Option FieldType) (R : Room) (as : List Value) (dm : Nat → Nat → Prop) (ad : Nat → Nat → Nat) (ct : Nat → Nat → va_E) (Q : PQ) : Prop :=
  ∀ l : Launch, Met l y (.code y cc nL ret :: gT) R (Pk b0 D dA as dm ad ct) (Qk b0 D dA Q) R.cells R.slots (fun q => b0 ≤ q)
abbrev QFm (b0 : Nat) (D : va_G) (dA : Nat → ClassId) (R : Room) (Q : PQ) : List Frame → Array Value → State → State → Prop := fun below args s => MQ below (Qk b0 D dA Q) args s R.cells R.slots (fun q => b0 ≤ q)
abbrev E0 : Array Value → State → Prop := fun _ _ => True
def lfA : List (Option Value) → Nat → Option Value
  | [], _ => none
  | a :: _, 0 => a
  | _ :: l, j + 1 => lfA l j
def lfO : List Value → List (Option Value)
  | [] => []
  | v :: l => match v.category with
    | 2 => some v :: none :: lfO l
    | _ => some v :: lfO l
theorem lfA_in : ∀ (vs : List Value) (b j : Nat) (v : Value), lfA (lfO vs) j = some v → (b + j, v) ∈ lv_args b vs := by
  intro vs
  induction vs with
  | nil => intro b j v h; simp [lfO, lfA] at h
  | cons w vs ih =>
    intro b j v h
    by_cases hc : w.category = 2
    · simp only [lfO, hc] at h
      simp only [lv_args, hc, if_true]
      match j, h with
      | 0, h => simp [lfA] at h; subst h; exact List.mem_cons_self
      | 1, h => simp [lfA] at h
      | j + 2, h =>
        simp only [lfA] at h
        have := ih (b + 2) j v h
        rw [show b + (j + 2) = b + 2 + j by omega]
        exact List.mem_cons_of_mem _ this
    · have hc1 : w.category = 1 := by rcases lv_cat w with h1 | h1; exact h1; exact absurd h1 hc
      simp only [lfO, hc1] at h
      simp only [lv_args, hc, if_false]
      match j, h with
      | 0, h => simp [lfA] at h; subst h; exact List.mem_cons_self
      | j + 1, h =>
        simp only [lfA] at h
        have := ih (b + 1) j v h
        rw [show b + (j + 1) = b + 1 + j by omega]
        exact List.mem_cons_of_mem _ this
def lfL (vs : List Value) : Nat → Option Value := lfA (lfO vs)
theorem ct_of {b0 : Nat} {D : va_G} {dA : Nat → ClassId} {y : MethodName} {cc : ByteArray} {nL : Nat} {ret : Option FieldType} {R : Room} {as : List Value} {dm : Nat → Nat → Prop} {ad : Nat → Nat → Nat} {ct : Nat → Nat → va_E} {Q : PQ} (hy : plainName y.cls = true) (hn : (lg_sl as).length ≤ nL)
    (h : E b0 D dA y cc nL ret R E0 (QFm b0 D dA R Q) 0 (lfL as) [] dm ad ct 0 0) : Ct b0 D dA y cc nL ret R as dm ad ct Q := by
  intro l
  refine Met.ofW (cc := cc) (maxL := nL) (ret := ret) hy rfl ?_
  intro p e s m args below meth c s₁ B hml hv
  obtain ⟨rfl, hR, hK⟩ := hv
  have hts := atoms_spec (ws := .code y cc nL ret :: gT) B.pre
  have hl := lv_entry as (n := nL) hn
  rw [lg_entry_eq]
  refine h p l e s m _ below meth c ⟨B.exec, B.bytes, B.returns, hml, findClass_of_methodNamed B.named, fun w hw => hts w (List.mem_cons_of_mem _ hw), B.notSynchronized, (name_of_methodNamed B.named B.method).1, hK, hR.1, trivial⟩ s.heap [] _ ⟨hl.1, hl.2.1, fun i v hi => ?_⟩ hR va_S.rf
  have := lfA_in as 0 i v hi
  rw [Nat.zero_add] at this
  exact hl.2.2 (i, v) this
theorem gT_good {y : MethodName} {cc : ByteArray} {nL : Nat} {ret : Option FieldType} (h : Cond.code y cc nL ret ∈ gT) : GoodIn gT (.code y cc nL ret :: gT) := by
  intro w hw
  have hm : w ∈ gT := by
    rcases List.mem_cons.mp hw with rfl | hw
    · exact h
    · exact hw
  exact ⟨hm, good_of_word (List.mem_filter.mp hm).2⟩
theorem pk_blind {b0 : Nat} {D : va_G} {dA : Nat → ClassId} {as : List Value} {dm : Nat → Nat → Prop} {ad : Nat → Nat → Nat} {ct : Nat → Nat → va_E} : FrameBlind (Pk b0 D dA as dm ad ct) := fun _ _ _ _ h => ⟨h.1, h.2.1, KK.same rfl h.2.2⟩
def vl : Option Value → List Value → List Value
  | some v, r => v :: r
  | none, r => r
theorem vl_eq (v : Option Value) (r : List Value) : v.toList ++ r = vl v r := by cases v <;> rfl
/-- what a call's row names: the method, its code, how many arguments -/
def CL (own : String) (idx : Nat) (y : MethodName) (cc : ByteArray) (nL : Nat) (ret : Option FieldType) (na : Nat) : Prop := Cond.methodLink own idx y ∈ gT ∧ Cond.code y cc nL ret ∈ gT ∧ Cond.initialized y.cls ∈ gT ∧ (y.cls ≠ "java/lang/invoke/MethodHandle" ∧ y.cls ≠ "java/lang/invoke/VarHandle" ∧ (parseMethodDescriptor y.desc).map (fun d => d.parameters.length) = some na)
def CLS (own : String) (idx : Nat) (y : MethodName) (cc : ByteArray) (nL : Nat) (ret : Option FieldType) (na : Nat) : Prop := CL own idx y cc nL ret na ∧ Cond.static y ∈ gT
def CLV (own : String) (idx : Nat) (y : MethodName) (cc : ByteArray) (nL : Nat) (ret : Option FieldType) (na ci : Nat) : Prop := CL own idx y cc nL ret na ∧ Cond.instanceMethod y ∈ gT ∧ Cond.selects y.cls y y ∈ gT ∧ ∃ (T : u_T) (N : Nat), eCl[ci]? = some (y.cls, T, N)
def CLI (own : String) (idx : Nat) (y : MethodName) (cc : ByteArray) (nL : Nat) (na : Nat) : Prop := CL own idx y cc nL none na ∧ y.name = "<init>" ∧ Cond.instanceMethod y ∈ gT
/-- the same of a nest mate's private member -/
def CN (own : String) (idx : Nat) (y : MethodName) (cc : ByteArray) (nL : Nat) (ret : Option FieldType) (na : Nat) : Prop := (∃ host, (own, idx, y, host) ∈ eNL) ∧ Cond.code y cc nL ret ∈ gT ∧ Cond.initialized y.cls ∈ gT ∧ (y.cls ≠ "java/lang/invoke/MethodHandle" ∧ y.cls ≠ "java/lang/invoke/VarHandle" ∧ (parseMethodDescriptor y.desc).map (fun d => d.parameters.length) = some na)
def CNS (own : String) (idx : Nat) (y : MethodName) (cc : ByteArray) (nL : Nat) (ret : Option FieldType) (na : Nat) : Prop := CN own idx y cc nL ret na ∧ Cond.static y ∈ gT
def CNI (own : String) (idx : Nat) (y : MethodName) (cc : ByteArray) (nL : Nat) (na : Nat) : Prop := CN own idx y cc nL none na ∧ y.name = "<init>" ∧ Cond.instanceMethod y ∈ gT
/-- an abstract method x, which class number ci answers with y -/
def CLU (own : String) (idx : Nat) (x y : MethodName) (cc : ByteArray) (nL : Nat) (ret : Option FieldType) (na ci : Nat) : Prop := Cond.methodLink own idx x ∈ gT ∧ Cond.sameMethod x.cls x.cls x.name x.desc ∈ gT ∧ (⟨x.cls, x.name, x.desc⟩ : MethodName) ∈ eDc ∧ Cond.instanceMethod y ∈ gT ∧ Cond.initialized y.cls ∈ gT ∧ Cond.code y cc nL ret ∈ gT ∧ (x.cls ≠ "java/lang/invoke/MethodHandle" ∧ x.cls ≠ "java/lang/invoke/VarHandle" ∧ (parseMethodDescriptor x.desc).map (fun d => d.parameters.length) = some na) ∧ ∃ (C : String) (T : u_T) (N : Nat), eCl[ci]? = some (C, T, N) ∧ Cond.selects C x y ∈ gT
/-- super.y() -/
def CLP (own : String) (idx : Nat) (y : MethodName) (cc : ByteArray) (nL : Nat) (ret : Option FieldType) (na ci : Nat) : Prop := Cond.methodLink own idx y ∈ gT ∧ Cond.sameMethod y.cls y.cls y.name y.desc ∈ gT ∧ Cond.superclass own y.cls ∈ gT ∧ Cond.instanceMethod y ∈ gT ∧ Cond.initialized y.cls ∈ gT ∧ Cond.code y cc nL ret ∈ gT ∧ (y.name ≠ "<init>" ∧ (parseMethodDescriptor y.desc).map (fun d => d.parameters.length) = some na) ∧ ∃ (C : String) (T : u_T) (N : Nat), eCl[ci]? = some (C, T, N)
section EC
variable {b0 : Nat} {D : va_G} {dA : Nat → ClassId} {y : MethodName} {cc : ByteArray} {nL : Nat} {ret : Option FieldType} {R : Room} {EX : Array Value → State → Prop} {QF : List Frame → Array Value → State → State → Prop} {pc n t : Nat} {lv : Nat → Option Value} {st : List Value} {dm dm' : Nat → Nat → Prop} {ad ad' : Nat → Nat → Nat} {ct ct' : Nat → Nat → va_E} {cells slots : Nat}
theorem w_call {p : Program} {l : Launch} {e : Env} {s : State} {m : MethodId} {args : Array Value} {below : List Frame} {meth : Method} {c : Code} {H : Heap} {locs : List Loc} {Q0 : State → Prop} {mc ms : Nat} {ls : Array Slot} {st0 rest : List Value} {a : Array Value} {Q : PQ}
    (hr : va_Run p l e R s m args below meth c H locs cells slots mc ms (F0 m pc ls st0) rest (Qk b0 D dA Q a) (fun q => b0 ≤ q)) (hS : va_S (fun q => b0 ≤ q) s.heap H locs)
    (kk : ∀ (v : Option Value) (dm : Nat → Nat → Prop) (ad : Nat → Nat → Nat) (ct : Nat → Nat → va_E) (H1 : Heap) (locs1 : List Loc), Q v dm ad ct → Rl b0 D dm ad ct H1 → va_S (fun q => b0 ≤ q) s.heap H1 locs1 → W p l e R s m args below meth c H1 locs1 (cells + mc) (slots + ms) Q0 (F0 m (pc + 3) ls (vl v rest))) : W p l e R s m args below meth c H locs cells slots Q0 (F0 m pc ls st0) := by
  intro T hT X
  obtain ⟨v, st₀, t, T', L, h0, X', hL, e1, e2, ⟨⟨v', dm, ad, ct, hv, hq, hRl, -⟩, hz, hk⟩, stp⟩ := hr T hT X
  cases hv
  rw [h0] at hz hk
  obtain ⟨t2, a1, b1⟩ := kk v dm ad ct T'.heap (locs ++ L) hq (by rw [e1]; exact hRl)
    ⟨Nat.le_trans hS.1 (by rw [e1]; exact hz), fun q h1 h2 => by rw [e1, hk q (Nat.lt_of_lt_of_le h1 hS.1) h2]; exact hS.2.1 q h1 h2, fun q hq => by
      rcases List.mem_append.mp hq with h | h
      · exact hS.2.2 q h
      · exact hL q h⟩ T' rfl X'
  rw [← vl_eq] at a1
  exact ⟨t2, stp t2 a1, b1⟩
theorem e_callS0 {idx : Nat} {y' : MethodName} {cc' : ByteArray} {nL' : Nat} {ret' : Option FieldType} {R' : Room} (hd : dc cc pc (.invokestatic idx) 3 n) (hcl : CLS y.cls idx y' cc' nL' ret' 0) (hrm : R'.frames + 1 ≤ R.frames ∧ 8 + (nL' + 11) + R'.locals ≤ R.locals ∧ cells + R'.cells ≤ R.cells ∧ slots + R'.slots ≤ R.slots) (hC : Ct b0 D dA y' cc' nL' ret' R' [] dm ad ct (fun v dm ad ct => E b0 D dA y cc nL ret R EX QF n lv (vl v st) dm ad ct (cells + R'.cells) (slots + R'.slots))) (hst : (st.map fun v => v.category).sum ≤ 8 := by decide) : E b0 D dA y cc nL ret R EX QF pc lv (st) dm ad ct cells slots := by
  obtain ⟨hd, rfl⟩ := hd
  intro p l e s m args below meth c C H locs ls hl hR hS
  have hts := C.2.2.2.2.2.1
  exact w_call (va_runS (As := []) (rest := st) ⟨C.1, C.2.1, C.2.2.2.1, C.2.2.2.2.1, C.2.2.2.2.2.1⟩ (hC l) ⟨callB_of _ hts (gT_good hcl.1.2.1) rfl rfl rfl (hts _ hcl.1.2.2.1) (hts _ hcl.1.1) hcl.1.2.2.2 ⟨hrm.1, hrm.2.1⟩, hts _ hcl.2⟩ ⟨pk_blind, fun U hU hW => ⟨rfl, by rw [hU]; exact hR, KK.warm hW C.2.2.2.2.2.2.2.2.1⟩⟩ rfl rfl hl.1 rfl (lv_room hst) hd ⟨hrm.2.2.1, hrm.2.2.2⟩) hS (fun v dm ad ct H1 locs1 hq hR1 hS1 => hq p l e s m args below meth c C H1 locs1 ls hl hR1 hS1)
theorem e_callSN0 {idx : Nat} {y' : MethodName} {cc' : ByteArray} {nL' : Nat} {ret' : Option FieldType} {R' : Room} (hd : dc cc pc (.invokestatic idx) 3 n) (hcl : CNS y.cls idx y' cc' nL' ret' 0) (hrm : R'.frames + 1 ≤ R.frames ∧ 8 + (nL' + 11) + R'.locals ≤ R.locals ∧ cells + R'.cells ≤ R.cells ∧ slots + R'.slots ≤ R.slots) (hC : Ct b0 D dA y' cc' nL' ret' R' [] dm ad ct (fun v dm ad ct => E b0 D dA y cc nL ret R EX QF n lv (vl v st) dm ad ct (cells + R'.cells) (slots + R'.slots))) (hst : (st.map fun v => v.category).sum ≤ 8 := by decide) : E b0 D dA y cc nL ret R EX QF pc lv (st) dm ad ct cells slots := by
  obtain ⟨hd, rfl⟩ := hd
  intro p l e s m args below meth c C H locs ls hl hR hS
  have hts := C.2.2.2.2.2.1
  obtain ⟨host, hcl0⟩ := hcl.1.1
  exact w_call (va_runSN (As := []) (rest := st) ⟨C.1, C.2.1, C.2.2.2.1, C.2.2.2.2.1, C.2.2.2.2.2.1⟩ (hC l) ⟨va_cnB _ hts (gT_good hcl.1.2.1) rfl rfl rfl (C.2.2.2.2.2.2.2.2.1.2.1 _ hcl0) (hts _ hcl.1.2.2.1) hcl.1.2.2.2 ⟨hrm.1, hrm.2.1⟩, hts _ hcl.2, trivial⟩ ⟨pk_blind, fun U hU hW => ⟨rfl, by rw [hU]; exact hR, KK.warm hW C.2.2.2.2.2.2.2.2.1⟩⟩ rfl rfl hl.1 rfl (lv_room hst) hd ⟨hrm.2.2.1, hrm.2.2.2⟩) hS (fun v dm ad ct H1 locs1 hq hR1 hS1 => hq p l e s m args below meth c C H1 locs1 ls hl hR1 hS1)
theorem e_callV0 {idx k i ci : Nat} {fs : List Value} {y' : MethodName} {cc' : ByteArray} {nL' : Nat} {ret' : Option FieldType} {R' : Room} (hd : dc cc pc (.invokevirtual idx) 3 n) (hcl : CLV y.cls idx y' cc' nL' ret' 0 ci) (hk : dm k i) (he : ct k i = .inr (ci, fs)) (hrm : R'.frames + 1 ≤ R.frames ∧ 8 + (nL' + 11) + R'.locals ≤ R.locals ∧ cells + R'.cells ≤ R.cells ∧ slots + R'.slots ≤ R.slots) (hC : Ct b0 D dA y' cc' nL' ret' R' [.ref (ad k i)] dm ad ct (fun v dm ad ct => E b0 D dA y cc nL ret R EX QF n lv (vl v st) dm ad ct (cells + R'.cells) (slots + R'.slots))) (hst : (st.map fun v => v.category).sum ≤ 8 := by decide) : E b0 D dA y cc nL ret R EX QF pc lv (.ref (ad k i) :: st) dm ad ct cells slots := by
  obtain ⟨hd, rfl⟩ := hd
  intro p l e s m args below meth c C H locs ls hl hR hS
  have hts := C.2.2.2.2.2.1
  obtain ⟨T0, N0, hci⟩ := hcl.2.2.2
  exact w_call (va_runV (As := []) (rest := st) ⟨C.1, C.2.1, C.2.2.2.1, C.2.2.2.2.1, C.2.2.2.2.2.1⟩ (hC l) ⟨callB_of _ hts (gT_good hcl.1.2.1) rfl rfl rfl (hts _ hcl.1.2.2.1) (hts _ hcl.1.1) hcl.1.2.2.2 ⟨hrm.1, hrm.2.1⟩, hts _ hcl.2.1, hts _ hcl.2.2.1⟩ ⟨pk_blind, w_recv C.2.2.2.2.2.2.2.2.1 hR hk he hci, fun U hU hW => ⟨rfl, by rw [hU]; exact hR, KK.warm hW C.2.2.2.2.2.2.2.2.1⟩⟩ rfl rfl hl.1 rfl (lv_room hst) hd ⟨hrm.2.2.1, hrm.2.2.2⟩) hS (fun v dm ad ct H1 locs1 hq hR1 hS1 => hq p l e s m args below meth c C H1 locs1 ls hl hR1 hS1)
theorem e_callU0 {idx k i ci : Nat} {fs : List Value} {x : MethodName} {y' : MethodName} {cc' : ByteArray} {nL' : Nat} {ret' : Option FieldType} {R' : Room} (hd : dc cc pc (.invokevirtual idx) 3 n) (hcl : CLU y.cls idx x y' cc' nL' ret' 0 ci) (hk : dm k i) (he : ct k i = .inr (ci, fs)) (hrm : R'.frames + 1 ≤ R.frames ∧ 8 + (nL' + 11) + R'.locals ≤ R.locals ∧ cells + R'.cells ≤ R.cells ∧ slots + R'.slots ≤ R.slots) (hC : Ct b0 D dA y' cc' nL' ret' R' [.ref (ad k i)] dm ad ct (fun v dm ad ct => E b0 D dA y cc nL ret R EX QF n lv (vl v st) dm ad ct (cells + R'.cells) (slots + R'.slots))) (hst : (st.map fun v => v.category).sum ≤ 8 := by decide) : E b0 D dA y cc nL ret R EX QF pc lv (.ref (ad k i) :: st) dm ad ct cells slots := by
  obtain ⟨hd, rfl⟩ := hd
  intro p l e s m args below meth c C H locs ls hl hR hS
  have hts := C.2.2.2.2.2.1
  obtain ⟨c1, c2, c3, c4, c5, c6, c7, Cn, T0, N0, hci, c8⟩ := hcl
  have hG : GoodIn gT (va_wsU y.cls idx Cn x.cls x y' (.code y' cc' nL' ret' :: gT)) := by
    intro w hw
    have hm : w ∈ gT := by
      simp only [va_wsU, List.mem_append, List.mem_cons, List.not_mem_nil, or_false] at hw
      rcases hw with (rfl | rfl | rfl | rfl | rfl) | rfl | hw
      · exact c1
      · exact c2
      · exact c8
      · exact c4
      · exact c5
      · exact c6
      · exact hw
    exact ⟨hm, good_of_word (List.mem_filter.mp hm).2⟩
  exact w_call (va_runU (C := Cn) (owner := x.cls) (As := []) (rest := st) ⟨C.1, C.2.1, C.2.2.2.1, C.2.2.2.2.1, C.2.2.2.2.2.1⟩ (hC l) (va_cwA 0 hts hG rfl rfl rfl (C.2.2.2.2.2.2.2.2.1.2.2.1 _ c3) c7 ⟨hrm.1, hrm.2.1⟩) ⟨pk_blind, w_recv C.2.2.2.2.2.2.2.2.1 hR hk he hci, fun U hU hW => ⟨rfl, by rw [hU]; exact hR, KK.warm hW C.2.2.2.2.2.2.2.2.1⟩⟩ rfl rfl hl.1 rfl (lv_room hst) hd ⟨hrm.2.2.1, hrm.2.2.2⟩) hS (fun v dm ad ct H1 locs1 hq hR1 hS1 => hq p l e s m args below meth c C H1 locs1 ls hl hR1 hS1)
theorem e_callI0 {idx a : Nat} {y' : MethodName} {cc' : ByteArray} {nL' : Nat} {R' : Room} (hd : dc cc pc (.invokespecial idx) 3 n) (hcl : CLI y.cls idx y' cc' nL' 0) (hrm : R'.frames + 1 ≤ R.frames ∧ 8 + (nL' + 11) + R'.locals ≤ R.locals ∧ cells + R'.cells ≤ R.cells ∧ slots + R'.slots ≤ R.slots) (hC : Ct b0 D dA y' cc' nL' none R' [.ref a] dm ad ct (fun v dm ad ct => E b0 D dA y cc nL ret R EX QF n lv (vl v st) dm ad ct (cells + R'.cells) (slots + R'.slots))) (hst : (st.map fun v => v.category).sum ≤ 8 := by decide) : E b0 D dA y cc nL ret R EX QF pc lv (.ref a :: st) dm ad ct cells slots := by
  obtain ⟨hd, rfl⟩ := hd
  intro p l e s m args below meth c C H locs ls hl hR hS
  have hts := C.2.2.2.2.2.1
  exact w_call (va_runI (As := []) (rest := st) ⟨C.1, C.2.1, C.2.2.2.1, C.2.2.2.2.1, C.2.2.2.2.2.1⟩ (hC l) ⟨callB_of _ hts (gT_good hcl.1.2.1) rfl rfl rfl (hts _ hcl.1.2.2.1) (hts _ hcl.1.1) hcl.1.2.2.2 ⟨hrm.1, hrm.2.1⟩, hcl.2.1, hts _ hcl.2.2⟩ ⟨pk_blind, fun U hU hW => ⟨rfl, by rw [hU]; exact hR, KK.warm hW C.2.2.2.2.2.2.2.2.1⟩⟩ rfl rfl hl.1 rfl (lv_room hst) hd ⟨hrm.2.2.1, hrm.2.2.2⟩) hS (fun v dm ad ct H1 locs1 hq hR1 hS1 => hq p l e s m args below meth c C H1 locs1 ls hl hR1 hS1)
theorem e_callIN0 {idx a : Nat} {y' : MethodName} {cc' : ByteArray} {nL' : Nat} {R' : Room} (hd : dc cc pc (.invokespecial idx) 3 n) (hcl : CNI y.cls idx y' cc' nL' 0) (hrm : R'.frames + 1 ≤ R.frames ∧ 8 + (nL' + 11) + R'.locals ≤ R.locals ∧ cells + R'.cells ≤ R.cells ∧ slots + R'.slots ≤ R.slots) (hC : Ct b0 D dA y' cc' nL' none R' [.ref a] dm ad ct (fun v dm ad ct => E b0 D dA y cc nL ret R EX QF n lv (vl v st) dm ad ct (cells + R'.cells) (slots + R'.slots))) (hst : (st.map fun v => v.category).sum ≤ 8 := by decide) : E b0 D dA y cc nL ret R EX QF pc lv (.ref a :: st) dm ad ct cells slots := by
  obtain ⟨hd, rfl⟩ := hd
  intro p l e s m args below meth c C H locs ls hl hR hS
  have hts := C.2.2.2.2.2.1
  obtain ⟨host, hcl0⟩ := hcl.1.1
  exact w_call (va_runIN (As := []) (rest := st) ⟨C.1, C.2.1, C.2.2.2.1, C.2.2.2.2.1, C.2.2.2.2.2.1⟩ (hC l) ⟨va_cnB _ hts (gT_good hcl.1.2.1) rfl rfl rfl (C.2.2.2.2.2.2.2.2.1.2.1 _ hcl0) (hts _ hcl.1.2.2.1) hcl.1.2.2.2 ⟨hrm.1, hrm.2.1⟩, hcl.2.1, hts _ hcl.2.2⟩ ⟨pk_blind, fun U hU hW => ⟨rfl, by rw [hU]; exact hR, KK.warm hW C.2.2.2.2.2.2.2.2.1⟩⟩ rfl rfl hl.1 rfl (lv_room hst) hd ⟨hrm.2.2.1, hrm.2.2.2⟩) hS (fun v dm ad ct H1 locs1 hq hR1 hS1 => hq p l e s m args below meth c C H1 locs1 ls hl hR1 hS1)
theorem e_callS1 {idx : Nat} {y' : MethodName} {cc' : ByteArray} {nL' : Nat} {ret' : Option FieldType} {R' : Room} {v1 : Value} (hd : dc cc pc (.invokestatic idx) 3 n) (hcl : CLS y.cls idx y' cc' nL' ret' 1) (hrm : R'.frames + 1 ≤ R.frames ∧ 8 + (nL' + 11) + R'.locals ≤ R.locals ∧ cells + R'.cells ≤ R.cells ∧ slots + R'.slots ≤ R.slots) (hC : Ct b0 D dA y' cc' nL' ret' R' [v1] dm ad ct (fun v dm ad ct => E b0 D dA y cc nL ret R EX QF n lv (vl v st) dm ad ct (cells + R'.cells) (slots + R'.slots))) (hst : (st.map fun v => v.category).sum ≤ 8 := by decide) : E b0 D dA y cc nL ret R EX QF pc lv (v1 :: st) dm ad ct cells slots := by
  obtain ⟨hd, rfl⟩ := hd
  intro p l e s m args below meth c C H locs ls hl hR hS
  have hts := C.2.2.2.2.2.1
  exact w_call (va_runS (As := [v1]) (rest := st) ⟨C.1, C.2.1, C.2.2.2.1, C.2.2.2.2.1, C.2.2.2.2.2.1⟩ (hC l) ⟨callB_of _ hts (gT_good hcl.1.2.1) rfl rfl rfl (hts _ hcl.1.2.2.1) (hts _ hcl.1.1) hcl.1.2.2.2 ⟨hrm.1, hrm.2.1⟩, hts _ hcl.2⟩ ⟨pk_blind, fun U hU hW => ⟨rfl, by rw [hU]; exact hR, KK.warm hW C.2.2.2.2.2.2.2.2.1⟩⟩ rfl rfl hl.1 rfl (lv_room hst) hd ⟨hrm.2.2.1, hrm.2.2.2⟩) hS (fun v dm ad ct H1 locs1 hq hR1 hS1 => hq p l e s m args below meth c C H1 locs1 ls hl hR1 hS1)
theorem e_callSN1 {idx : Nat} {y' : MethodName} {cc' : ByteArray} {nL' : Nat} {ret' : Option FieldType} {R' : Room} {v1 : Value} (hd : dc cc pc (.invokestatic idx) 3 n) (hcl : CNS y.cls idx y' cc' nL' ret' 1) (hrm : R'.frames + 1 ≤ R.frames ∧ 8 + (nL' + 11) + R'.locals ≤ R.locals ∧ cells + R'.cells ≤ R.cells ∧ slots + R'.slots ≤ R.slots) (hC : Ct b0 D dA y' cc' nL' ret' R' [v1] dm ad ct (fun v dm ad ct => E b0 D dA y cc nL ret R EX QF n lv (vl v st) dm ad ct (cells + R'.cells) (slots + R'.slots))) (hst : (st.map fun v => v.category).sum ≤ 8 := by decide) : E b0 D dA y cc nL ret R EX QF pc lv (v1 :: st) dm ad ct cells slots := by
  obtain ⟨hd, rfl⟩ := hd
  intro p l e s m args below meth c C H locs ls hl hR hS
  have hts := C.2.2.2.2.2.1
  obtain ⟨host, hcl0⟩ := hcl.1.1
  exact w_call (va_runSN (As := [v1]) (rest := st) ⟨C.1, C.2.1, C.2.2.2.1, C.2.2.2.2.1, C.2.2.2.2.2.1⟩ (hC l) ⟨va_cnB _ hts (gT_good hcl.1.2.1) rfl rfl rfl (C.2.2.2.2.2.2.2.2.1.2.1 _ hcl0) (hts _ hcl.1.2.2.1) hcl.1.2.2.2 ⟨hrm.1, hrm.2.1⟩, hts _ hcl.2, trivial⟩ ⟨pk_blind, fun U hU hW => ⟨rfl, by rw [hU]; exact hR, KK.warm hW C.2.2.2.2.2.2.2.2.1⟩⟩ rfl rfl hl.1 rfl (lv_room hst) hd ⟨hrm.2.2.1, hrm.2.2.2⟩) hS (fun v dm ad ct H1 locs1 hq hR1 hS1 => hq p l e s m args below meth c C H1 locs1 ls hl hR1 hS1)
theorem e_callV1 {idx k i ci : Nat} {fs : List Value} {y' : MethodName} {cc' : ByteArray} {nL' : Nat} {ret' : Option FieldType} {R' : Room} {v1 : Value} (hd : dc cc pc (.invokevirtual idx) 3 n) (hcl : CLV y.cls idx y' cc' nL' ret' 1 ci) (hk : dm k i) (he : ct k i = .inr (ci, fs)) (hrm : R'.frames + 1 ≤ R.frames ∧ 8 + (nL' + 11) + R'.locals ≤ R.locals ∧ cells + R'.cells ≤ R.cells ∧ slots + R'.slots ≤ R.slots) (hC : Ct b0 D dA y' cc' nL' ret' R' [.ref (ad k i), v1] dm ad ct (fun v dm ad ct => E b0 D dA y cc nL ret R EX QF n lv (vl v st) dm ad ct (cells + R'.cells) (slots + R'.slots))) (hst : (st.map fun v => v.category).sum ≤ 8 := by decide) : E b0 D dA y cc nL ret R EX QF pc lv (v1 :: .ref (ad k i) :: st) dm ad ct cells slots := by
  obtain ⟨hd, rfl⟩ := hd
  intro p l e s m args below meth c C H locs ls hl hR hS
  have hts := C.2.2.2.2.2.1
  obtain ⟨T0, N0, hci⟩ := hcl.2.2.2
  exact w_call (va_runV (As := [v1]) (rest := st) ⟨C.1, C.2.1, C.2.2.2.1, C.2.2.2.2.1, C.2.2.2.2.2.1⟩ (hC l) ⟨callB_of _ hts (gT_good hcl.1.2.1) rfl rfl rfl (hts _ hcl.1.2.2.1) (hts _ hcl.1.1) hcl.1.2.2.2 ⟨hrm.1, hrm.2.1⟩, hts _ hcl.2.1, hts _ hcl.2.2.1⟩ ⟨pk_blind, w_recv C.2.2.2.2.2.2.2.2.1 hR hk he hci, fun U hU hW => ⟨rfl, by rw [hU]; exact hR, KK.warm hW C.2.2.2.2.2.2.2.2.1⟩⟩ rfl rfl hl.1 rfl (lv_room hst) hd ⟨hrm.2.2.1, hrm.2.2.2⟩) hS (fun v dm ad ct H1 locs1 hq hR1 hS1 => hq p l e s m args below meth c C H1 locs1 ls hl hR1 hS1)
theorem e_callU1 {idx k i ci : Nat} {fs : List Value} {x : MethodName} {y' : MethodName} {cc' : ByteArray} {nL' : Nat} {ret' : Option FieldType} {R' : Room} {v1 : Value} (hd : dc cc pc (.invokevirtual idx) 3 n) (hcl : CLU y.cls idx x y' cc' nL' ret' 1 ci) (hk : dm k i) (he : ct k i = .inr (ci, fs)) (hrm : R'.frames + 1 ≤ R.frames ∧ 8 + (nL' + 11) + R'.locals ≤ R.locals ∧ cells + R'.cells ≤ R.cells ∧ slots + R'.slots ≤ R.slots) (hC : Ct b0 D dA y' cc' nL' ret' R' [.ref (ad k i), v1] dm ad ct (fun v dm ad ct => E b0 D dA y cc nL ret R EX QF n lv (vl v st) dm ad ct (cells + R'.cells) (slots + R'.slots))) (hst : (st.map fun v => v.category).sum ≤ 8 := by decide) : E b0 D dA y cc nL ret R EX QF pc lv (v1 :: .ref (ad k i) :: st) dm ad ct cells slots := by
  obtain ⟨hd, rfl⟩ := hd
  intro p l e s m args below meth c C H locs ls hl hR hS
  have hts := C.2.2.2.2.2.1
  obtain ⟨c1, c2, c3, c4, c5, c6, c7, Cn, T0, N0, hci, c8⟩ := hcl
  have hG : GoodIn gT (va_wsU y.cls idx Cn x.cls x y' (.code y' cc' nL' ret' :: gT)) := by
    intro w hw
    have hm : w ∈ gT := by
      simp only [va_wsU, List.mem_append, List.mem_cons, List.not_mem_nil, or_false] at hw
      rcases hw with (rfl | rfl | rfl | rfl | rfl) | rfl | hw
      · exact c1
      · exact c2
      · exact c8
      · exact c4
      · exact c5
      · exact c6
      · exact hw
    exact ⟨hm, good_of_word (List.mem_filter.mp hm).2⟩
  exact w_call (va_runU (C := Cn) (owner := x.cls) (As := [v1]) (rest := st) ⟨C.1, C.2.1, C.2.2.2.1, C.2.2.2.2.1, C.2.2.2.2.2.1⟩ (hC l) (va_cwA 1 hts hG rfl rfl rfl (C.2.2.2.2.2.2.2.2.1.2.2.1 _ c3) c7 ⟨hrm.1, hrm.2.1⟩) ⟨pk_blind, w_recv C.2.2.2.2.2.2.2.2.1 hR hk he hci, fun U hU hW => ⟨rfl, by rw [hU]; exact hR, KK.warm hW C.2.2.2.2.2.2.2.2.1⟩⟩ rfl rfl hl.1 rfl (lv_room hst) hd ⟨hrm.2.2.1, hrm.2.2.2⟩) hS (fun v dm ad ct H1 locs1 hq hR1 hS1 => hq p l e s m args below meth c C H1 locs1 ls hl hR1 hS1)
theorem e_callP1 {idx k i ci : Nat} {fs : List Value} {y' : MethodName} {cc' : ByteArray} {nL' : Nat} {ret' : Option FieldType} {R' : Room} {v1 : Value} (hd : dc cc pc (.invokespecial idx) 3 n) (hcl : CLP y.cls idx y' cc' nL' ret' 1 ci) (hk : dm k i) (he : ct k i = .inr (ci, fs)) (hrm : R'.frames + 1 ≤ R.frames ∧ 8 + (nL' + 11) + R'.locals ≤ R.locals ∧ cells + R'.cells ≤ R.cells ∧ slots + R'.slots ≤ R.slots) (hC : Ct b0 D dA y' cc' nL' ret' R' [.ref (ad k i), v1] dm ad ct (fun v dm ad ct => E b0 D dA y cc nL ret R EX QF n lv (vl v st) dm ad ct (cells + R'.cells) (slots + R'.slots))) (hst : (st.map fun v => v.category).sum ≤ 8 := by decide) : E b0 D dA y cc nL ret R EX QF pc lv (v1 :: .ref (ad k i) :: st) dm ad ct cells slots := by
  obtain ⟨hd, rfl⟩ := hd
  intro p l e s m args below meth c C H locs ls hl hR hS
  have hts := C.2.2.2.2.2.1
  obtain ⟨c1, c2, c3, c4, c5, c6, c7, Cn, T0, N0, hci⟩ := hcl
  have hG : GoodIn gT (va_wsSU y.cls idx y' (.code y' cc' nL' ret' :: gT)) := by
    intro w hw
    have hm : w ∈ gT := by
      simp only [va_wsSU, List.mem_append, List.mem_cons, List.not_mem_nil, or_false] at hw
      rcases hw with (rfl | rfl | rfl | rfl | rfl) | rfl | hw
      · exact c1
      · exact c2
      · exact c3
      · exact c4
      · exact c5
      · exact c6
      · exact hw
    exact ⟨hm, good_of_word (List.mem_filter.mp hm).2⟩
  exact w_call (va_runSU (C := Cn) (C.2.2.2.2.2.2.2.2.1.1.1 ci _ hci).2 (As := [v1]) (rest := st) ⟨C.1, C.2.1, C.2.2.2.1, C.2.2.2.2.1, C.2.2.2.2.2.1⟩ (hC l) (va_cwSU 1 hts hG rfl rfl rfl c7 ⟨hrm.1, hrm.2.1⟩) ⟨pk_blind, w_recv C.2.2.2.2.2.2.2.2.1 hR hk he hci, fun U hU hW => ⟨rfl, by rw [hU]; exact hR, KK.warm hW C.2.2.2.2.2.2.2.2.1⟩⟩ rfl rfl hl.1 rfl (lv_room hst) hd ⟨hrm.2.2.1, hrm.2.2.2⟩) hS (fun v dm ad ct H1 locs1 hq hR1 hS1 => hq p l e s m args below meth c C H1 locs1 ls hl hR1 hS1)
theorem e_callI1 {idx a : Nat} {y' : MethodName} {cc' : ByteArray} {nL' : Nat} {R' : Room} {v1 : Value} (hd : dc cc pc (.invokespecial idx) 3 n) (hcl : CLI y.cls idx y' cc' nL' 1) (hrm : R'.frames + 1 ≤ R.frames ∧ 8 + (nL' + 11) + R'.locals ≤ R.locals ∧ cells + R'.cells ≤ R.cells ∧ slots + R'.slots ≤ R.slots) (hC : Ct b0 D dA y' cc' nL' none R' [.ref a, v1] dm ad ct (fun v dm ad ct => E b0 D dA y cc nL ret R EX QF n lv (vl v st) dm ad ct (cells + R'.cells) (slots + R'.slots))) (hst : (st.map fun v => v.category).sum ≤ 8 := by decide) : E b0 D dA y cc nL ret R EX QF pc lv (v1 :: .ref a :: st) dm ad ct cells slots := by
  obtain ⟨hd, rfl⟩ := hd
  intro p l e s m args below meth c C H locs ls hl hR hS
  have hts := C.2.2.2.2.2.1
  exact w_call (va_runI (As := [v1]) (rest := st) ⟨C.1, C.2.1, C.2.2.2.1, C.2.2.2.2.1, C.2.2.2.2.2.1⟩ (hC l) ⟨callB_of _ hts (gT_good hcl.1.2.1) rfl rfl rfl (hts _ hcl.1.2.2.1) (hts _ hcl.1.1) hcl.1.2.2.2 ⟨hrm.1, hrm.2.1⟩, hcl.2.1, hts _ hcl.2.2⟩ ⟨pk_blind, fun U hU hW => ⟨rfl, by rw [hU]; exact hR, KK.warm hW C.2.2.2.2.2.2.2.2.1⟩⟩ rfl rfl hl.1 rfl (lv_room hst) hd ⟨hrm.2.2.1, hrm.2.2.2⟩) hS (fun v dm ad ct H1 locs1 hq hR1 hS1 => hq p l e s m args below meth c C H1 locs1 ls hl hR1 hS1)
theorem e_callIN1 {idx a : Nat} {y' : MethodName} {cc' : ByteArray} {nL' : Nat} {R' : Room} {v1 : Value} (hd : dc cc pc (.invokespecial idx) 3 n) (hcl : CNI y.cls idx y' cc' nL' 1) (hrm : R'.frames + 1 ≤ R.frames ∧ 8 + (nL' + 11) + R'.locals ≤ R.locals ∧ cells + R'.cells ≤ R.cells ∧ slots + R'.slots ≤ R.slots) (hC : Ct b0 D dA y' cc' nL' none R' [.ref a, v1] dm ad ct (fun v dm ad ct => E b0 D dA y cc nL ret R EX QF n lv (vl v st) dm ad ct (cells + R'.cells) (slots + R'.slots))) (hst : (st.map fun v => v.category).sum ≤ 8 := by decide) : E b0 D dA y cc nL ret R EX QF pc lv (v1 :: .ref a :: st) dm ad ct cells slots := by
  obtain ⟨hd, rfl⟩ := hd
  intro p l e s m args below meth c C H locs ls hl hR hS
  have hts := C.2.2.2.2.2.1
  obtain ⟨host, hcl0⟩ := hcl.1.1
  exact w_call (va_runIN (As := [v1]) (rest := st) ⟨C.1, C.2.1, C.2.2.2.1, C.2.2.2.2.1, C.2.2.2.2.2.1⟩ (hC l) ⟨va_cnB _ hts (gT_good hcl.1.2.1) rfl rfl rfl (C.2.2.2.2.2.2.2.2.1.2.1 _ hcl0) (hts _ hcl.1.2.2.1) hcl.1.2.2.2 ⟨hrm.1, hrm.2.1⟩, hcl.2.1, hts _ hcl.2.2⟩ ⟨pk_blind, fun U hU hW => ⟨rfl, by rw [hU]; exact hR, KK.warm hW C.2.2.2.2.2.2.2.2.1⟩⟩ rfl rfl hl.1 rfl (lv_room hst) hd ⟨hrm.2.2.1, hrm.2.2.2⟩) hS (fun v dm ad ct H1 locs1 hq hR1 hS1 => hq p l e s m args below meth c C H1 locs1 ls hl hR1 hS1)
theorem e_callS2 {idx : Nat} {y' : MethodName} {cc' : ByteArray} {nL' : Nat} {ret' : Option FieldType} {R' : Room} {v1 v2 : Value} (hd : dc cc pc (.invokestatic idx) 3 n) (hcl : CLS y.cls idx y' cc' nL' ret' 2) (hrm : R'.frames + 1 ≤ R.frames ∧ 8 + (nL' + 11) + R'.locals ≤ R.locals ∧ cells + R'.cells ≤ R.cells ∧ slots + R'.slots ≤ R.slots) (hC : Ct b0 D dA y' cc' nL' ret' R' [v1, v2] dm ad ct (fun v dm ad ct => E b0 D dA y cc nL ret R EX QF n lv (vl v st) dm ad ct (cells + R'.cells) (slots + R'.slots))) (hst : (st.map fun v => v.category).sum ≤ 8 := by decide) : E b0 D dA y cc nL ret R EX QF pc lv (v2 :: v1 :: st) dm ad ct cells slots := by
  obtain ⟨hd, rfl⟩ := hd
  intro p l e s m args below meth c C H locs ls hl hR hS
  have hts := C.2.2.2.2.2.1
  exact w_call (va_runS (As := [v1, v2]) (rest := st) ⟨C.1, C.2.1, C.2.2.2.1, C.2.2.2.2.1, C.2.2.2.2.2.1⟩ (hC l) ⟨callB_of _ hts (gT_good hcl.1.2.1) rfl rfl rfl (hts _ hcl.1.2.2.1) (hts _ hcl.1.1) hcl.1.2.2.2 ⟨hrm.1, hrm.2.1⟩, hts _ hcl.2⟩ ⟨pk_blind, fun U hU hW => ⟨rfl, by rw [hU]; exact hR, KK.warm hW C.2.2.2.2.2.2.2.2.1⟩⟩ rfl rfl hl.1 rfl (lv_room hst) hd ⟨hrm.2.2.1, hrm.2.2.2⟩) hS (fun v dm ad ct H1 locs1 hq hR1 hS1 => hq p l e s m args below meth c C H1 locs1 ls hl hR1 hS1)
theorem e_callSN2 {idx : Nat} {y' : MethodName} {cc' : ByteArray} {nL' : Nat} {ret' : Option FieldType} {R' : Room} {v1 v2 : Value} (hd : dc cc pc (.invokestatic idx) 3 n) (hcl : CNS y.cls idx y' cc' nL' ret' 2) (hrm : R'.frames + 1 ≤ R.frames ∧ 8 + (nL' + 11) + R'.locals ≤ R.locals ∧ cells + R'.cells ≤ R.cells ∧ slots + R'.slots ≤ R.slots) (hC : Ct b0 D dA y' cc' nL' ret' R' [v1, v2] dm ad ct (fun v dm ad ct => E b0 D dA y cc nL ret R EX QF n lv (vl v st) dm ad ct (cells + R'.cells) (slots + R'.slots))) (hst : (st.map fun v => v.category).sum ≤ 8 := by decide) : E b0 D dA y cc nL ret R EX QF pc lv (v2 :: v1 :: st) dm ad ct cells slots := by
  obtain ⟨hd, rfl⟩ := hd
  intro p l e s m args below meth c C H locs ls hl hR hS
  have hts := C.2.2.2.2.2.1
  obtain ⟨host, hcl0⟩ := hcl.1.1
  exact w_call (va_runSN (As := [v1, v2]) (rest := st) ⟨C.1, C.2.1, C.2.2.2.1, C.2.2.2.2.1, C.2.2.2.2.2.1⟩ (hC l) ⟨va_cnB _ hts (gT_good hcl.1.2.1) rfl rfl rfl (C.2.2.2.2.2.2.2.2.1.2.1 _ hcl0) (hts _ hcl.1.2.2.1) hcl.1.2.2.2 ⟨hrm.1, hrm.2.1⟩, hts _ hcl.2, trivial⟩ ⟨pk_blind, fun U hU hW => ⟨rfl, by rw [hU]; exact hR, KK.warm hW C.2.2.2.2.2.2.2.2.1⟩⟩ rfl rfl hl.1 rfl (lv_room hst) hd ⟨hrm.2.2.1, hrm.2.2.2⟩) hS (fun v dm ad ct H1 locs1 hq hR1 hS1 => hq p l e s m args below meth c C H1 locs1 ls hl hR1 hS1)
theorem e_callV2 {idx k i ci : Nat} {fs : List Value} {y' : MethodName} {cc' : ByteArray} {nL' : Nat} {ret' : Option FieldType} {R' : Room} {v1 v2 : Value} (hd : dc cc pc (.invokevirtual idx) 3 n) (hcl : CLV y.cls idx y' cc' nL' ret' 2 ci) (hk : dm k i) (he : ct k i = .inr (ci, fs)) (hrm : R'.frames + 1 ≤ R.frames ∧ 8 + (nL' + 11) + R'.locals ≤ R.locals ∧ cells + R'.cells ≤ R.cells ∧ slots + R'.slots ≤ R.slots) (hC : Ct b0 D dA y' cc' nL' ret' R' [.ref (ad k i), v1, v2] dm ad ct (fun v dm ad ct => E b0 D dA y cc nL ret R EX QF n lv (vl v st) dm ad ct (cells + R'.cells) (slots + R'.slots))) (hst : (st.map fun v => v.category).sum ≤ 8 := by decide) : E b0 D dA y cc nL ret R EX QF pc lv (v2 :: v1 :: .ref (ad k i) :: st) dm ad ct cells slots := by
  obtain ⟨hd, rfl⟩ := hd
  intro p l e s m args below meth c C H locs ls hl hR hS
  have hts := C.2.2.2.2.2.1
  obtain ⟨T0, N0, hci⟩ := hcl.2.2.2
  exact w_call (va_runV (As := [v1, v2]) (rest := st) ⟨C.1, C.2.1, C.2.2.2.1, C.2.2.2.2.1, C.2.2.2.2.2.1⟩ (hC l) ⟨callB_of _ hts (gT_good hcl.1.2.1) rfl rfl rfl (hts _ hcl.1.2.2.1) (hts _ hcl.1.1) hcl.1.2.2.2 ⟨hrm.1, hrm.2.1⟩, hts _ hcl.2.1, hts _ hcl.2.2.1⟩ ⟨pk_blind, w_recv C.2.2.2.2.2.2.2.2.1 hR hk he hci, fun U hU hW => ⟨rfl, by rw [hU]; exact hR, KK.warm hW C.2.2.2.2.2.2.2.2.1⟩⟩ rfl rfl hl.1 rfl (lv_room hst) hd ⟨hrm.2.2.1, hrm.2.2.2⟩) hS (fun v dm ad ct H1 locs1 hq hR1 hS1 => hq p l e s m args below meth c C H1 locs1 ls hl hR1 hS1)
theorem e_callU2 {idx k i ci : Nat} {fs : List Value} {x : MethodName} {y' : MethodName} {cc' : ByteArray} {nL' : Nat} {ret' : Option FieldType} {R' : Room} {v1 v2 : Value} (hd : dc cc pc (.invokevirtual idx) 3 n) (hcl : CLU y.cls idx x y' cc' nL' ret' 2 ci) (hk : dm k i) (he : ct k i = .inr (ci, fs)) (hrm : R'.frames + 1 ≤ R.frames ∧ 8 + (nL' + 11) + R'.locals ≤ R.locals ∧ cells + R'.cells ≤ R.cells ∧ slots + R'.slots ≤ R.slots) (hC : Ct b0 D dA y' cc' nL' ret' R' [.ref (ad k i), v1, v2] dm ad ct (fun v dm ad ct => E b0 D dA y cc nL ret R EX QF n lv (vl v st) dm ad ct (cells + R'.cells) (slots + R'.slots))) (hst : (st.map fun v => v.category).sum ≤ 8 := by decide) : E b0 D dA y cc nL ret R EX QF pc lv (v2 :: v1 :: .ref (ad k i) :: st) dm ad ct cells slots := by
  obtain ⟨hd, rfl⟩ := hd
  intro p l e s m args below meth c C H locs ls hl hR hS
  have hts := C.2.2.2.2.2.1
  obtain ⟨c1, c2, c3, c4, c5, c6, c7, Cn, T0, N0, hci, c8⟩ := hcl
  have hG : GoodIn gT (va_wsU y.cls idx Cn x.cls x y' (.code y' cc' nL' ret' :: gT)) := by
    intro w hw
    have hm : w ∈ gT := by
      simp only [va_wsU, List.mem_append, List.mem_cons, List.not_mem_nil, or_false] at hw
      rcases hw with (rfl | rfl | rfl | rfl | rfl) | rfl | hw
      · exact c1
      · exact c2
      · exact c8
      · exact c4
      · exact c5
      · exact c6
      · exact hw
    exact ⟨hm, good_of_word (List.mem_filter.mp hm).2⟩
  exact w_call (va_runU (C := Cn) (owner := x.cls) (As := [v1, v2]) (rest := st) ⟨C.1, C.2.1, C.2.2.2.1, C.2.2.2.2.1, C.2.2.2.2.2.1⟩ (hC l) (va_cwA 2 hts hG rfl rfl rfl (C.2.2.2.2.2.2.2.2.1.2.2.1 _ c3) c7 ⟨hrm.1, hrm.2.1⟩) ⟨pk_blind, w_recv C.2.2.2.2.2.2.2.2.1 hR hk he hci, fun U hU hW => ⟨rfl, by rw [hU]; exact hR, KK.warm hW C.2.2.2.2.2.2.2.2.1⟩⟩ rfl rfl hl.1 rfl (lv_room hst) hd ⟨hrm.2.2.1, hrm.2.2.2⟩) hS (fun v dm ad ct H1 locs1 hq hR1 hS1 => hq p l e s m args below meth c C H1 locs1 ls hl hR1 hS1)
theorem e_callI2 {idx a : Nat} {y' : MethodName} {cc' : ByteArray} {nL' : Nat} {R' : Room} {v1 v2 : Value} (hd : dc cc pc (.invokespecial idx) 3 n) (hcl : CLI y.cls idx y' cc' nL' 2) (hrm : R'.frames + 1 ≤ R.frames ∧ 8 + (nL' + 11) + R'.locals ≤ R.locals ∧ cells + R'.cells ≤ R.cells ∧ slots + R'.slots ≤ R.slots) (hC : Ct b0 D dA y' cc' nL' none R' [.ref a, v1, v2] dm ad ct (fun v dm ad ct => E b0 D dA y cc nL ret R EX QF n lv (vl v st) dm ad ct (cells + R'.cells) (slots + R'.slots))) (hst : (st.map fun v => v.category).sum ≤ 8 := by decide) : E b0 D dA y cc nL ret R EX QF pc lv (v2 :: v1 :: .ref a :: st) dm ad ct cells slots := by
  obtain ⟨hd, rfl⟩ := hd
  intro p l e s m args below meth c C H locs ls hl hR hS
  have hts := C.2.2.2.2.2.1
  exact w_call (va_runI (As := [v1, v2]) (rest := st) ⟨C.1, C.2.1, C.2.2.2.1, C.2.2.2.2.1, C.2.2.2.2.2.1⟩ (hC l) ⟨callB_of _ hts (gT_good hcl.1.2.1) rfl rfl rfl (hts _ hcl.1.2.2.1) (hts _ hcl.1.1) hcl.1.2.2.2 ⟨hrm.1, hrm.2.1⟩, hcl.2.1, hts _ hcl.2.2⟩ ⟨pk_blind, fun U hU hW => ⟨rfl, by rw [hU]; exact hR, KK.warm hW C.2.2.2.2.2.2.2.2.1⟩⟩ rfl rfl hl.1 rfl (lv_room hst) hd ⟨hrm.2.2.1, hrm.2.2.2⟩) hS (fun v dm ad ct H1 locs1 hq hR1 hS1 => hq p l e s m args below meth c C H1 locs1 ls hl hR1 hS1)
theorem e_callIN2 {idx a : Nat} {y' : MethodName} {cc' : ByteArray} {nL' : Nat} {R' : Room} {v1 v2 : Value} (hd : dc cc pc (.invokespecial idx) 3 n) (hcl : CNI y.cls idx y' cc' nL' 2) (hrm : R'.frames + 1 ≤ R.frames ∧ 8 + (nL' + 11) + R'.locals ≤ R.locals ∧ cells + R'.cells ≤ R.cells ∧ slots + R'.slots ≤ R.slots) (hC : Ct b0 D dA y' cc' nL' none R' [.ref a, v1, v2] dm ad ct (fun v dm ad ct => E b0 D dA y cc nL ret R EX QF n lv (vl v st) dm ad ct (cells + R'.cells) (slots + R'.slots))) (hst : (st.map fun v => v.category).sum ≤ 8 := by decide) : E b0 D dA y cc nL ret R EX QF pc lv (v2 :: v1 :: .ref a :: st) dm ad ct cells slots := by
  obtain ⟨hd, rfl⟩ := hd
  intro p l e s m args below meth c C H locs ls hl hR hS
  have hts := C.2.2.2.2.2.1
  obtain ⟨host, hcl0⟩ := hcl.1.1
  exact w_call (va_runIN (As := [v1, v2]) (rest := st) ⟨C.1, C.2.1, C.2.2.2.1, C.2.2.2.2.1, C.2.2.2.2.2.1⟩ (hC l) ⟨va_cnB _ hts (gT_good hcl.1.2.1) rfl rfl rfl (C.2.2.2.2.2.2.2.2.1.2.1 _ hcl0) (hts _ hcl.1.2.2.1) hcl.1.2.2.2 ⟨hrm.1, hrm.2.1⟩, hcl.2.1, hts _ hcl.2.2⟩ ⟨pk_blind, fun U hU hW => ⟨rfl, by rw [hU]; exact hR, KK.warm hW C.2.2.2.2.2.2.2.2.1⟩⟩ rfl rfl hl.1 rfl (lv_room hst) hd ⟨hrm.2.2.1, hrm.2.2.2⟩) hS (fun v dm ad ct H1 locs1 hq hR1 hS1 => hq p l e s m args below meth c C H1 locs1 ls hl hR1 hS1)
theorem e_callS3 {idx : Nat} {y' : MethodName} {cc' : ByteArray} {nL' : Nat} {ret' : Option FieldType} {R' : Room} {v1 v2 v3 : Value} (hd : dc cc pc (.invokestatic idx) 3 n) (hcl : CLS y.cls idx y' cc' nL' ret' 3) (hrm : R'.frames + 1 ≤ R.frames ∧ 8 + (nL' + 11) + R'.locals ≤ R.locals ∧ cells + R'.cells ≤ R.cells ∧ slots + R'.slots ≤ R.slots) (hC : Ct b0 D dA y' cc' nL' ret' R' [v1, v2, v3] dm ad ct (fun v dm ad ct => E b0 D dA y cc nL ret R EX QF n lv (vl v st) dm ad ct (cells + R'.cells) (slots + R'.slots))) (hst : (st.map fun v => v.category).sum ≤ 8 := by decide) : E b0 D dA y cc nL ret R EX QF pc lv (v3 :: v2 :: v1 :: st) dm ad ct cells slots := by
  obtain ⟨hd, rfl⟩ := hd
  intro p l e s m args below meth c C H locs ls hl hR hS
  have hts := C.2.2.2.2.2.1
  exact w_call (va_runS (As := [v1, v2, v3]) (rest := st) ⟨C.1, C.2.1, C.2.2.2.1, C.2.2.2.2.1, C.2.2.2.2.2.1⟩ (hC l) ⟨callB_of _ hts (gT_good hcl.1.2.1) rfl rfl rfl (hts _ hcl.1.2.2.1) (hts _ hcl.1.1) hcl.1.2.2.2 ⟨hrm.1, hrm.2.1⟩, hts _ hcl.2⟩ ⟨pk_blind, fun U hU hW => ⟨rfl, by rw [hU]; exact hR, KK.warm hW C.2.2.2.2.2.2.2.2.1⟩⟩ rfl rfl hl.1 rfl (lv_room hst) hd ⟨hrm.2.2.1, hrm.2.2.2⟩) hS (fun v dm ad ct H1 locs1 hq hR1 hS1 => hq p l e s m args below meth c C H1 locs1 ls hl hR1 hS1)
theorem e_callSN3 {idx : Nat} {y' : MethodName} {cc' : ByteArray} {nL' : Nat} {ret' : Option FieldType} {R' : Room} {v1 v2 v3 : Value} (hd : dc cc pc (.invokestatic idx) 3 n) (hcl : CNS y.cls idx y' cc' nL' ret' 3) (hrm : R'.frames + 1 ≤ R.frames ∧ 8 + (nL' + 11) + R'.locals ≤ R.locals ∧ cells + R'.cells ≤ R.cells ∧ slots + R'.slots ≤ R.slots) (hC : Ct b0 D dA y' cc' nL' ret' R' [v1, v2, v3] dm ad ct (fun v dm ad ct => E b0 D dA y cc nL ret R EX QF n lv (vl v st) dm ad ct (cells + R'.cells) (slots + R'.slots))) (hst : (st.map fun v => v.category).sum ≤ 8 := by decide) : E b0 D dA y cc nL ret R EX QF pc lv (v3 :: v2 :: v1 :: st) dm ad ct cells slots := by
  obtain ⟨hd, rfl⟩ := hd
  intro p l e s m args below meth c C H locs ls hl hR hS
  have hts := C.2.2.2.2.2.1
  obtain ⟨host, hcl0⟩ := hcl.1.1
  exact w_call (va_runSN (As := [v1, v2, v3]) (rest := st) ⟨C.1, C.2.1, C.2.2.2.1, C.2.2.2.2.1, C.2.2.2.2.2.1⟩ (hC l) ⟨va_cnB _ hts (gT_good hcl.1.2.1) rfl rfl rfl (C.2.2.2.2.2.2.2.2.1.2.1 _ hcl0) (hts _ hcl.1.2.2.1) hcl.1.2.2.2 ⟨hrm.1, hrm.2.1⟩, hts _ hcl.2, trivial⟩ ⟨pk_blind, fun U hU hW => ⟨rfl, by rw [hU]; exact hR, KK.warm hW C.2.2.2.2.2.2.2.2.1⟩⟩ rfl rfl hl.1 rfl (lv_room hst) hd ⟨hrm.2.2.1, hrm.2.2.2⟩) hS (fun v dm ad ct H1 locs1 hq hR1 hS1 => hq p l e s m args below meth c C H1 locs1 ls hl hR1 hS1)
theorem e_callV3 {idx k i ci : Nat} {fs : List Value} {y' : MethodName} {cc' : ByteArray} {nL' : Nat} {ret' : Option FieldType} {R' : Room} {v1 v2 v3 : Value} (hd : dc cc pc (.invokevirtual idx) 3 n) (hcl : CLV y.cls idx y' cc' nL' ret' 3 ci) (hk : dm k i) (he : ct k i = .inr (ci, fs)) (hrm : R'.frames + 1 ≤ R.frames ∧ 8 + (nL' + 11) + R'.locals ≤ R.locals ∧ cells + R'.cells ≤ R.cells ∧ slots + R'.slots ≤ R.slots) (hC : Ct b0 D dA y' cc' nL' ret' R' [.ref (ad k i), v1, v2, v3] dm ad ct (fun v dm ad ct => E b0 D dA y cc nL ret R EX QF n lv (vl v st) dm ad ct (cells + R'.cells) (slots + R'.slots))) (hst : (st.map fun v => v.category).sum ≤ 8 := by decide) : E b0 D dA y cc nL ret R EX QF pc lv (v3 :: v2 :: v1 :: .ref (ad k i) :: st) dm ad ct cells slots := by
  obtain ⟨hd, rfl⟩ := hd
  intro p l e s m args below meth c C H locs ls hl hR hS
  have hts := C.2.2.2.2.2.1
  obtain ⟨T0, N0, hci⟩ := hcl.2.2.2
  exact w_call (va_runV (As := [v1, v2, v3]) (rest := st) ⟨C.1, C.2.1, C.2.2.2.1, C.2.2.2.2.1, C.2.2.2.2.2.1⟩ (hC l) ⟨callB_of _ hts (gT_good hcl.1.2.1) rfl rfl rfl (hts _ hcl.1.2.2.1) (hts _ hcl.1.1) hcl.1.2.2.2 ⟨hrm.1, hrm.2.1⟩, hts _ hcl.2.1, hts _ hcl.2.2.1⟩ ⟨pk_blind, w_recv C.2.2.2.2.2.2.2.2.1 hR hk he hci, fun U hU hW => ⟨rfl, by rw [hU]; exact hR, KK.warm hW C.2.2.2.2.2.2.2.2.1⟩⟩ rfl rfl hl.1 rfl (lv_room hst) hd ⟨hrm.2.2.1, hrm.2.2.2⟩) hS (fun v dm ad ct H1 locs1 hq hR1 hS1 => hq p l e s m args below meth c C H1 locs1 ls hl hR1 hS1)
theorem e_callU3 {idx k i ci : Nat} {fs : List Value} {x : MethodName} {y' : MethodName} {cc' : ByteArray} {nL' : Nat} {ret' : Option FieldType} {R' : Room} {v1 v2 v3 : Value} (hd : dc cc pc (.invokevirtual idx) 3 n) (hcl : CLU y.cls idx x y' cc' nL' ret' 3 ci) (hk : dm k i) (he : ct k i = .inr (ci, fs)) (hrm : R'.frames + 1 ≤ R.frames ∧ 8 + (nL' + 11) + R'.locals ≤ R.locals ∧ cells + R'.cells ≤ R.cells ∧ slots + R'.slots ≤ R.slots) (hC : Ct b0 D dA y' cc' nL' ret' R' [.ref (ad k i), v1, v2, v3] dm ad ct (fun v dm ad ct => E b0 D dA y cc nL ret R EX QF n lv (vl v st) dm ad ct (cells + R'.cells) (slots + R'.slots))) (hst : (st.map fun v => v.category).sum ≤ 8 := by decide) : E b0 D dA y cc nL ret R EX QF pc lv (v3 :: v2 :: v1 :: .ref (ad k i) :: st) dm ad ct cells slots := by
  obtain ⟨hd, rfl⟩ := hd
  intro p l e s m args below meth c C H locs ls hl hR hS
  have hts := C.2.2.2.2.2.1
  obtain ⟨c1, c2, c3, c4, c5, c6, c7, Cn, T0, N0, hci, c8⟩ := hcl
  have hG : GoodIn gT (va_wsU y.cls idx Cn x.cls x y' (.code y' cc' nL' ret' :: gT)) := by
    intro w hw
    have hm : w ∈ gT := by
      simp only [va_wsU, List.mem_append, List.mem_cons, List.not_mem_nil, or_false] at hw
      rcases hw with (rfl | rfl | rfl | rfl | rfl) | rfl | hw
      · exact c1
      · exact c2
      · exact c8
      · exact c4
      · exact c5
      · exact c6
      · exact hw
    exact ⟨hm, good_of_word (List.mem_filter.mp hm).2⟩
  exact w_call (va_runU (C := Cn) (owner := x.cls) (As := [v1, v2, v3]) (rest := st) ⟨C.1, C.2.1, C.2.2.2.1, C.2.2.2.2.1, C.2.2.2.2.2.1⟩ (hC l) (va_cwA 3 hts hG rfl rfl rfl (C.2.2.2.2.2.2.2.2.1.2.2.1 _ c3) c7 ⟨hrm.1, hrm.2.1⟩) ⟨pk_blind, w_recv C.2.2.2.2.2.2.2.2.1 hR hk he hci, fun U hU hW => ⟨rfl, by rw [hU]; exact hR, KK.warm hW C.2.2.2.2.2.2.2.2.1⟩⟩ rfl rfl hl.1 rfl (lv_room hst) hd ⟨hrm.2.2.1, hrm.2.2.2⟩) hS (fun v dm ad ct H1 locs1 hq hR1 hS1 => hq p l e s m args below meth c C H1 locs1 ls hl hR1 hS1)
theorem e_callI3 {idx a : Nat} {y' : MethodName} {cc' : ByteArray} {nL' : Nat} {R' : Room} {v1 v2 v3 : Value} (hd : dc cc pc (.invokespecial idx) 3 n) (hcl : CLI y.cls idx y' cc' nL' 3) (hrm : R'.frames + 1 ≤ R.frames ∧ 8 + (nL' + 11) + R'.locals ≤ R.locals ∧ cells + R'.cells ≤ R.cells ∧ slots + R'.slots ≤ R.slots) (hC : Ct b0 D dA y' cc' nL' none R' [.ref a, v1, v2, v3] dm ad ct (fun v dm ad ct => E b0 D dA y cc nL ret R EX QF n lv (vl v st) dm ad ct (cells + R'.cells) (slots + R'.slots))) (hst : (st.map fun v => v.category).sum ≤ 8 := by decide) : E b0 D dA y cc nL ret R EX QF pc lv (v3 :: v2 :: v1 :: .ref a :: st) dm ad ct cells slots := by
  obtain ⟨hd, rfl⟩ := hd
  intro p l e s m args below meth c C H locs ls hl hR hS
  have hts := C.2.2.2.2.2.1
  exact w_call (va_runI (As := [v1, v2, v3]) (rest := st) ⟨C.1, C.2.1, C.2.2.2.1, C.2.2.2.2.1, C.2.2.2.2.2.1⟩ (hC l) ⟨callB_of _ hts (gT_good hcl.1.2.1) rfl rfl rfl (hts _ hcl.1.2.2.1) (hts _ hcl.1.1) hcl.1.2.2.2 ⟨hrm.1, hrm.2.1⟩, hcl.2.1, hts _ hcl.2.2⟩ ⟨pk_blind, fun U hU hW => ⟨rfl, by rw [hU]; exact hR, KK.warm hW C.2.2.2.2.2.2.2.2.1⟩⟩ rfl rfl hl.1 rfl (lv_room hst) hd ⟨hrm.2.2.1, hrm.2.2.2⟩) hS (fun v dm ad ct H1 locs1 hq hR1 hS1 => hq p l e s m args below meth c C H1 locs1 ls hl hR1 hS1)
theorem e_callIN3 {idx a : Nat} {y' : MethodName} {cc' : ByteArray} {nL' : Nat} {R' : Room} {v1 v2 v3 : Value} (hd : dc cc pc (.invokespecial idx) 3 n) (hcl : CNI y.cls idx y' cc' nL' 3) (hrm : R'.frames + 1 ≤ R.frames ∧ 8 + (nL' + 11) + R'.locals ≤ R.locals ∧ cells + R'.cells ≤ R.cells ∧ slots + R'.slots ≤ R.slots) (hC : Ct b0 D dA y' cc' nL' none R' [.ref a, v1, v2, v3] dm ad ct (fun v dm ad ct => E b0 D dA y cc nL ret R EX QF n lv (vl v st) dm ad ct (cells + R'.cells) (slots + R'.slots))) (hst : (st.map fun v => v.category).sum ≤ 8 := by decide) : E b0 D dA y cc nL ret R EX QF pc lv (v3 :: v2 :: v1 :: .ref a :: st) dm ad ct cells slots := by
  obtain ⟨hd, rfl⟩ := hd
  intro p l e s m args below meth c C H locs ls hl hR hS
  have hts := C.2.2.2.2.2.1
  obtain ⟨host, hcl0⟩ := hcl.1.1
  exact w_call (va_runIN (As := [v1, v2, v3]) (rest := st) ⟨C.1, C.2.1, C.2.2.2.1, C.2.2.2.2.1, C.2.2.2.2.2.1⟩ (hC l) ⟨va_cnB _ hts (gT_good hcl.1.2.1) rfl rfl rfl (C.2.2.2.2.2.2.2.2.1.2.1 _ hcl0) (hts _ hcl.1.2.2.1) hcl.1.2.2.2 ⟨hrm.1, hrm.2.1⟩, hcl.2.1, hts _ hcl.2.2⟩ ⟨pk_blind, fun U hU hW => ⟨rfl, by rw [hU]; exact hR, KK.warm hW C.2.2.2.2.2.2.2.2.1⟩⟩ rfl rfl hl.1 rfl (lv_room hst) hd ⟨hrm.2.2.1, hrm.2.2.2⟩) hS (fun v dm ad ct H1 locs1 hq hR1 hS1 => hq p l e s m args below meth c C H1 locs1 ls hl hR1 hS1)
theorem e_callS4 {idx : Nat} {y' : MethodName} {cc' : ByteArray} {nL' : Nat} {ret' : Option FieldType} {R' : Room} {v1 v2 v3 v4 : Value} (hd : dc cc pc (.invokestatic idx) 3 n) (hcl : CLS y.cls idx y' cc' nL' ret' 4) (hrm : R'.frames + 1 ≤ R.frames ∧ 8 + (nL' + 11) + R'.locals ≤ R.locals ∧ cells + R'.cells ≤ R.cells ∧ slots + R'.slots ≤ R.slots) (hC : Ct b0 D dA y' cc' nL' ret' R' [v1, v2, v3, v4] dm ad ct (fun v dm ad ct => E b0 D dA y cc nL ret R EX QF n lv (vl v st) dm ad ct (cells + R'.cells) (slots + R'.slots))) (hst : (st.map fun v => v.category).sum ≤ 8 := by decide) : E b0 D dA y cc nL ret R EX QF pc lv (v4 :: v3 :: v2 :: v1 :: st) dm ad ct cells slots := by
  obtain ⟨hd, rfl⟩ := hd
  intro p l e s m args below meth c C H locs ls hl hR hS
  have hts := C.2.2.2.2.2.1
  exact w_call (va_runS (As := [v1, v2, v3, v4]) (rest := st) ⟨C.1, C.2.1, C.2.2.2.1, C.2.2.2.2.1, C.2.2.2.2.2.1⟩ (hC l) ⟨callB_of _ hts (gT_good hcl.1.2.1) rfl rfl rfl (hts _ hcl.1.2.2.1) (hts _ hcl.1.1) hcl.1.2.2.2 ⟨hrm.1, hrm.2.1⟩, hts _ hcl.2⟩ ⟨pk_blind, fun U hU hW => ⟨rfl, by rw [hU]; exact hR, KK.warm hW C.2.2.2.2.2.2.2.2.1⟩⟩ rfl rfl hl.1 rfl (lv_room hst) hd ⟨hrm.2.2.1, hrm.2.2.2⟩) hS (fun v dm ad ct H1 locs1 hq hR1 hS1 => hq p l e s m args below meth c C H1 locs1 ls hl hR1 hS1)
theorem e_callSN4 {idx : Nat} {y' : MethodName} {cc' : ByteArray} {nL' : Nat} {ret' : Option FieldType} {R' : Room} {v1 v2 v3 v4 : Value} (hd : dc cc pc (.invokestatic idx) 3 n) (hcl : CNS y.cls idx y' cc' nL' ret' 4) (hrm : R'.frames + 1 ≤ R.frames ∧ 8 + (nL' + 11) + R'.locals ≤ R.locals ∧ cells + R'.cells ≤ R.cells ∧ slots + R'.slots ≤ R.slots) (hC : Ct b0 D dA y' cc' nL' ret' R' [v1, v2, v3, v4] dm ad ct (fun v dm ad ct => E b0 D dA y cc nL ret R EX QF n lv (vl v st) dm ad ct (cells + R'.cells) (slots + R'.slots))) (hst : (st.map fun v => v.category).sum ≤ 8 := by decide) : E b0 D dA y cc nL ret R EX QF pc lv (v4 :: v3 :: v2 :: v1 :: st) dm ad ct cells slots := by
  obtain ⟨hd, rfl⟩ := hd
  intro p l e s m args below meth c C H locs ls hl hR hS
  have hts := C.2.2.2.2.2.1
  obtain ⟨host, hcl0⟩ := hcl.1.1
  exact w_call (va_runSN (As := [v1, v2, v3, v4]) (rest := st) ⟨C.1, C.2.1, C.2.2.2.1, C.2.2.2.2.1, C.2.2.2.2.2.1⟩ (hC l) ⟨va_cnB _ hts (gT_good hcl.1.2.1) rfl rfl rfl (C.2.2.2.2.2.2.2.2.1.2.1 _ hcl0) (hts _ hcl.1.2.2.1) hcl.1.2.2.2 ⟨hrm.1, hrm.2.1⟩, hts _ hcl.2, trivial⟩ ⟨pk_blind, fun U hU hW => ⟨rfl, by rw [hU]; exact hR, KK.warm hW C.2.2.2.2.2.2.2.2.1⟩⟩ rfl rfl hl.1 rfl (lv_room hst) hd ⟨hrm.2.2.1, hrm.2.2.2⟩) hS (fun v dm ad ct H1 locs1 hq hR1 hS1 => hq p l e s m args below meth c C H1 locs1 ls hl hR1 hS1)
theorem e_callV4 {idx k i ci : Nat} {fs : List Value} {y' : MethodName} {cc' : ByteArray} {nL' : Nat} {ret' : Option FieldType} {R' : Room} {v1 v2 v3 v4 : Value} (hd : dc cc pc (.invokevirtual idx) 3 n) (hcl : CLV y.cls idx y' cc' nL' ret' 4 ci) (hk : dm k i) (he : ct k i = .inr (ci, fs)) (hrm : R'.frames + 1 ≤ R.frames ∧ 8 + (nL' + 11) + R'.locals ≤ R.locals ∧ cells + R'.cells ≤ R.cells ∧ slots + R'.slots ≤ R.slots) (hC : Ct b0 D dA y' cc' nL' ret' R' [.ref (ad k i), v1, v2, v3, v4] dm ad ct (fun v dm ad ct => E b0 D dA y cc nL ret R EX QF n lv (vl v st) dm ad ct (cells + R'.cells) (slots + R'.slots))) (hst : (st.map fun v => v.category).sum ≤ 8 := by decide) : E b0 D dA y cc nL ret R EX QF pc lv (v4 :: v3 :: v2 :: v1 :: .ref (ad k i) :: st) dm ad ct cells slots := by
  obtain ⟨hd, rfl⟩ := hd
  intro p l e s m args below meth c C H locs ls hl hR hS
  have hts := C.2.2.2.2.2.1
  obtain ⟨T0, N0, hci⟩ := hcl.2.2.2
  exact w_call (va_runV (As := [v1, v2, v3, v4]) (rest := st) ⟨C.1, C.2.1, C.2.2.2.1, C.2.2.2.2.1, C.2.2.2.2.2.1⟩ (hC l) ⟨callB_of _ hts (gT_good hcl.1.2.1) rfl rfl rfl (hts _ hcl.1.2.2.1) (hts _ hcl.1.1) hcl.1.2.2.2 ⟨hrm.1, hrm.2.1⟩, hts _ hcl.2.1, hts _ hcl.2.2.1⟩ ⟨pk_blind, w_recv C.2.2.2.2.2.2.2.2.1 hR hk he hci, fun U hU hW => ⟨rfl, by rw [hU]; exact hR, KK.warm hW C.2.2.2.2.2.2.2.2.1⟩⟩ rfl rfl hl.1 rfl (lv_room hst) hd ⟨hrm.2.2.1, hrm.2.2.2⟩) hS (fun v dm ad ct H1 locs1 hq hR1 hS1 => hq p l e s m args below meth c C H1 locs1 ls hl hR1 hS1)
theorem e_callU4 {idx k i ci : Nat} {fs : List Value} {x : MethodName} {y' : MethodName} {cc' : ByteArray} {nL' : Nat} {ret' : Option FieldType} {R' : Room} {v1 v2 v3 v4 : Value} (hd : dc cc pc (.invokevirtual idx) 3 n) (hcl : CLU y.cls idx x y' cc' nL' ret' 4 ci) (hk : dm k i) (he : ct k i = .inr (ci, fs)) (hrm : R'.frames + 1 ≤ R.frames ∧ 8 + (nL' + 11) + R'.locals ≤ R.locals ∧ cells + R'.cells ≤ R.cells ∧ slots + R'.slots ≤ R.slots) (hC : Ct b0 D dA y' cc' nL' ret' R' [.ref (ad k i), v1, v2, v3, v4] dm ad ct (fun v dm ad ct => E b0 D dA y cc nL ret R EX QF n lv (vl v st) dm ad ct (cells + R'.cells) (slots + R'.slots))) (hst : (st.map fun v => v.category).sum ≤ 8 := by decide) : E b0 D dA y cc nL ret R EX QF pc lv (v4 :: v3 :: v2 :: v1 :: .ref (ad k i) :: st) dm ad ct cells slots := by
  obtain ⟨hd, rfl⟩ := hd
  intro p l e s m args below meth c C H locs ls hl hR hS
  have hts := C.2.2.2.2.2.1
  obtain ⟨c1, c2, c3, c4, c5, c6, c7, Cn, T0, N0, hci, c8⟩ := hcl
  have hG : GoodIn gT (va_wsU y.cls idx Cn x.cls x y' (.code y' cc' nL' ret' :: gT)) := by
    intro w hw
    have hm : w ∈ gT := by
      simp only [va_wsU, List.mem_append, List.mem_cons, List.not_mem_nil, or_false] at hw
      rcases hw with (rfl | rfl | rfl | rfl | rfl) | rfl | hw
      · exact c1
      · exact c2
      · exact c8
      · exact c4
      · exact c5
      · exact c6
      · exact hw
    exact ⟨hm, good_of_word (List.mem_filter.mp hm).2⟩
  exact w_call (va_runU (C := Cn) (owner := x.cls) (As := [v1, v2, v3, v4]) (rest := st) ⟨C.1, C.2.1, C.2.2.2.1, C.2.2.2.2.1, C.2.2.2.2.2.1⟩ (hC l) (va_cwA 4 hts hG rfl rfl rfl (C.2.2.2.2.2.2.2.2.1.2.2.1 _ c3) c7 ⟨hrm.1, hrm.2.1⟩) ⟨pk_blind, w_recv C.2.2.2.2.2.2.2.2.1 hR hk he hci, fun U hU hW => ⟨rfl, by rw [hU]; exact hR, KK.warm hW C.2.2.2.2.2.2.2.2.1⟩⟩ rfl rfl hl.1 rfl (lv_room hst) hd ⟨hrm.2.2.1, hrm.2.2.2⟩) hS (fun v dm ad ct H1 locs1 hq hR1 hS1 => hq p l e s m args below meth c C H1 locs1 ls hl hR1 hS1)
theorem e_callI4 {idx a : Nat} {y' : MethodName} {cc' : ByteArray} {nL' : Nat} {R' : Room} {v1 v2 v3 v4 : Value} (hd : dc cc pc (.invokespecial idx) 3 n) (hcl : CLI y.cls idx y' cc' nL' 4) (hrm : R'.frames + 1 ≤ R.frames ∧ 8 + (nL' + 11) + R'.locals ≤ R.locals ∧ cells + R'.cells ≤ R.cells ∧ slots + R'.slots ≤ R.slots) (hC : Ct b0 D dA y' cc' nL' none R' [.ref a, v1, v2, v3, v4] dm ad ct (fun v dm ad ct => E b0 D dA y cc nL ret R EX QF n lv (vl v st) dm ad ct (cells + R'.cells) (slots + R'.slots))) (hst : (st.map fun v => v.category).sum ≤ 8 := by decide) : E b0 D dA y cc nL ret R EX QF pc lv (v4 :: v3 :: v2 :: v1 :: .ref a :: st) dm ad ct cells slots := by
  obtain ⟨hd, rfl⟩ := hd
  intro p l e s m args below meth c C H locs ls hl hR hS
  have hts := C.2.2.2.2.2.1
  exact w_call (va_runI (As := [v1, v2, v3, v4]) (rest := st) ⟨C.1, C.2.1, C.2.2.2.1, C.2.2.2.2.1, C.2.2.2.2.2.1⟩ (hC l) ⟨callB_of _ hts (gT_good hcl.1.2.1) rfl rfl rfl (hts _ hcl.1.2.2.1) (hts _ hcl.1.1) hcl.1.2.2.2 ⟨hrm.1, hrm.2.1⟩, hcl.2.1, hts _ hcl.2.2⟩ ⟨pk_blind, fun U hU hW => ⟨rfl, by rw [hU]; exact hR, KK.warm hW C.2.2.2.2.2.2.2.2.1⟩⟩ rfl rfl hl.1 rfl (lv_room hst) hd ⟨hrm.2.2.1, hrm.2.2.2⟩) hS (fun v dm ad ct H1 locs1 hq hR1 hS1 => hq p l e s m args below meth c C H1 locs1 ls hl hR1 hS1)
theorem e_callIN4 {idx a : Nat} {y' : MethodName} {cc' : ByteArray} {nL' : Nat} {R' : Room} {v1 v2 v3 v4 : Value} (hd : dc cc pc (.invokespecial idx) 3 n) (hcl : CNI y.cls idx y' cc' nL' 4) (hrm : R'.frames + 1 ≤ R.frames ∧ 8 + (nL' + 11) + R'.locals ≤ R.locals ∧ cells + R'.cells ≤ R.cells ∧ slots + R'.slots ≤ R.slots) (hC : Ct b0 D dA y' cc' nL' none R' [.ref a, v1, v2, v3, v4] dm ad ct (fun v dm ad ct => E b0 D dA y cc nL ret R EX QF n lv (vl v st) dm ad ct (cells + R'.cells) (slots + R'.slots))) (hst : (st.map fun v => v.category).sum ≤ 8 := by decide) : E b0 D dA y cc nL ret R EX QF pc lv (v4 :: v3 :: v2 :: v1 :: .ref a :: st) dm ad ct cells slots := by
  obtain ⟨hd, rfl⟩ := hd
  intro p l e s m args below meth c C H locs ls hl hR hS
  have hts := C.2.2.2.2.2.1
  obtain ⟨host, hcl0⟩ := hcl.1.1
  exact w_call (va_runIN (As := [v1, v2, v3, v4]) (rest := st) ⟨C.1, C.2.1, C.2.2.2.1, C.2.2.2.2.1, C.2.2.2.2.2.1⟩ (hC l) ⟨va_cnB _ hts (gT_good hcl.1.2.1) rfl rfl rfl (C.2.2.2.2.2.2.2.2.1.2.1 _ hcl0) (hts _ hcl.1.2.2.1) hcl.1.2.2.2 ⟨hrm.1, hrm.2.1⟩, hcl.2.1, hts _ hcl.2.2⟩ ⟨pk_blind, fun U hU hW => ⟨rfl, by rw [hU]; exact hR, KK.warm hW C.2.2.2.2.2.2.2.2.1⟩⟩ rfl rfl hl.1 rfl (lv_room hst) hd ⟨hrm.2.2.1, hrm.2.2.2⟩) hS (fun v dm ad ct H1 locs1 hq hR1 hS1 => hq p l e s m args below meth c C H1 locs1 ls hl hR1 hS1)
theorem e_objInit {idx a : Nat} (hd : dc cc pc (.invokespecial idx) 3 n) (hw : Cond.methodLink y.cls idx objectInit ∈ gT) (hw2 : Cond.instanceMethod objectInit ∈ gT) (hw3 : Cond.code objectInit ⟨#[0xb1]⟩ 1 none ∈ gT) (h1 : 1 ≤ R.frames) (h2 : 20 ≤ R.locals) (kk : E b0 D dA y cc nL ret R EX QF n lv (st) dm ad ct cells slots) (hst : (st.map fun v => v.category).sum ≤ 8 := by decide) : E b0 D dA y cc nL ret R EX QF pc lv (.ref a :: st) dm ad ct cells slots := by
  obtain ⟨hd, rfl⟩ := hd
  intro p l e s m args below meth c C H locs ls hl hR hS
  have hts := C.2.2.2.2.2.1
  have hq : 2 * (F0 m pc ls (Value.ref a :: st)).monitorRoom + (st.map fun v => v.category).sum ≤ 8 := lv_room hst
  refine W.objInit C.1 C.2.1 C.2.2.2.2.1 (hts _ hw) (hts _ hw2) (hts _ hw3) rfl (by rw [C.2.2.2.1]; exact hl.1) rfl hd h1 (by omega) ?_
  exact kk p l e s m args below meth c C H locs ls hl hR hS
theorem e_iret {Q : PQ} {v : Int32} {ty : FieldType} (hd : dc cc pc .ireturn 1 n) (hr : ret = some ty) (hn : narrow ty (.int v) = .int v) (hq : Q (some (.int v)) dm ad ct) (h1 : cells ≤ R.cells) (h2 : slots ≤ R.slots) : E b0 D dA y cc nL ret R EX (QFm b0 D dA R Q) pc lv [.int v] dm ad ct cells slots := by
  obtain ⟨hd, rfl⟩ := hd
  intro p l e s m args below meth c C H locs ls hl hR hS
  subst hr
  have hlocks := C.2.2.2.2.2.2.1
  refine W.widen h1 h2 ?_
  exact W.zret C.1 C.2.1 C.2.2.1 hn (fun t ht hW => ⟨⟨_, dm, ad, ct, rfl, hq, by rw [ht]; exact hR, KK.warm hW C.2.2.2.2.2.2.2.2.1⟩, hS.F ht⟩) hS.2.2 hd
theorem e_lret {Q : PQ} {v : Int64} (hd : dc cc pc .lreturn 1 n) (hr : ret = some .long) (hq : Q (some (.long v)) dm ad ct) (h1 : cells ≤ R.cells) (h2 : slots ≤ R.slots) : E b0 D dA y cc nL ret R EX (QFm b0 D dA R Q) pc lv [.long v] dm ad ct cells slots := by
  obtain ⟨hd, rfl⟩ := hd
  intro p l e s m args below meth c C H locs ls hl hR hS
  subst hr
  have hlocks := C.2.2.2.2.2.2.1
  refine W.widen h1 h2 ?_
  exact W.lret C.1 C.2.1 C.2.2.1 (fun t ht hW => ⟨⟨_, dm, ad, ct, rfl, hq, by rw [ht]; exact hR, KK.warm hW C.2.2.2.2.2.2.2.2.1⟩, hS.F ht⟩) hS.2.2 hd
theorem e_aret {Q : PQ} {v : Value} {Cn : String} (hd : dc cc pc .areturn 1 n) (hr : ret = some (.object Cn)) (hq : Q (some v) dm ad ct) (h1 : cells ≤ R.cells) (h2 : slots ≤ R.slots) (hv : isR v = true := by first | rfl | exact isR_rf _) : E b0 D dA y cc nL ret R EX (QFm b0 D dA R Q) pc lv [v] dm ad ct cells slots := by
  obtain ⟨hd, rfl⟩ := hd
  intro p l e s m args below meth c C H locs ls hl hR hS
  subst hr
  have hlocks := C.2.2.2.2.2.2.1
  refine W.widen h1 h2 ?_
  exact W.aret C.1 C.2.1 C.2.2.1 (Or.inl ⟨_, rfl⟩) (isR_or hv) (fun t ht hW => ⟨⟨_, dm, ad, ct, rfl, hq, by rw [ht]; exact hR, KK.warm hW C.2.2.2.2.2.2.2.2.1⟩, hS.F ht⟩) hS.2.2 hd
theorem e_vret {Q : PQ} (hd : dc cc pc .return_ 1 n) (hr : ret = none) (hq : Q none dm ad ct) (h1 : cells ≤ R.cells) (h2 : slots ≤ R.slots) : E b0 D dA y cc nL ret R EX (QFm b0 D dA R Q) pc lv [] dm ad ct cells slots := by
  obtain ⟨hd, rfl⟩ := hd
  intro p l e s m args below meth c C H locs ls hl hR hS
  subst hr
  have hlocks := C.2.2.2.2.2.2.1
  refine W.widen h1 h2 ?_
  exact W.vret C.1 C.2.1 C.2.2.1 (fun t ht hW => ⟨⟨_, dm, ad, ct, rfl, hq, by rw [ht]; exact hR, KK.warm hW C.2.2.2.2.2.2.2.2.1⟩, hS.F ht⟩) hS.2.2 hd
end EC
