/-! THE CLAIM OUT OF ONE WALK OF THE LAW'S BODY. Your part is whole_start (and what it stands on); all else here is the same for every law, but numbers. -/
def R_law : String := "ConstantKindsLaw"
def lw_P (b : Addr) (xs : List Int32) (args : Array Value) (s : State) : Prop := args = #[.ref b] ∧ s.IntsAt b xs ∧ xs.length ≤ 3072 ∧ (Jvm.Cond.and given_1 narrow_1).before args s = true
def lw_Q (_ : Array Value) (s : State) (o : Outcome) (t : State) : Prop := o = .returned (some (.int 1)) ∧ Framed s o t [] 600000 7302250
def lw_Z (below : List Frame) (a : Array Value) (s : State) : State → Prop := fun t => ∃ o, t.status = .running ∧ Ended t below o ∧ lw_Q a s o t
/-- the law's own end, with 1 on the stack, nothing written that was there before, its room as the claim has it -/
theorem lw_ret {p : Program} {l : Launch} {e : Env} {s : State} {m : MethodId} {below : List Frame} {meth : Method} {c : Code} {b : Nat} (hx : p.tables.exec = Jvm.exec) (hb : c.code = code) (hr : meth.sig.returnType = ret) (hlocks : meth.locks = false) {pc : Nat} {H : Heap} {ls : Array Slot} (hdg : decode code pc = .ok (.ireturn, 1)) : W p l e room_1 s m #[Value.ref b] below meth c H [] 600000 7302250 (lw_Z below #[Value.ref b] s) (F0 m pc ls [.int 1]) := by
  intro T hT X
  obtain ⟨fs, hret, hrun, hended, hW, hframe⟩ := X.leave (v := some (.int 1)) (hlocks := hlocks) (fun h => by rw [hr] at h; cases h)
  have hmeth' : T.vm.method? m = some meth := X.method'
  refine ⟨T.setFrames fs, ?_, .returned (some (.int 1)), hrun, hended, rfl, ⟨_, rfl⟩, hW, hframe⟩
  jvm_step X.here [X.here.top, hx, hb, hdg, hmeth', hr, ret, narrow_b1]
  (try refine ⟨rfl, ?_⟩); (try refine ⟨rfl, ?_⟩)
  first | (intro acts; rw [hret _ acts rfl rfl rfl]) | rw [hret _ _ rfl rfl rfl]
  exact Steps.refl _
/-- what holds at the law's entry: the machine, the code, the tables' words (any of lw_tbl by 'hts w (by decide +kernel)'), the script of L ints xs at the cell b, what the Statement gives of the start (any of its parts by flat_of_before) -/
def lw_At (p : Program) (s : State) (m : MethodId) (meth : Method) (c : Code) (b L : Nat) (xs : Nat → Int32) : Prop :=
  p.tables.exec = Jvm.exec ∧ c.code = code ∧ meth.sig.returnType = ret ∧ c.maxLocals = 4 ∧ s.vm.findClass R_law = some m.cls ∧ (∀ w ∈ lw_tbl, w.before #[Value.ref b] s = true) ∧ va_X b L xs s s.heap ∧ b < s.heap.size ∧ meth.locks = false ∧ (Jvm.Cond.and given_1 narrow_1).before #[Value.ref b] s = true
/-! ===== the law over E ===== -/
abbrev yLw (nm : String) : MethodName := ⟨RL, nm, "([I)Z"⟩
def EXL (b L : Nat) (xs : Nat → Int32) (b0 : Nat) : Array Value → State → Prop := fun args s => args = #[Value.ref b] ∧ va_X b L xs s s.heap ∧ b < s.heap.size ∧ s.heap.size = b0
def QFL : List Frame → Array Value → State → State → Prop := fun below args s => lw_Z below args s
section EL
variable {b0 : Nat} {D : va_G} {dA : Nat → ClassId} {y : MethodName} {cc : ByteArray} {nL : Nat} {ret : Option FieldType} {R : Room} {EX : Array Value → State → Prop} {QF : List Frame → Array Value → State → State → Prop} {pc n t : Nat} {lv : Nat → Option Value} {st : List Value} {dm : Nat → Nat → Prop} {ad : Nat → Nat → Nat} {ct : Nat → Nat → va_E} {cells slots : Nat} {b L : Nat} {xs : Nat → Int32}
theorem e_sld {x : Int32} (q : Nat) (hd : dc cc pc .iaload 1 n) (hx : x = nI q) (hq : q < L) (hL : L < 2 ^ 31) (kk : E b0 D dA y cc nL ret R (EXL b L xs b0) QF n lv (.int (xs q) :: st) dm ad ct cells slots) : E b0 D dA y cc nL ret R (EXL b L xs b0) QF pc lv (.int x :: .ref b :: st) dm ad ct cells slots := by
  obtain ⟨hd, rfl⟩ := hd
  intro p l e s m args below meth c C H locs ls hl hR hS
  obtain ⟨-, hX, hbl, hb0⟩ := C.2.2.2.2.2.2.2.2.2.2
  subst hx
  refine va_sld C.1 C.2.1 hX hbl (show ¬ b0 ≤ b by omega) hS (vp_in_nI hq hL) hd ?_
  rw [nI_clamp (by omega)]
  exact kk p l e s m args below meth c C H locs ls hl hR hS
theorem e_slen (hd : dc cc pc .arraylength 1 n) (kk : E b0 D dA y cc nL ret R (EXL b L xs b0) QF n lv (.int (nI L) :: st) dm ad ct cells slots) : E b0 D dA y cc nL ret R (EXL b L xs b0) QF pc lv (.ref b :: st) dm ad ct cells slots := by
  obtain ⟨hd, rfl⟩ := hd
  intro p l e s m args below meth c C H locs ls hl hR hS
  obtain ⟨-, hX, hbl, hb0⟩ := C.2.2.2.2.2.2.2.2.2.2
  exact va_slen C.1 C.2.1 hX hbl (show ¬ b0 ≤ b by omega) hS hd (kk p l e s m args below meth c C H locs ls hl hR hS)
/-- an array of references may be told by another function, the same within -/
theorem e_arrq {k i t0 N : Nat} {f g : Nat → Option Nat} (hk : dm k i) (he : ct k i = rfs dA t0 N f) (hfg : ∀ j, j < N → f j = g j) (kk : E b0 D dA y cc nL ret R EX QF pc lv st dm ad (u2 ct k i (rfs dA t0 N g)) cells slots) : E b0 D dA y cc nL ret R EX QF pc lv st dm ad ct cells slots := by
  intro p l e s m args below meth c C H locs ls hl hR hS
  refine kk p l e s m args below meth c C H locs ls hl (hR.put hk rfl ?_ (fun _ _ => rfl) (fun k' i' _ hn => u2_n hn)) hS
  have ha := (hR.2.1 k i hk).1
  rw [he] at ha
  rw [u2_s]
  have e : vp_cell (dA t0) (N, .inr (.inr (.inr (.inr f)))) = vp_cell (dA t0) (N, .inr (.inr (.inr (.inr g)))) := by
    rw [vp_cell_q, vp_cell_q]
    unfold arrV
    have : (fun j : Fin N => va_rf (f j.val)) = fun j : Fin N => va_rf (g j.val) := funext fun j => by rw [hfg j.val j.isLt]
    rw [this]
  show H[ad k i]? = some (vp_cell (dA t0) (N, .inr (.inr (.inr (.inr g)))))
  rw [← e]
  exact ha
end EL
theorem e_lawret {b0 : Nat} {D : va_G} {dA : Nat → ClassId} {nm : String} {pc n b L : Nat} {xs : Nat → Int32} {lv : Nat → Option Value} {dm : Nat → Nat → Prop} {ad : Nat → Nat → Nat} {ct : Nat → Nat → va_E} {cells slots : Nat} (hd : dc cL_law pc .ireturn 1 n) (h1 : cells ≤ 600000) (h2 : slots ≤ 7302250) : E b0 D dA (yLw nm) cL_law 4 ret room_1 (EXL b L xs b0) QFL pc lv [.int 1] dm ad ct cells slots := by
  obtain ⟨hd, rfl⟩ := hd
  intro p l e s m args below meth c C H locs ls hl hR hS
  obtain ⟨rfl, hX, hbl, hb0⟩ := C.2.2.2.2.2.2.2.2.2.2
  refine va_forget (fun q hq => ?_) ?_
  · have := hS.2.2 q hq
    rw [← hb0] at this
    exact this
  · refine W.widen h1 h2 ?_
    exact lw_ret C.1 C.2.1 C.2.2.1 C.2.2.2.2.2.2.1 hd
theorem rm_law {d nL' C' S' c s : Nat} (hd : d ≤ 40) (hn : nL' ≤ 21) (hc : c + C' ≤ 600000) (hs : s + S' ≤ 7302250) : (RmA d C' S').frames + 1 ≤ room_1.frames ∧ 8 + (nL' + 11) + (RmA d C' S').locals ≤ room_1.locals ∧ c + (RmA d C' S').cells ≤ room_1.cells ∧ s + (RmA d C' S').slots ≤ room_1.slots := by
  simp only [RmA, room_1]; omega
section EK
variable {b0 : Nat} {D : va_G} {dA : Nat → ClassId} {y : MethodName} {cc : ByteArray} {nL : Nat} {ret : Option FieldType} {R : Room} {EX : Array Value → State → Prop} {QF : List Frame → Array Value → State → State → Prop} {pc n t : Nat} {lv : Nat → Option Value} {st : List Value} {dm : Nat → Nat → Prop} {ad : Nat → Nat → Nat} {cells slots : Nat} {Sm Sm' S : St} {f : Nat}
theorem e_cM (kk : E b0 D dA y cc nL ret R EX QF pc lv st dm ad (ctM dA ad (cw dA ad Sm S f) Sm) cells slots) : E b0 D dA y cc nL ret R EX QF pc lv st dm ad (cw dA ad Sm S f) cells slots := by
  rw [cw_M] at kk; exact kk
theorem e_cM2 (kk : E b0 D dA y cc nL ret R EX QF pc lv st dm ad (cw dA ad Sm' S f) cells slots) : E b0 D dA y cc nL ret R EX QF pc lv st dm ad (ctM dA ad (cw dA ad Sm S f) Sm') cells slots := by
  rw [cw_M]; exact kk
end EK
theorem lT_at (i : Nat) {w : Cond} (h : tables_1[i]? = some w) : w ∈ lw_tbl := List.mem_append_right _ (List.mem_of_getElem? h)
theorem arr_p {args : Array Value} {s : State} {ty : FieldType} (h : (Cond.arrayClass ty).before args s = true) (hno : ∀ C, ty ≠ .object C) : ∃ cA, ArrOfT s cA ty ∧ va_RA s cA ty := by
  obtain ⟨cA, kA, comp, h1, h2, h3⟩ := Cond.arrayClass_spec h
  refine ⟨cA, fun n z => ⟨(fun k hk => by cases hk), kA, h2, comp, h3⟩, ?_⟩
  cases ty with
  | object C => exact absurd rfl (hno C)
  | _ => exact h1
theorem arr_o {args : Array Value} {s : State} {C : String} (h : (Cond.arrayOver (.object C)).before args s = true) : ∃ cA, ArrOfT s cA (.object C) ∧ va_RA s cA (.object C) := by
  obtain ⟨comp, cA, kA, h1, h2, h3, h4, h5⟩ := Cond.arrayOver_spec h
  exact ⟨cA, fun n z => ⟨(fun k hk => by cases hk), kA, h3, comp, h4⟩, kA, comp, h3, h4, h1, h5⟩
set_option maxHeartbeats 4000000 in
set_option maxRecDepth 100000 in
theorem kk_start {args : Array Value} {s : State} (hts : ∀ w ∈ lw_tbl, w.before args s = true) (hgv0 : (Jvm.Cond.and given_1 narrow_1).before args s = true) : ∃ (D : va_G) (dA : Nat → ClassId), KK D dA s := by
  have hgT : ∀ w ∈ gT, w.before args s = true := fun w hw => hts w (List.mem_filter.mp hw).1
  have hgv := flat_of_before _ hgv0
  obtain ⟨c0, iS0, hKn0⟩ := u_known (C := RX0) (T := TX0) (N := 2) (n := 2) hgT inG_X0 (hgT _ (gT_at 30 (by decide +kernel) rfl))
  obtain ⟨c1, iS1, hKn1⟩ := u_known (C := RX1) (T := TX1) (N := 3) (n := 3) hgT inG_X1 (hgT _ (gT_at 450 (by decide +kernel) rfl))
  obtain ⟨c2, iS2, hKn2⟩ := u_known (C := RX3) (T := TX3) (N := 4) (n := 4) hgT inG_X3 (hgT _ (gT_at 137 (by decide +kernel) rfl))
  obtain ⟨c3, iS3, hKn3⟩ := u_known (C := RX4) (T := TX4) (N := 3) (n := 3) hgT inG_X4 (hgT _ (gT_at 197 (by decide +kernel) rfl))
  obtain ⟨c4, iS4, hKn4⟩ := u_known (C := RX5) (T := TX5) (N := 4) (n := 4) hgT inG_X5 (hgT _ (gT_at 473 (by decide +kernel) rfl))
  obtain ⟨c5, iS5, hKn5⟩ := u_known (C := RX6) (T := TX6) (N := 3) (n := 3) hgT inG_X6 (hgT _ (gT_at 207 (by decide +kernel) rfl))
  obtain ⟨c6, iS6, hKn6⟩ := u_known (C := RX7) (T := TX7) (N := 1) (n := 1) hgT inG_X7 (hgT _ (gT_at 345 (by decide +kernel) rfl))
  obtain ⟨c7, iS7, hKn7⟩ := u_known (C := RX8) (T := TX8) (N := 6) (n := 6) hgT inG_X8 (hgT _ (gT_at 45 (by decide +kernel) rfl))
  obtain ⟨c8, iS8, hKn8⟩ := u_known (C := RX10) (T := TX10) (N := 3) (n := 3) hgT inG_X10 (hgT _ (gT_at 165 (by decide +kernel) rfl))
  obtain ⟨c9, iS9, hKn9⟩ := u_known (C := RX11) (T := TX11) (N := 13) (n := 13) hgT inG_X11 (hgT _ (gT_at 15 (by decide +kernel) rfl))
  obtain ⟨c10, iS10, hKn10⟩ := u_known (C := RX12) (T := TX12) (N := 34) (n := 34) hgT inG_X12 (hgT _ (gT_at 587 (by decide +kernel) rfl))
  obtain ⟨a0, ha0⟩ := arr_p (hts _ (lT_at 44 (by decide +kernel))) (ty := .int) (fun C h => by cases h)
  obtain ⟨a1, ha1⟩ := arr_p (hts _ (lT_at 695 (by decide +kernel))) (ty := .long) (fun C h => by cases h)
  have hao0 : (Cond.arrayOver (.object "ConstantKinds$Constant")).before args s = true := hts _ (lT_at 23 (by decide +kernel))
  obtain ⟨a2, ha2⟩ := arr_o hao0
  have hao1 : (Cond.arrayOver (.object "ConstantKinds$Build")).before args s = true := hts _ (lT_at 25 (by decide +kernel))
  obtain ⟨a3, ha3⟩ := arr_o hao1
  have hao2 : (Cond.arrayOver (.object "ConstantKinds$Thing")).before args s = true := hts _ (lT_at 27 (by decide +kernel))
  obtain ⟨a4, ha4⟩ := arr_o hao2
  have hao3 : (Cond.arrayOver (.object "ConstantKinds$Shape")).before args s = true := hts _ (lT_at 29 (by decide +kernel))
  obtain ⟨a5, ha5⟩ := arr_o hao3
  have hao4 : (Cond.arrayOver (.object "ConstantKinds$Check")).before args s = true := hts _ (lT_at 51 (by decide +kernel))
  obtain ⟨a6, ha6⟩ := arr_o hao4
  refine ⟨(fun k => if k = 0 then c0 else if k = 1 then c1 else if k = 2 then c2 else if k = 3 then c3 else if k = 4 then c4 else if k = 5 then c5 else if k = 6 then c6 else if k = 7 then c7 else if k = 8 then c8 else if k = 9 then c9 else c10, fun k => if k = 0 then iS0 else if k = 1 then iS1 else if k = 2 then iS2 else if k = 3 then iS3 else if k = 4 then iS4 else if k = 5 then iS5 else if k = 6 then iS6 else if k = 7 then iS7 else if k = 8 then iS8 else if k = 9 then iS9 else iS10), fun k => if k = 0 then a0 else if k = 1 then a1 else if k = 2 then a2 else if k = 3 then a3 else if k = 4 then a4 else if k = 5 then a5 else a6, ⟨fun k q hq => ?_, fun k q hq => ?_⟩, ?_, ?_, ?_, ?_, ?_⟩
  · match k, hq with
    | 0, hq => cases hq; exact hKn0
    | 1, hq => cases hq; exact hKn1
    | 2, hq => cases hq; exact hKn2
    | 3, hq => cases hq; exact hKn3
    | 4, hq => cases hq; exact hKn4
    | 5, hq => cases hq; exact hKn5
    | 6, hq => cases hq; exact hKn6
    | 7, hq => cases hq; exact hKn7
    | 8, hq => cases hq; exact hKn8
    | 9, hq => cases hq; exact hKn9
    | 10, hq => cases hq; exact hKn10
    | k + 11, hq => simp at hq
  · match k, hq with
    | 0, hq => cases hq; exact ha0
    | 1, hq => cases hq; exact ha1
    | 2, hq => cases hq; exact ha2
    | 3, hq => cases hq; exact ha3
    | 4, hq => cases hq; exact ha4
    | 5, hq => cases hq; exact ha5
    | 6, hq => cases hq; exact ha6
    | k + 7, hq => simp [eTs] at hq
  · exact List.forall_mem_cons.mpr ⟨va_Nw.of rfl (hts _ (lT_at 31 (by decide +kernel))), List.forall_mem_cons.mpr ⟨va_Nw.of rfl (hts _ (lT_at 250 (by decide +kernel))), List.forall_mem_cons.mpr ⟨va_Nw.of rfl (hts _ (lT_at 172 (by decide +kernel))), List.forall_mem_cons.mpr ⟨va_Nw.of rfl (hts _ (lT_at 477 (by decide +kernel))), List.forall_mem_cons.mpr ⟨va_Nw.of rfl (hts _ (lT_at 510 (by decide +kernel))), List.forall_mem_cons.mpr ⟨va_Nw.of rfl (hts _ (lT_at 349 (by decide +kernel))), List.forall_mem_cons.mpr ⟨va_Nw.of rfl (hts _ (lT_at 350 (by decide +kernel))), List.forall_mem_cons.mpr ⟨va_Nw.of rfl (hts _ (lT_at 442 (by decide +kernel))), fun _ h => absurd h List.not_mem_nil⟩⟩⟩⟩⟩⟩⟩⟩
  · exact List.forall_mem_cons.mpr ⟨va_Nw.of rfl (hts _ (lT_at 272 (by decide +kernel))), List.forall_mem_cons.mpr ⟨va_Nw.of rfl (hts _ (lT_at 292 (by decide +kernel))), List.forall_mem_cons.mpr ⟨va_Nw.of rfl (hts _ (lT_at 377 (by decide +kernel))), fun _ h => absurd h List.not_mem_nil⟩⟩⟩
  · exact List.forall_mem_cons.mpr ⟨va_AO.of hao0, List.forall_mem_cons.mpr ⟨va_AO.of hao1, List.forall_mem_cons.mpr ⟨va_AO.of hao2, List.forall_mem_cons.mpr ⟨va_AO.of hao3, List.forall_mem_cons.mpr ⟨va_AO.of hao4, fun _ h => absurd h List.not_mem_nil⟩⟩⟩⟩⟩
  · exact List.forall_mem_cons.mpr ⟨va_Nw.of rfl (hts _ (lT_at 890 (by decide +kernel))), List.forall_mem_cons.mpr ⟨va_Nw.of rfl (hts _ (lT_at 891 (by decide +kernel))), List.forall_mem_cons.mpr ⟨va_Nw.of rfl (hts _ (lT_at 892 (by decide +kernel))), List.forall_mem_cons.mpr ⟨va_Nw.of rfl (hts _ (lT_at 888 (by decide +kernel))), List.forall_mem_cons.mpr ⟨va_Nw.of rfl (hts _ (lT_at 889 (by decide +kernel))), List.forall_mem_cons.mpr ⟨va_Nw.of rfl (hts _ (lT_at 886 (by decide +kernel))), List.forall_mem_cons.mpr ⟨va_Nw.of rfl (hts _ (lT_at 887 (by decide +kernel))), List.forall_mem_cons.mpr ⟨va_Nw.of rfl (hts _ (lT_at 894 (by decide +kernel))), List.forall_mem_cons.mpr ⟨va_Nw.of rfl (hts _ (lT_at 895 (by decide +kernel))), List.forall_mem_cons.mpr ⟨va_Nw.of rfl (hts _ (lT_at 884 (by decide +kernel))), List.forall_mem_cons.mpr ⟨va_Nw.of rfl (hts _ (lT_at 885 (by decide +kernel))), List.forall_mem_cons.mpr ⟨va_Nw.of rfl (hts _ (lT_at 896 (by decide +kernel))), List.forall_mem_cons.mpr ⟨va_Nw.of rfl (hts _ (lT_at 897 (by decide +kernel))), List.forall_mem_cons.mpr ⟨va_Nw.of rfl (hts _ (lT_at 893 (by decide +kernel))), fun _ h => absurd h List.not_mem_nil⟩⟩⟩⟩⟩⟩⟩⟩⟩⟩⟩⟩⟩⟩
  · exact List.forall_mem_cons.mpr ⟨va_Nc.of (hgv _ (by decide +kernel)), List.forall_mem_cons.mpr ⟨va_Nc.of (hgv _ (by decide +kernel)), List.forall_mem_cons.mpr ⟨va_Nc.of (hgv _ (by decide +kernel)), List.forall_mem_cons.mpr ⟨va_Nc.of (hgv _ (by decide +kernel)), List.forall_mem_cons.mpr ⟨va_Nc.of (hgv _ (by decide +kernel)), List.forall_mem_cons.mpr ⟨va_Nc.of (hgv _ (by decide +kernel)), List.forall_mem_cons.mpr ⟨va_Nc.of (hgv _ (by decide +kernel)), List.forall_mem_cons.mpr ⟨va_Nc.of (hgv _ (by decide +kernel)), List.forall_mem_cons.mpr ⟨va_Nc.of (hgv _ (by decide +kernel)), List.forall_mem_cons.mpr ⟨va_Nc.of (hgv _ (by decide +kernel)), List.forall_mem_cons.mpr ⟨va_Nc.of (hgv _ (by decide +kernel)), List.forall_mem_cons.mpr ⟨va_Nc.of (hgv _ (by decide +kernel)), List.forall_mem_cons.mpr ⟨va_Nc.of (hgv _ (by decide +kernel)), List.forall_mem_cons.mpr ⟨va_Nc.of (hgv _ (by decide +kernel)), List.forall_mem_cons.mpr ⟨va_Nc.of (hgv _ (by decide +kernel)), List.forall_mem_cons.mpr ⟨va_Nc.of (hgv _ (by decide +kernel)), List.forall_mem_cons.mpr ⟨va_Nc.of (hgv _ (by decide +kernel)), List.forall_mem_cons.mpr ⟨va_Nc.of (hgv _ (by decide +kernel)), List.forall_mem_cons.mpr ⟨va_Nc.of (hgv _ (by decide +kernel)), List.forall_mem_cons.mpr ⟨va_Nc.of (hgv _ (by decide +kernel)), List.forall_mem_cons.mpr ⟨va_Nc.of (hgv _ (by decide +kernel)), fun _ h => absurd h List.not_mem_nil⟩⟩⟩⟩⟩⟩⟩⟩⟩⟩⟩⟩⟩⟩⟩⟩⟩⟩⟩⟩⟩
