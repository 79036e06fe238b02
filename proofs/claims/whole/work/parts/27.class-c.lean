set_option maxRecDepth 100000 in
set_option maxHeartbeats 4000000 in
theorem c2_X11_constantAt {b0 : Nat} {D : va_G} {dA : Nat → ClassId} {ad : Nat → Nat → Nat} {Q : PQ} {Sm S : St} {f τ : Nat} (c : Int32) (hC : S.1 0 = nI (nC S)) (hC6 : nC S ≤ 60) (hq0 : isC S c = false → Q (some .null) (dmW S τ) ad (cw dA ad Sm S f)) (hq1 : ∀ c', c' < nC S → c = nI c' → isC S (nI c') = true → Q (some (.ref (ad 4 c'))) (dmW S τ) ad (cw dA ad Sm S f)) : Ct b0 D dA yX11_constantAt cX11_constantAt 2 (some (.object "ConstantKinds$Constant")) (Rm 1) [.ref (ad 0 0), .int c] (dmW S τ) ad (cw dA ad Sm S f) Q := by
  refine c_X11_constantAt c hC hC6 ?_
  cases h : isC S c with
  | false => exact hq0 h
  | true =>
    have hb : inB c 0 (nI (nC S) - 1) = true := by rw [← hC]; exact h
    obtain ⟨c', hc', rfl⟩ := inB_n (by omega) hb
    rw [if_pos rfl, tN_n (by omega)]
    exact hq1 c' hc' rfl h
theorem c2_X11_buildAt {b0 : Nat} {D : va_G} {dA : Nat → ClassId} {ad : Nat → Nat → Nat} {Q : PQ} {Sm S : St} {f τ : Nat} (kind bd : Int32) (hq0 : (inB kind 0 5 && inB bd 0 2) = false → Q (some .null) (dmW S τ) ad (cw dA ad Sm S f)) (hq1 : ∀ k b, k ≤ 5 → b ≤ 2 → kind = nI k → bd = nI b → inB (nI k) 0 5 = true → inB (nI b) 0 2 = true → Q (some (.ref (ad 2 (3 * k + b)))) (dmW S τ) ad (cw dA ad Sm S f)) : Ct b0 D dA yX11_buildAt cX11_buildAt 3 (some (.object "ConstantKinds$Build")) (Rm 1) [.ref (ad 0 0), .int kind, .int bd] (dmW S τ) ad (cw dA ad Sm S f) Q := by
  refine c_X11_buildAt kind bd ?_
  cases h : (inB kind 0 5 && inB bd 0 2) with
  | false => exact hq0 h
  | true =>
    rw [Bool.and_eq_true] at h
    obtain ⟨k, k1, k2, rfl⟩ := inB_l (a := 0) (b := 5) rfl rfl (by decide) (by decide) h.1
    obtain ⟨b, b1, b2, rfl⟩ := inB_l (a := 0) (b := 2) rfl rfl (by decide) (by decide) h.2
    rw [if_pos rfl, tN_n (by omega), tN_n (by omega)]
    exact hq1 k b k2 b2 rfl rfl h.1 h.2
theorem c2_X11_shapeAt {b0 : Nat} {D : va_G} {dA : Nat → ClassId} {ad : Nat → Nat → Nat} {Q : PQ} {Sm S : St} {f τ : Nat} (s : Int32) (hq0 : inB s 0 5 = false → Q (some .null) (dmW S τ) ad (cw dA ad Sm S f)) (hq1 : ∀ s', s' ≤ 5 → s = nI s' → inB (nI s') 0 5 = true → Q (some (.ref (ad 11 s'))) (dmW S τ) ad (cw dA ad Sm S f)) : Ct b0 D dA yX11_shapeAt cX11_shapeAt 2 (some (.object "ConstantKinds$Shape")) (Rm 1) [.ref (ad 0 0), .int s] (dmW S τ) ad (cw dA ad Sm S f) Q := by
  refine c_X11_shapeAt s ?_
  cases h : inB s 0 5 with
  | false => exact hq0 h
  | true =>
    obtain ⟨s', k1, k2, rfl⟩ := inB_l (a := 0) (b := 5) rfl rfl (by decide) (by decide) h
    rw [if_pos rfl, tN_n (by omega)]
    exact hq1 s' k2 rfl h
section XW2
variable {b0 : Nat} {D : va_G} {dA : Nat → ClassId} {y : MethodName} {cc : ByteArray} {nL : Nat} {ret : Option FieldType} {R : Room} {EX : Array Value → State → Prop} {QF : List Frame → Array Value → State → State → Prop} {pc n t : Nat} {lv : Nat → Option Value} {st : List Value} {ad : Nat → Nat → Nat} {cells slots : Nat} {Sm S : St} {f τ : Nat} {idx : Nat}
theorem w_wt {v : Int32} {c : Nat} (hd : dc cc pc (.putfield idx) 3 n) (hg : ∀ ci, (ci = 3 ∨ ci = 5 ∨ ci = 8) → FP y.cls idx ci 1 .int false) (hc : c < nC S) (kk : E b0 D dA y cc nL ret R EX QF n lv (st) (dmW (S.1, u2 S.2.1 4 c v, S.2.2) τ) ad (cw dA ad Sm (S.1, u2 S.2.1 4 c v, S.2.2) f) cells slots) : E b0 D dA y cc nL ret R EX QF pc lv (.int v :: .ref (ad 4 c) :: st) (dmW S τ) ad (cw dA ad Sm S f) cells slots := by
  refine x_put hd (hg _ (cb_or _)) rfl (show dmW S τ 4 c from hc) cw_4 rfl rfl (Nat.le_of_ble_eq_true rfl) ?_
  refine e_conv ?_ kk
  refine cw_cases (S := (S.1, u2 S.2.1 4 c v, S.2.2)) (τ := τ) (fun i hi => ⟨hi, rfl, rfl⟩) (fun i hi => ⟨hi, rfl, rfl⟩) (fun i hi => ⟨hi, rfl, rfl⟩) (fun i hi => ⟨hi, rfl, rfl⟩) (fun i hi => ⟨hi, rfl, ?_⟩) (fun i hi => ⟨hi, rfl, rfl⟩) (fun i hi => ⟨hi, rfl, rfl⟩) (fun i hi => ⟨hi, rfl, rfl⟩) (fun i hi => ⟨hi, rfl, rfl⟩) (fun i hi => ⟨hi, rfl, rfl⟩) (fun i hi => ⟨hi, rfl, rfl⟩) (fun i hi => ⟨hi, rfl, rfl⟩) (fun i hi => ⟨hi, rfl, rfl⟩) (fun i hi => ⟨hi, rfl, rfl⟩) (fun i hi => ⟨hi, rfl, rfl⟩) (fun i hi => ⟨hi, rfl, rfl⟩) (fun i hi => ⟨hi, rfl, rfl⟩) (fun i hi => ⟨hi, rfl, rfl⟩)
  have key : ∀ z : Int32, z = u2 S.2.1 4 c v 4 i → (Sum.inr (cb (S.2.1 3 i), [.ref (ad 5 i), .int z, .int (S.2.1 5 i)]) : va_E) = cw dA ad Sm (S.1, u2 S.2.1 4 c v, S.2.2) f 4 i := fun z hz => by subst hz; rfl
  by_cases h : i = c
  · subst h; rw [u2_s]; exact key v u2_s.symm
  · rw [u2_n (fun z => h z.2)]; exact key _ (u2_n (fun z => h z.2)).symm
theorem w_dr {v : Int32} {c : Nat} (hd : dc cc pc (.putfield idx) 3 n) (hg : ∀ ci, (ci = 3 ∨ ci = 5 ∨ ci = 8) → FP y.cls idx ci 2 .int false) (hc : c < nC S) (kk : E b0 D dA y cc nL ret R EX QF n lv (st) (dmW (S.1, u2 S.2.1 5 c v, S.2.2) τ) ad (cw dA ad Sm (S.1, u2 S.2.1 5 c v, S.2.2) f) cells slots) : E b0 D dA y cc nL ret R EX QF pc lv (.int v :: .ref (ad 4 c) :: st) (dmW S τ) ad (cw dA ad Sm S f) cells slots := by
  refine x_put hd (hg _ (cb_or _)) rfl (show dmW S τ 4 c from hc) cw_4 rfl rfl (Nat.le_of_ble_eq_true rfl) ?_
  refine e_conv ?_ kk
  refine cw_cases (S := (S.1, u2 S.2.1 5 c v, S.2.2)) (τ := τ) (fun i hi => ⟨hi, rfl, rfl⟩) (fun i hi => ⟨hi, rfl, rfl⟩) (fun i hi => ⟨hi, rfl, rfl⟩) (fun i hi => ⟨hi, rfl, rfl⟩) (fun i hi => ⟨hi, rfl, ?_⟩) (fun i hi => ⟨hi, rfl, rfl⟩) (fun i hi => ⟨hi, rfl, rfl⟩) (fun i hi => ⟨hi, rfl, rfl⟩) (fun i hi => ⟨hi, rfl, rfl⟩) (fun i hi => ⟨hi, rfl, rfl⟩) (fun i hi => ⟨hi, rfl, rfl⟩) (fun i hi => ⟨hi, rfl, rfl⟩) (fun i hi => ⟨hi, rfl, rfl⟩) (fun i hi => ⟨hi, rfl, rfl⟩) (fun i hi => ⟨hi, rfl, rfl⟩) (fun i hi => ⟨hi, rfl, rfl⟩) (fun i hi => ⟨hi, rfl, rfl⟩) (fun i hi => ⟨hi, rfl, rfl⟩)
  have key : ∀ z : Int32, z = u2 S.2.1 5 c v 5 i → (Sum.inr (cb (S.2.1 3 i), [.ref (ad 5 i), .int (S.2.1 4 i), .int z]) : va_E) = cw dA ad Sm (S.1, u2 S.2.1 5 c v, S.2.2) f 4 i := fun z hz => by subst hz; rfl
  by_cases h : i = c
  · subst h; rw [u2_s]; exact key v u2_s.symm
  · rw [u2_n (fun z => h z.2)]; exact key _ (u2_n (fun z => h z.2)).symm
theorem w_pl {x t0 : Int32} {v k2 i2 ci : Nat} {fs : List Value} (q : Nat) (hd : dc cc pc .aastore 1 n) (hx : x = nI q) (hq : q < 10) (ht : tr ad t0 = some v) (hav : ad k2 i2 = v) (hk2 : dmW S τ k2 i2) (he2 : cw dA ad Sm S f k2 i2 = .inr (ci, fs)) (hA : FA ci "ConstantKinds$Thing") (kk : E b0 D dA y cc nL ret R EX QF n lv (st) (dmW (S.1, u2 S.2.1 15 q t0, S.2.2) τ) ad (cw dA ad Sm (S.1, u2 S.2.1 15 q t0, S.2.2) f) cells slots) : E b0 D dA y cc nL ret R EX QF pc lv (.ref v :: .int x :: .ref (ad 1 6) :: st) (dmW S τ) ad (cw dA ad Sm S f) cells slots := by
  refine x_ast q hd rfl (show dmW S τ 1 6 by rw [dmW_1]; decide) (show cw dA ad Sm S f 1 6 = rfs dA 4 10 (plF ad S) from rfl) rfl hx hq (by decide) hav hk2 he2 hA ?_
  refine e_conv ?_ kk
  refine cw_cases (S := (S.1, u2 S.2.1 15 q t0, S.2.2)) (τ := τ) (fun i hi => ⟨hi, rfl, rfl⟩) (fun i hi => ⟨hi, rfl, ?_⟩) (fun i hi => ⟨hi, rfl, rfl⟩) (fun i hi => ⟨hi, rfl, rfl⟩) (fun i hi => ⟨hi, rfl, rfl⟩) (fun i hi => ⟨hi, rfl, rfl⟩) (fun i hi => ⟨hi, rfl, rfl⟩) (fun i hi => ⟨hi, rfl, rfl⟩) (fun i hi => ⟨hi, rfl, rfl⟩) (fun i hi => ⟨hi, rfl, rfl⟩) (fun i hi => ⟨hi, rfl, rfl⟩) (fun i hi => ⟨hi, rfl, rfl⟩) (fun i hi => ⟨hi, rfl, rfl⟩) (fun i hi => ⟨hi, rfl, rfl⟩) (fun i hi => ⟨hi, rfl, rfl⟩) (fun i hi => ⟨hi, rfl, rfl⟩) (fun i hi => ⟨hi, rfl, rfl⟩) (fun i hi => ⟨hi, rfl, rfl⟩)
  rcases hi with rfl | rfl | rfl | rfl | rfl | rfl | rfl <;> first | rfl | skip
  rw [u2_s]
  show rfs dA 4 10 _ = rfs dA 4 10 (plF ad (S.1, u2 S.2.1 15 q t0, S.2.2))
  congr 5
  funext j
  by_cases h : j = q
  · subst h; rw [va_up_self, pl_w hq, ht]
  · rw [va_up_ne _ _ h]
    show plF ad S j = if j < 10 then tr ad (u2 S.2.1 15 q t0 15 j) else none
    rw [u2_n (fun z => h z.2)]; rfl
theorem w_plN {x : Int32} (q : Nat) (hd : dc cc pc .aastore 1 n) (hx : x = nI q) (hq : q < 10) (kk : E b0 D dA y cc nL ret R EX QF n lv (st) (dmW (S.1, u2 S.2.1 15 q (-1), S.2.2) τ) ad (cw dA ad Sm (S.1, u2 S.2.1 15 q (-1), S.2.2) f) cells slots) : E b0 D dA y cc nL ret R EX QF pc lv (.null :: .int x :: .ref (ad 1 6) :: st) (dmW S τ) ad (cw dA ad Sm S f) cells slots := by
  refine x_astN q hd rfl (show dmW S τ 1 6 by rw [dmW_1]; decide) (show cw dA ad Sm S f 1 6 = rfs dA 4 10 (plF ad S) from rfl) rfl hx hq (by decide) ?_
  refine e_conv ?_ kk
  refine cw_cases (S := (S.1, u2 S.2.1 15 q (-1), S.2.2)) (τ := τ) (fun i hi => ⟨hi, rfl, rfl⟩) (fun i hi => ⟨hi, rfl, ?_⟩) (fun i hi => ⟨hi, rfl, rfl⟩) (fun i hi => ⟨hi, rfl, rfl⟩) (fun i hi => ⟨hi, rfl, rfl⟩) (fun i hi => ⟨hi, rfl, rfl⟩) (fun i hi => ⟨hi, rfl, rfl⟩) (fun i hi => ⟨hi, rfl, rfl⟩) (fun i hi => ⟨hi, rfl, rfl⟩) (fun i hi => ⟨hi, rfl, rfl⟩) (fun i hi => ⟨hi, rfl, rfl⟩) (fun i hi => ⟨hi, rfl, rfl⟩) (fun i hi => ⟨hi, rfl, rfl⟩) (fun i hi => ⟨hi, rfl, rfl⟩) (fun i hi => ⟨hi, rfl, rfl⟩) (fun i hi => ⟨hi, rfl, rfl⟩) (fun i hi => ⟨hi, rfl, rfl⟩) (fun i hi => ⟨hi, rfl, rfl⟩)
  rcases hi with rfl | rfl | rfl | rfl | rfl | rfl | rfl <;> first | rfl | skip
  rw [u2_s]
  show rfs dA 4 10 _ = rfs dA 4 10 (plF ad (S.1, u2 S.2.1 15 q (-1), S.2.2))
  congr 5
  funext j
  by_cases h : j = q
  · subst h; rw [va_up_self, pl_w hq, tr_0]
  · rw [va_up_ne _ _ h]
    show plF ad S j = if j < 10 then tr ad (u2 S.2.1 15 q (-1) 15 j) else none
    rw [u2_n (fun z => h z.2)]; rfl
end XW2
theorem fa_t {ci : Nat} (h : ci = 3 ∨ ci = 4 ∨ ci = 5 ∨ ci = 6 ∨ ci = 8) : FA ci "ConstantKinds$Thing" := by
  rcases h with rfl | rfl | rfl | rfl | rfl
  · exact ⟨RX4, TX4, 3, rfl, Or.inr (by decide +kernel)⟩
  · exact ⟨RX5, TX5, 4, rfl, Or.inr (by decide +kernel)⟩
  · exact ⟨RX6, TX6, 3, rfl, Or.inr (by decide +kernel)⟩
  · exact ⟨RX7, TX7, 1, rfl, Or.inr (by decide +kernel)⟩
  · exact ⟨RX10, TX10, 3, rfl, Or.inr (by decide +kernel)⟩
set_option maxRecDepth 100000 in
set_option maxHeartbeats 4000000 in
theorem c_X6_familyNumber {b0 : Nat} {D : va_G} {dA : Nat → ClassId} {dm : Nat → Nat → Prop} {ad : Nat → Nat → Nat} {Q : PQ} {ct : Nat → Nat → va_E} {o : Nat} (hq : Q (some (.int 1)) dm ad ct) : Ct b0 D dA yX6_familyNumber cX6_familyNumber 1 (some .int) (Rm 0) [.ref o] dm ad ct Q := by
  refine ct_of (by decide) (Nat.le_of_ble_eq_true rfl) ?_
  refine e_push dX6_familyNumber_0 ?_
  exact e_iretI dX6_familyNumber_1 rfl hq (by decide) (by decide)
set_option maxRecDepth 100000 in
set_option maxHeartbeats 4000000 in
theorem c_X6_bodyNumber {b0 : Nat} {D : va_G} {dA : Nat → ClassId} {dm : Nat → Nat → Prop} {ad : Nat → Nat → Nat} {Q : PQ} {ct : Nat → Nat → va_E} {o : Nat} (hq : Q (some (.int 0)) dm ad ct) : Ct b0 D dA yX6_bodyNumber cX6_bodyNumber 1 (some .int) (Rm 0) [.ref o] dm ad ct Q := by
  refine ct_of (by decide) (Nat.le_of_ble_eq_true rfl) ?_
  refine e_push dX6_bodyNumber_0 ?_
  exact e_iretI dX6_bodyNumber_1 rfl hq (by decide) (by decide)
set_option maxRecDepth 100000 in
set_option maxHeartbeats 4000000 in
theorem c_X10_familyNumber {b0 : Nat} {D : va_G} {dA : Nat → ClassId} {dm : Nat → Nat → Prop} {ad : Nat → Nat → Nat} {Q : PQ} {ct : Nat → Nat → va_E} {o : Nat} (hq : Q (some (.int 2)) dm ad ct) : Ct b0 D dA yX10_familyNumber cX10_familyNumber 1 (some .int) (Rm 0) [.ref o] dm ad ct Q := by
  refine ct_of (by decide) (Nat.le_of_ble_eq_true rfl) ?_
  refine e_push dX10_familyNumber_0 ?_
  exact e_iretI dX10_familyNumber_1 rfl hq (by decide) (by decide)
set_option maxRecDepth 100000 in
set_option maxHeartbeats 4000000 in
theorem c_X10_bodyNumber {b0 : Nat} {D : va_G} {dA : Nat → ClassId} {dm : Nat → Nat → Prop} {ad : Nat → Nat → Nat} {Q : PQ} {ct : Nat → Nat → va_E} {o : Nat} (hq : Q (some (.int 1)) dm ad ct) : Ct b0 D dA yX10_bodyNumber cX10_bodyNumber 1 (some .int) (Rm 0) [.ref o] dm ad ct Q := by
  refine ct_of (by decide) (Nat.le_of_ble_eq_true rfl) ?_
  refine e_push dX10_bodyNumber_0 ?_
  exact e_iretI dX10_bodyNumber_1 rfl hq (by decide) (by decide)
set_option maxRecDepth 100000 in
set_option maxHeartbeats 4000000 in
theorem c_X4_familyNumber {b0 : Nat} {D : va_G} {dA : Nat → ClassId} {dm : Nat → Nat → Prop} {ad : Nat → Nat → Nat} {Q : PQ} {ct : Nat → Nat → va_E} {o : Nat} (hq : Q (some (.int 3)) dm ad ct) : Ct b0 D dA yX4_familyNumber cX4_familyNumber 1 (some .int) (Rm 0) [.ref o] dm ad ct Q := by
  refine ct_of (by decide) (Nat.le_of_ble_eq_true rfl) ?_
  refine e_push dX4_familyNumber_0 ?_
  exact e_iretI dX4_familyNumber_1 rfl hq (by decide) (by decide)
set_option maxRecDepth 100000 in
set_option maxHeartbeats 4000000 in
theorem c_X4_bodyNumber {b0 : Nat} {D : va_G} {dA : Nat → ClassId} {dm : Nat → Nat → Prop} {ad : Nat → Nat → Nat} {Q : PQ} {ct : Nat → Nat → va_E} {o : Nat} (hq : Q (some (.int 2)) dm ad ct) : Ct b0 D dA yX4_bodyNumber cX4_bodyNumber 1 (some .int) (Rm 0) [.ref o] dm ad ct Q := by
  refine ct_of (by decide) (Nat.le_of_ble_eq_true rfl) ?_
  refine e_push dX4_bodyNumber_0 ?_
  exact e_iretI dX4_bodyNumber_1 rfl hq (by decide) (by decide)
set_option maxRecDepth 100000 in
set_option maxHeartbeats 4000000 in
theorem c_X7_familyNumber {b0 : Nat} {D : va_G} {dA : Nat → ClassId} {dm : Nat → Nat → Prop} {ad : Nat → Nat → Nat} {Q : PQ} {ct : Nat → Nat → va_E} {o : Nat} (hq : Q (some (.int 4)) dm ad ct) : Ct b0 D dA yX7_familyNumber cX7_familyNumber 1 (some .int) (Rm 0) [.ref o] dm ad ct Q := by
  refine ct_of (by decide) (Nat.le_of_ble_eq_true rfl) ?_
  refine e_push dX7_familyNumber_0 ?_
  exact e_iretI dX7_familyNumber_1 rfl hq (by decide) (by decide)
set_option maxRecDepth 100000 in
set_option maxHeartbeats 4000000 in
theorem c_X5_familyNumber {b0 : Nat} {D : va_G} {dA : Nat → ClassId} {dm : Nat → Nat → Prop} {ad : Nat → Nat → Nat} {Q : PQ} {ct : Nat → Nat → va_E} {o : Nat} (hq : Q (some (.int 5)) dm ad ct) : Ct b0 D dA yX5_familyNumber cX5_familyNumber 1 (some .int) (Rm 0) [.ref o] dm ad ct Q := by
  refine ct_of (by decide) (Nat.le_of_ble_eq_true rfl) ?_
  refine e_push dX5_familyNumber_0 ?_
  exact e_iretI dX5_familyNumber_1 rfl hq (by decide) (by decide)
set_option maxRecDepth 100000 in
set_option maxHeartbeats 4000000 in
theorem c_X6_worthFor {b0 : Nat} {D : va_G} {dA : Nat → ClassId} {dm : Nat → Nat → Prop} {ad : Nat → Nat → Nat} {Q : PQ} {ct : Nat → Nat → va_E} {c : Nat} {ci : Nat} {vs : List Value} {l1 l2 l4 : Int32} {l3 : Int64} (h4 : dm 4 c) (e4 : ct 4 c = .inr (ci, .ref (ad 5 c) :: vs)) (hci : ci = 3 ∨ ci = 5 ∨ ci = 8) (h5 : dm 5 c) (e5 : ct 5 c = .inr (2, [.int l1, .int l2, .long l3, .int l4])) (v : Int32) (hq : Q (some (.int (v + l4))) dm ad ct) : Ct b0 D dA yX6_worthFor cX6_worthFor 2 (some .int) (Rm 0) [.ref (ad 4 c), .int v] dm ad ct Q := by
  refine ct_of (by decide) (Nat.le_of_ble_eq_true rfl) ?_
  refine e_iload dX6_worthFor_0 rfl ?_
  refine e_aload dX6_worthFor_1 rfl ?_
  refine x_get dX6_worthFor_2 (fg_X6_9 hci) rfl h4 e4 rfl ?_
  refine x_get dX6_worthFor_5 fg_X6_15 rfl h5 e5 rfl ?_
  refine e_iadd dX6_worthFor_8 ?_
  exact e_iretI dX6_worthFor_9 rfl hq (by decide) (by decide)
set_option maxRecDepth 100000 in
set_option maxHeartbeats 4000000 in
theorem c_X10_worthFor {b0 : Nat} {D : va_G} {dA : Nat → ClassId} {dm : Nat → Nat → Prop} {ad : Nat → Nat → Nat} {Q : PQ} {ct : Nat → Nat → va_E} {c : Nat} {ci : Nat} {vs : List Value} {l1 l2 l4 : Int32} {l3 : Int64} (h4 : dm 4 c) (e4 : ct 4 c = .inr (ci, .ref (ad 5 c) :: vs)) (hci : ci = 3 ∨ ci = 5 ∨ ci = 8) (h5 : dm 5 c) (e5 : ct 5 c = .inr (2, [.int l1, .int l2, .long l3, .int l4])) (v : Int32) (hq : Q (some (.int (2 * (v + l4)))) dm ad ct) : Ct b0 D dA yX10_worthFor cX10_worthFor 2 (some .int) (Rm 0) [.ref (ad 4 c), .int v] dm ad ct Q := by
  refine ct_of (by decide) (Nat.le_of_ble_eq_true rfl) ?_
  refine e_push dX10_worthFor_0 ?_
  refine e_iload dX10_worthFor_1 rfl ?_
  refine e_aload dX10_worthFor_2 rfl ?_
  refine x_get dX10_worthFor_3 (fg_X10_9 hci) rfl h4 e4 rfl ?_
  refine x_get dX10_worthFor_6 fg_X10_15 rfl h5 e5 rfl ?_
  refine e_iadd dX10_worthFor_9 ?_
  refine e_imul dX10_worthFor_10 ?_
  exact e_iretI dX10_worthFor_11 rfl hq (by decide) (by decide)
set_option maxRecDepth 100000 in
set_option maxHeartbeats 4000000 in
theorem c_X4_worthFor {b0 : Nat} {D : va_G} {dA : Nat → ClassId} {dm : Nat → Nat → Prop} {ad : Nat → Nat → Nat} {Q : PQ} {ct : Nat → Nat → va_E} {c : Nat} {ci : Nat} {vs : List Value} {l1 l2 l4 : Int32} {l3 : Int64} (h4 : dm 4 c) (e4 : ct 4 c = .inr (ci, .ref (ad 5 c) :: vs)) (hci : ci = 3) (h5 : dm 5 c) (e5 : ct 5 c = .inr (2, [.int l1, .int l2, .long l3, .int l4])) (v : Int32) (hq : Q (some (.int (2 * (v + l4) - 3))) dm ad ct) : Ct b0 D dA yX4_worthFor cX4_worthFor 2 (some .int) (Rm 1) [.ref (ad 4 c), .int v] dm ad ct Q := by
  subst hci
  refine ct_of (by decide) (Nat.le_of_ble_eq_true rfl) ?_
  refine e_aload dX4_worthFor_0 rfl ?_
  refine e_iload dX4_worthFor_1 rfl ?_
  refine n_callP1 dX4_worthFor_2 ca_X4_9 h4 e4 (c_X10_worthFor h4 e4 (Or.inl rfl) h5 e5 _ ?_) 
  refine e_push dX4_worthFor_5 ?_
  refine e_isub dX4_worthFor_6 ?_
  exact e_iretI dX4_worthFor_7 rfl hq (by decide) (by decide)
