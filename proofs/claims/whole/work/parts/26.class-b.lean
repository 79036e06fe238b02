set_option maxRecDepth 100000 in
set_option maxHeartbeats 4000000 in
theorem c_X11_constantAt {b0 : Nat} {D : va_G} {dA : Nat → ClassId} {ad : Nat → Nat → Nat} {Q : PQ} {Sm S : St} {f τ : Nat} (c : Int32) (hC : S.1 0 = nI (nC S)) (hC6 : nC S ≤ 60) (hq : Q (some (va_rf (if isC S c = true then some (ad 4 (tN c)) else none))) (dmW S τ) ad (cw dA ad Sm S f)) : Ct b0 D dA yX11_constantAt cX11_constantAt 2 (some (.object "ConstantKinds$Constant")) (Rm 1) [.ref (ad 0 0), .int c] (dmW S τ) ad (cw dA ad Sm S f) Q := by
  refine ct_of (by decide) (Nat.le_of_ble_eq_true rfl) ?_
  refine e_iload dX11_constantAt_0 rfl ?_
  refine e_push dX11_constantAt_1 ?_
  refine e_aload dX11_constantAt_2 rfl ?_
  refine x_get dX11_constantAt_3 fg_X11_15 rfl (show dmW S τ 0 0 from rfl) cw_0 rfl ?_
  refine e_push dX11_constantAt_6 ?_
  refine e_isub dX11_constantAt_7 ?_
  refine n_callS3 dX11_constantAt_8 ca_X11_78  (c_X11_isIn _ _ _ ?_) 
  refine e_if_eqB dX11_constantAt_11 (fun h11 => ?_) (fun h11 => ?_)
  · refine e_null dX11_constantAt_23 ?_
    exact e_aret dX11_constantAt_24 rfl (qa hq (by first | (rw [if_neg (show ¬ isC S c = true from fun z => by rw [isC, h11] at z; cases z)]; rfl) | (rw [if_pos (show isC S (nI c) = true from h11), tN_n (by omega)]))) (by decide) (by decide)
  · have h11b := h11
    rw [hC] at h11b
    obtain ⟨c, hc, rfl⟩ := inB_n (by omega) h11b
    refine e_aload dX11_constantAt_14 rfl ?_
    refine x_get dX11_constantAt_15 fg_X11_11 rfl (show dmW S τ 0 0 from rfl) cw_0 rfl ?_
    refine e_iload dX11_constantAt_18 rfl ?_
    refine x_ald (c) dX11_constantAt_19 rfl (show dmW S τ 1 0 by rw [dmW_1]; decide) rfl rfl rfl (by omega) (by first | decide | omega) (show coF ad S c = some (ad 4 c) from if_pos hc) ?_
    refine e_goto dX11_constantAt_20 ?_
    exact e_aret dX11_constantAt_24 rfl (qa hq (by first | (rw [if_neg (show ¬ isC S c = true from fun z => by rw [isC, h11] at z; cases z)]; rfl) | (rw [if_pos (show isC S (nI c) = true from h11), tN_n (by omega)]))) (by decide) (by decide)
set_option maxRecDepth 100000 in
set_option maxHeartbeats 4000000 in
theorem c_X11_buildAt {b0 : Nat} {D : va_G} {dA : Nat → ClassId} {ad : Nat → Nat → Nat} {Q : PQ} {Sm S : St} {f τ : Nat} (kind bd : Int32) (hq : Q (some (va_rf (if (inB kind 0 5 && inB bd 0 2) = true then some (ad 2 (3 * tN kind + tN bd)) else none))) (dmW S τ) ad (cw dA ad Sm S f)) : Ct b0 D dA yX11_buildAt cX11_buildAt 3 (some (.object "ConstantKinds$Build")) (Rm 1) [.ref (ad 0 0), .int kind, .int bd] (dmW S τ) ad (cw dA ad Sm S f) Q := by
  refine ct_of (by decide) (Nat.le_of_ble_eq_true rfl) ?_
  refine e_iload dX11_buildAt_0 rfl ?_
  refine e_push dX11_buildAt_1 ?_
  refine e_push dX11_buildAt_2 ?_
  refine n_callS3 dX11_buildAt_3 ca_X11_78  (c_X11_isIn _ _ _ ?_) 
  refine e_if_eqB dX11_buildAt_6 (fun h6 => ?_) (fun h6 => ?_)
  · refine e_null dX11_buildAt_18 ?_
    exact e_aret dX11_buildAt_19 rfl (qa hq (by first | (rw [h6]; rfl) | (rw [h15, Bool.and_false]; rfl))) (by decide) (by decide)
  · obtain ⟨kind, k1, k2, rfl⟩ := inB_l (a := 0) (b := 5) rfl rfl (by decide) (by decide) h6
    refine e_iload dX11_buildAt_9 rfl ?_
    refine e_push dX11_buildAt_10 ?_
    refine e_push dX11_buildAt_11 ?_
    refine n_callS3 dX11_buildAt_12 ca_X11_78  (c_X11_isIn _ _ _ ?_) 
    refine e_if_neB dX11_buildAt_15 (fun h15 => ?_) (fun h15 => ?_)
    · obtain ⟨bd, b1, b2, rfl⟩ := inB_l (a := 0) (b := 2) rfl rfl (by decide) (by decide) h15
      refine e_aload dX11_buildAt_20 rfl ?_
      refine x_get dX11_buildAt_21 fg_X11_21 rfl (show dmW S τ 0 0 from rfl) cw_0 rfl ?_
      refine e_iload dX11_buildAt_24 rfl ?_
      refine e_push dX11_buildAt_25 ?_
      refine e_imul dX11_buildAt_26 ?_
      refine e_iload dX11_buildAt_27 rfl ?_
      refine e_iadd dX11_buildAt_28 ?_
      refine x_ald (3 * kind + bd) dX11_buildAt_29 rfl (show dmW S τ 1 2 by rw [dmW_1]; decide) rfl rfl (show _ = nI (3 * kind + bd) by rw [Nat.mul_comm 3 kind]; simp only [li_3, pk_mul, nI_add]) (by omega) (by first | decide | omega) rfl ?_
      exact e_aret dX11_buildAt_30 rfl (qa hq (by rw [h6, h15, tN_n (by omega), tN_n (by omega)]; rfl)) (by decide) (by decide)
    · refine e_null dX11_buildAt_18 ?_
      exact e_aret dX11_buildAt_19 rfl (qa hq (by first | (rw [h6]; rfl) | (rw [h15, Bool.and_false]; rfl))) (by decide) (by decide)
set_option maxRecDepth 100000 in
set_option maxHeartbeats 4000000 in
theorem c_X11_thingAt {b0 : Nat} {D : va_G} {dA : Nat → ClassId} {ad : Nat → Nat → Nat} {Q : PQ} {Sm S : St} {f τ : Nat} (p : Int32) (hq : Q (some (va_rf (if inB p 0 9 = true then tr ad (S.2.1 15 (tN p)) else none))) (dmW S τ) ad (cw dA ad Sm S f)) : Ct b0 D dA yX11_thingAt cX11_thingAt 2 (some (.object "ConstantKinds$Thing")) (Rm 2) [.ref (ad 0 0), .int p] (dmW S τ) ad (cw dA ad Sm S f) Q := by
  refine ct_of (by decide) (Nat.le_of_ble_eq_true rfl) ?_
  refine e_iload dX11_thingAt_0 rfl ?_
  refine n_callS1 dX11_thingAt_1 ca_X11_162  (c_X11_isPlace _ ?_) 
  refine e_if_eqB dX11_thingAt_4 (fun h4 => ?_) (fun h4 => ?_)
  · refine e_null dX11_thingAt_16 ?_
    exact e_aret dX11_thingAt_17 rfl (qa hq (by first | (rw [if_neg (by rw [h4]; decide)]; rfl) | (rw [if_pos h4, tN_n (by omega)]))) (by decide) (by decide)
  · obtain ⟨p, p1, p2, rfl⟩ := inB_l (a := 0) (b := 9) rfl rfl (by decide) (by decide) h4
    refine e_aload dX11_thingAt_7 rfl ?_
    refine x_get dX11_thingAt_8 fg_X11_37 rfl (show dmW S τ 0 0 from rfl) cw_0 rfl ?_
    refine e_iload dX11_thingAt_11 rfl ?_
    refine x_ald (p) dX11_thingAt_12 rfl (show dmW S τ 1 6 by rw [dmW_1]; decide) rfl rfl rfl (by omega) (by first | decide | omega) (pl_t (by omega)) ?_
    refine e_goto dX11_thingAt_13 ?_
    exact e_aret dX11_thingAt_17 rfl (qa hq (by first | (rw [if_neg (by rw [h4]; decide)]; rfl) | (rw [if_pos h4, tN_n (by omega)]))) (by decide) (by decide)
set_option maxRecDepth 100000 in
set_option maxHeartbeats 4000000 in
theorem c_X11_shapeAt {b0 : Nat} {D : va_G} {dA : Nat → ClassId} {ad : Nat → Nat → Nat} {Q : PQ} {Sm S : St} {f τ : Nat} (s : Int32) (hq : Q (some (va_rf (if inB s 0 5 = true then some (ad 11 (tN s)) else none))) (dmW S τ) ad (cw dA ad Sm S f)) : Ct b0 D dA yX11_shapeAt cX11_shapeAt 2 (some (.object "ConstantKinds$Shape")) (Rm 1) [.ref (ad 0 0), .int s] (dmW S τ) ad (cw dA ad Sm S f) Q := by
  refine ct_of (by decide) (Nat.le_of_ble_eq_true rfl) ?_
  refine e_iload dX11_shapeAt_0 rfl ?_
  refine e_push dX11_shapeAt_1 ?_
  refine e_push dX11_shapeAt_2 ?_
  refine n_callS3 dX11_shapeAt_3 ca_X11_78  (c_X11_isIn _ _ _ ?_) 
  refine e_if_eqB dX11_shapeAt_6 (fun h6 => ?_) (fun h6 => ?_)
  · refine e_null dX11_shapeAt_18 ?_
    exact e_aret dX11_shapeAt_19 rfl (qa hq (by first | (rw [if_neg (by rw [h6]; decide)]; rfl) | (rw [if_pos h6, tN_n (by omega)]))) (by decide) (by decide)
  · obtain ⟨s, s1, s2, rfl⟩ := inB_l (a := 0) (b := 5) rfl rfl (by decide) (by decide) h6
    refine e_aload dX11_shapeAt_9 rfl ?_
    refine x_get dX11_shapeAt_10 fg_X11_43 rfl (show dmW S τ 0 0 from rfl) cw_0 rfl ?_
    refine e_iload dX11_shapeAt_13 rfl ?_
    refine x_ald (s) dX11_shapeAt_14 rfl (show dmW S τ 1 7 by rw [dmW_1]; decide) rfl rfl rfl (by omega) (by first | decide | omega) rfl ?_
    refine e_goto dX11_shapeAt_15 ?_
    exact e_aret dX11_shapeAt_19 rfl (qa hq (by first | (rw [if_neg (by rw [h6]; decide)]; rfl) | (rw [if_pos h6, tN_n (by omega)]))) (by decide) (by decide)
set_option maxRecDepth 100000 in
set_option maxHeartbeats 4000000 in
theorem c_X11_use {b0 : Nat} {D : va_G} {dA : Nat → ClassId} {ad : Nat → Nat → Nat} {Q : PQ} {Sm S : St} {f τ : Nat} {c : Nat} (hc : c < nC S) (hk : S.2.1 1 c = nI (kN S c)) (hk6 : kN S c < 6) (hq : Q none (dmW (stS S c) τ) ad (cw dA ad Sm (stS S c) f)) : Ct b0 D dA yX11_use cX11_use 2 none (Rm 0) [.ref (ad 0 0), .ref (ad 4 c)] (dmW S τ) ad (cw dA ad Sm S f) Q := by
  refine ct_of (by decide) (Nat.le_of_ble_eq_true rfl) ?_
  refine e_aload dX11_use_0 rfl ?_
  refine x_get dX11_use_1 fg_X11_25 rfl (show dmW S τ 0 0 from rfl) cw_0 rfl ?_
  refine e_aload dX11_use_4 rfl ?_
  refine x_get dX11_use_5 (fg_X11_98 (cb_or _)) rfl (show dmW S τ 4 c from hc) cw_4 rfl ?_
  refine x_get dX11_use_8 fg_X11_109 rfl (show dmW S τ 5 c from hc) cw_5 rfl ?_
  refine e_topi hk ?_
  refine x_ild (kN S c) dX11_use_11 rfl (show dmW S τ 1 3 by rw [dmW_1]; decide) rfl rfl (by omega) (by omega) ?_
  refine e_push dX11_use_12 ?_
  refine e_icmp_ne dX11_use_14 (fun h14 => ?_) (fun h14 => ?_)
  · have hz : stS S c = S := by unfold stS; rw [if_neg h14]; exact Prod.ext rfl (Prod.ext (u2_id _) rfl)
    exact e_vret dX11_use_33 rfl (by rw [hz] at hq; exact hq) (by decide) (by decide)
  · have hz : stS S c = (S.1, u2 S.2.1 27 (kN S c) (S.1 28), S.2.2) := by unfold stS; rw [if_pos h14]
    refine e_aload dX11_use_17 rfl ?_
    refine x_get dX11_use_18 fg_X11_25 rfl (show dmW S τ 0 0 from rfl) cw_0 rfl ?_
    refine e_aload dX11_use_21 rfl ?_
    refine x_get dX11_use_22 (fg_X11_98 (cb_or _)) rfl (show dmW S τ 4 c from hc) cw_4 rfl ?_
    refine x_get dX11_use_25 fg_X11_109 rfl (show dmW S τ 5 c from hc) cw_5 rfl ?_
    refine e_topi hk ?_
    refine e_aload dX11_use_28 rfl ?_
    refine x_get dX11_use_29 fg_X11_29 rfl (show dmW S τ 0 0 from rfl) cw_0 rfl ?_
    refine w_ist3 (kN S c) dX11_use_32 rfl hk6 ?_
    exact e_vret dX11_use_33 rfl (by rw [hz] at hq; exact hq) (by decide) (by decide)
set_option maxRecDepth 100000 in
set_option maxHeartbeats 4000000 in
theorem c_X11_unsignedRemainder {b0 : Nat} {D : va_G} {dA : Nat → ClassId} {ad : Nat → Nat → Nat} {Q : PQ} {Sm S : St} {f τ : Nat} (z : Int64) {n : Nat} (h0 : 0 < n) (hn : n < 2 ^ 31) (hq : Q (some (.int (mdl z (nI n)))) (dmW S τ) ad (cw dA ad Sm S f)) : Ct b0 D dA yX11_unsignedRemainder cX11_unsignedRemainder 5 (some .int) (Rm 0) [.long z, .int (nI n)] (dmW S τ) ad (cw dA ad Sm S f) Q := by
  refine ct_of (by decide) (Nat.le_of_ble_eq_true rfl) ?_
  refine e_iload dX11_unsignedRemainder_0 rfl ?_
  refine e_if_gt dX11_unsignedRemainder_1 (fun h1 => ?_) (fun h1 => ?_)
  · refine e_lload dX11_unsignedRemainder_6 rfl ?_
    refine e_push dX11_unsignedRemainder_7 ?_
    refine e_lushr dX11_unsignedRemainder_8 ?_
    refine e_iload dX11_unsignedRemainder_9 rfl ?_
    refine e_i2l dX11_unsignedRemainder_10 ?_
    refine e_lrem dX11_unsignedRemainder_11 (n64 h0 hn) ?_
    refine e_lstore dX11_unsignedRemainder_12 ?_
    refine e_ldc2 dX11_unsignedRemainder_13 kw_X11_266 ?_
    refine e_lload dX11_unsignedRemainder_16 rfl ?_
    refine e_lmul dX11_unsignedRemainder_17 ?_
    refine e_lload dX11_unsignedRemainder_18 rfl ?_
    refine e_lconst dX11_unsignedRemainder_19 rfl ?_
    refine e_land dX11_unsignedRemainder_20 ?_
    refine e_ladd dX11_unsignedRemainder_21 ?_
    refine e_iload dX11_unsignedRemainder_22 rfl ?_
    refine e_i2l dX11_unsignedRemainder_23 ?_
    refine e_lrem dX11_unsignedRemainder_24 (n64 h0 hn) ?_
    refine e_l2i dX11_unsignedRemainder_25 ?_
    exact e_iretI dX11_unsignedRemainder_26 rfl (qi hq (by unfold mdl lrm usr; rw [Int64.mul_comm 2]; rfl)) (by decide) (by decide)
  · exact absurd (show 0 < nI n from (nI_ltI (a := 0) (by decide) hn).mpr h0) h1
set_option maxRecDepth 100000 in
set_option maxHeartbeats 4000000 in
theorem l_X11_kindsStarted {b0 : Nat} {D : va_G} {dA : Nat → ClassId} {ad : Nat → Nat → Nat} {Q : PQ} {Sm S : St} {f τ : Nat} (hq : Q (some (.int (nI (cnt (stP S) 6)))) (dmW S τ) ad (cw dA ad Sm S f)) : ∀ k i, i + k = 6 → E b0 D dA yX11_kindsStarted cX11_kindsStarted 3 (some .int) (Rm 0) E0 (QFm b0 D dA (Rm 0) Q) 4 (lfA [some (.ref (ad 0 0)), some (.int (nI (cnt (stP S) i))), some (.int (nI i))]) [] (dmW S τ) ad (cw dA ad Sm S f) 0 0 := by
  intro k
  induction k with
  | zero =>
    intro i hi
    refine e_iload dX11_kindsStarted_4 rfl ?_
    refine e_push dX11_kindsStarted_5 ?_
    refine e_icmp_ge dX11_kindsStarted_7 (fun h7 => ?_) (fun h7 => ?_)
    · have e6 : i = 6 := by omega
      subst e6
      refine e_iload dX11_kindsStarted_30 rfl ?_
      exact e_iretI dX11_kindsStarted_31 rfl hq (by decide) (by decide)
    · exact absurd (show (6 : Int32) ≤ nI i by rw [show i = 6 by omega]; decide) h7
  | succ k ih =>
    intro i hi
    refine e_iload dX11_kindsStarted_4 rfl ?_
    refine e_push dX11_kindsStarted_5 ?_
    refine e_icmp_ge dX11_kindsStarted_7 (fun h7 => ?_) (fun h7 => ?_)
    · exact absurd h7 (by show ¬ nI 6 ≤ nI i; exact nI_ge (by omega) (by decide))
    · refine e_aload dX11_kindsStarted_10 rfl ?_
      refine x_get dX11_kindsStarted_11 fg_X11_25 rfl (show dmW S τ 0 0 from rfl) cw_0 rfl ?_
      refine e_iload dX11_kindsStarted_14 rfl ?_
      refine x_ild (i) dX11_kindsStarted_15 rfl (show dmW S τ 1 3 by rw [dmW_1]; decide) rfl rfl (by omega) (by omega) ?_
      refine e_push dX11_kindsStarted_16 ?_
      refine e_icmp_eq dX11_kindsStarted_18 (fun h18 => ?_) (fun h18 => ?_)
      · have hc : cnt (stP S) (i + 1) = cnt (stP S) i := cnt_f (by simp [stP, h18])
        have hcc := congrArg (fun z => some (Value.int (nI z))) hc.symm
        refine e_iinc dX11_kindsStarted_24 rfl (inc1 i) ?_
        refine e_goto dX11_kindsStarted_27 ?_
        exact e_lvA (ih (i + 1) (by omega)) ⟨rfl, hcc, rfl, trivial⟩
      · have hc : cnt (stP S) (i + 1) = cnt (stP S) i + 1 := cnt_t (by simp [stP, h18])
        have hcc := congrArg (fun z => some (Value.int (nI z))) hc.symm
        refine e_iinc dX11_kindsStarted_21 rfl (inc1 _) ?_
        refine e_iinc dX11_kindsStarted_24 rfl (inc1 i) ?_
        refine e_goto dX11_kindsStarted_27 ?_
        exact e_lvA (ih (i + 1) (by omega)) ⟨rfl, hcc, rfl, trivial⟩
set_option maxRecDepth 100000 in
set_option maxHeartbeats 4000000 in
theorem c_X11_kindsStarted {b0 : Nat} {D : va_G} {dA : Nat → ClassId} {ad : Nat → Nat → Nat} {Q : PQ} {Sm S : St} {f τ : Nat} (hq : Q (some (.int (nI (cnt (stP S) 6)))) (dmW S τ) ad (cw dA ad Sm S f)) : Ct b0 D dA yX11_kindsStarted cX11_kindsStarted 3 (some .int) (Rm 0) [.ref (ad 0 0)] (dmW S τ) ad (cw dA ad Sm S f) Q := by
  refine ct_of (by decide) (Nat.le_of_ble_eq_true rfl) ?_
  refine e_push dX11_kindsStarted_0 ?_
  refine e_istore dX11_kindsStarted_1 ?_
  refine e_push dX11_kindsStarted_2 ?_
  refine e_istore dX11_kindsStarted_3 ?_
  exact e_lvA (l_X11_kindsStarted hq 6 0 (by omega)) ⟨rfl, rfl, rfl, trivial⟩
set_option maxRecDepth 100000 in
set_option maxHeartbeats 4000000 in
theorem l_X11_placesInUse {b0 : Nat} {D : va_G} {dA : Nat → ClassId} {ad : Nat → Nat → Nat} {Q : PQ} {Sm S : St} {f τ : Nat} (hq : Q (some (.int (nI (cnt (heP S) 10)))) (dmW S τ) ad (cw dA ad Sm S f)) : ∀ k i, i + k = 10 → E b0 D dA yX11_placesInUse cX11_placesInUse 3 (some .int) (Rm 0) E0 (QFm b0 D dA (Rm 0) Q) 4 (lfA [some (.ref (ad 0 0)), some (.int (nI (cnt (heP S) i))), some (.int (nI i))]) [] (dmW S τ) ad (cw dA ad Sm S f) 0 0 := by
  intro k
  induction k with
  | zero =>
    intro i hi
    refine e_iload dX11_placesInUse_4 rfl ?_
    refine e_push dX11_placesInUse_5 ?_
    refine e_icmp_ge dX11_placesInUse_7 (fun h7 => ?_) (fun h7 => ?_)
    · have e6 : i = 10 := by omega
      subst e6
      refine e_iload dX11_placesInUse_28 rfl ?_
      exact e_iretI dX11_placesInUse_29 rfl hq (by decide) (by decide)
    · exact absurd (show (10 : Int32) ≤ nI i by rw [show i = 10 by omega]; decide) h7
  | succ k ih =>
    intro i hi
    refine e_iload dX11_placesInUse_4 rfl ?_
    refine e_push dX11_placesInUse_5 ?_
    refine e_icmp_ge dX11_placesInUse_7 (fun h7 => ?_) (fun h7 => ?_)
    · exact absurd h7 (by show ¬ nI 10 ≤ nI i; exact nI_ge (by omega) (by decide))
    · refine e_aload dX11_placesInUse_10 rfl ?_
      refine x_get dX11_placesInUse_11 fg_X11_37 rfl (show dmW S τ 0 0 from rfl) cw_0 rfl ?_
      refine e_iload dX11_placesInUse_14 rfl ?_
      refine x_ald (i) dX11_placesInUse_15 rfl (show dmW S τ 1 6 by rw [dmW_1]; decide) rfl rfl rfl (by omega) (by first | decide | omega) (pl_t (by omega)) ?_
      refine e_ifnull dX11_placesInUse_16 (fun h16 => ?_) (fun a16 h16 => ?_)
      · have hc : cnt (heP S) (i + 1) = cnt (heP S) i := cnt_f (by simp [heP, tr_n h16])
        have hcc := congrArg (fun z => some (Value.int (nI z))) hc.symm
        refine e_iinc dX11_placesInUse_22 rfl (inc1 i) ?_
        refine e_goto dX11_placesInUse_25 ?_
        exact e_lvA (ih (i + 1) (by omega)) ⟨rfl, hcc, rfl, trivial⟩
      · have hc : cnt (heP S) (i + 1) = cnt (heP S) i + 1 := cnt_t (by simp [heP, tr_s h16])
        have hcc := congrArg (fun z => some (Value.int (nI z))) hc.symm
        refine e_iinc dX11_placesInUse_19 rfl (inc1 _) ?_
        refine e_iinc dX11_placesInUse_22 rfl (inc1 i) ?_
        refine e_goto dX11_placesInUse_25 ?_
        exact e_lvA (ih (i + 1) (by omega)) ⟨rfl, hcc, rfl, trivial⟩
set_option maxRecDepth 100000 in
set_option maxHeartbeats 4000000 in
theorem c_X11_placesInUse {b0 : Nat} {D : va_G} {dA : Nat → ClassId} {ad : Nat → Nat → Nat} {Q : PQ} {Sm S : St} {f τ : Nat} (hq : Q (some (.int (nI (cnt (heP S) 10)))) (dmW S τ) ad (cw dA ad Sm S f)) : Ct b0 D dA yX11_placesInUse cX11_placesInUse 3 (some .int) (Rm 0) [.ref (ad 0 0)] (dmW S τ) ad (cw dA ad Sm S f) Q := by
  refine ct_of (by decide) (Nat.le_of_ble_eq_true rfl) ?_
  refine e_push dX11_placesInUse_0 ?_
  refine e_istore dX11_placesInUse_1 ?_
  refine e_push dX11_placesInUse_2 ?_
  refine e_istore dX11_placesInUse_3 ?_
  exact e_lvA (l_X11_placesInUse hq 10 0 (by omega)) ⟨rfl, rfl, rfl, trivial⟩
set_option maxRecDepth 100000 in
set_option maxHeartbeats 4000000 in
theorem l_X11_isName {b0 : Nat} {D : va_G} {dA : Nat → ClassId} {dm : Nat → Nat → Prop} {ad : Nat → Nat → Nat} {Q : PQ} {ct : Nat → Nat → va_E} {name : Int64} : ∀ k i en, i + k = 8 → Q (some (.int (bI (clL name k i en)))) dm ad ct → E b0 D dA yX11_isName cX11_isName 5 (some .boolean) (Rm 1) E0 (QFm b0 D dA (Rm 1) Q) 4 (lfA [some (.long name), none, some (.int (bI en)), some (.int (nI i))]) [] dm ad ct 0 0 := by
  intro k
  induction k with
  | zero =>
    intro i en hi hq
    refine e_iload dX11_isName_4 rfl ?_
    refine e_push dX11_isName_5 ?_
    refine e_icmp_ge dX11_isName_7 (fun h7 => ?_) (fun h7 => ?_)
    · refine e_lload dX11_isName_57 rfl ?_
      refine e_lconst dX11_isName_58 rfl ?_
      refine e_lcmp dX11_isName_59 ?_
      refine e_if_eq dX11_isName_60 (fun h60 => ?_) (fun h60 => ?_)
      · have h60 : name = 0 := lcmp_eq h60
        refine e_push dX11_isName_67 ?_
        exact e_iret dX11_isName_68 rfl (by first | rfl | exact bI_n _) (qi hq (by unfold clL; first | (rw [decide_eq_true h60]; rfl) | (rw [decide_eq_false h60]; rfl))) (by decide) (by decide)
      · have h60 : ¬ name = 0 := lcmp_ne h60
        refine e_push dX11_isName_63 ?_
        refine e_goto dX11_isName_64 ?_
        exact e_iret dX11_isName_68 rfl (by first | rfl | exact bI_n _) (qi hq (by unfold clL; first | (rw [decide_eq_true h60]; rfl) | (rw [decide_eq_false h60]; rfl))) (by decide) (by decide)
    · exact absurd (show (8 : Int32) ≤ nI i by rw [show i = 8 by omega]; decide) h7
  | succ k ih =>
    intro i en hi hq
    refine e_iload dX11_isName_4 rfl ?_
    refine e_push dX11_isName_5 ?_
    refine e_icmp_ge dX11_isName_7 (fun h7 => ?_) (fun h7 => ?_)
    · exact absurd h7 (by show ¬ nI 8 ≤ nI i; exact nI_ge (by omega) (by decide))
    · obtain ⟨ch, hch⟩ : ∃ ch, chN name i = ch := ⟨_, rfl⟩
      rw [clL, hch] at hq
      refine e_lload dX11_isName_10 rfl ?_
      refine e_push dX11_isName_11 ?_
      refine e_iload dX11_isName_13 rfl ?_
      refine e_imul dX11_isName_14 ?_
      refine e_lushr dX11_isName_15 ?_
      refine e_l2i dX11_isName_16 ?_
      refine e_push dX11_isName_17 ?_
      refine e_iand dX11_isName_20 ?_
      refine e_topi (show _ = ch from hch) ?_
      refine e_istore dX11_isName_21 ?_
      refine e_iload dX11_isName_23 rfl ?_
      refine e_if_ne dX11_isName_25 (fun h25 => ?_) (fun h25 => ?_)
      · rw [if_neg h25] at hq
        refine e_iload dX11_isName_33 rfl ?_
        refine e_if_neB dX11_isName_34 (fun h34 => ?_) (fun h34 => ?_)
        · rw [if_pos h34] at hq
          refine e_push dX11_isName_49 ?_
          exact e_iret dX11_isName_50 rfl (by first | rfl | exact bI_n _) hq (by decide) (by decide)
        · rw [if_neg (by rw [h34]; decide)] at hq
          subst h34
          refine e_iload dX11_isName_37 rfl ?_
          refine e_push dX11_isName_39 ?_
          refine e_push dX11_isName_41 ?_
          refine n_callS3 dX11_isName_43 ca_X11_78  (c_X11_isIn _ _ _ ?_) 
          refine e_if_neB dX11_isName_46 (fun h46 => ?_) (fun h46 => ?_)
          · rw [if_pos h46] at hq
            refine e_iinc dX11_isName_51 rfl (inc1 i) ?_
            refine e_goto dX11_isName_54 ?_
            exact e_lvA (ih (i + 1) _ (by omega) hq) ⟨rfl, rfl, rfl, trivial⟩
          · rw [if_neg (by rw [h46]; decide)] at hq
            refine e_push dX11_isName_49 ?_
            exact e_iret dX11_isName_50 rfl (by first | rfl | exact bI_n _) hq (by decide) (by decide)
      · rw [if_pos h25] at hq
        refine e_push dX11_isName_28 ?_
        refine e_istore dX11_isName_29 ?_
        refine e_goto dX11_isName_30 ?_
        refine e_iinc dX11_isName_51 rfl (inc1 i) ?_
        refine e_goto dX11_isName_54 ?_
        exact e_lvA (ih (i + 1) _ (by omega) hq) ⟨rfl, rfl, rfl, trivial⟩
set_option maxRecDepth 100000 in
set_option maxHeartbeats 4000000 in
theorem c_X11_isName {b0 : Nat} {D : va_G} {dA : Nat → ClassId} {dm : Nat → Nat → Prop} {ad : Nat → Nat → Nat} {Q : PQ} {ct : Nat → Nat → va_E} (name : Int64) (hq : Q (some (.int (bI (clL name 8 0 false)))) dm ad ct) : Ct b0 D dA yX11_isName cX11_isName 5 (some .boolean) (Rm 1) [.long name] dm ad ct Q := by
  refine ct_of (by decide) (Nat.le_of_ble_eq_true rfl) ?_
  refine e_push dX11_isName_0 ?_
  refine e_istore dX11_isName_1 ?_
  refine e_push dX11_isName_2 ?_
  refine e_istore dX11_isName_3 ?_
  exact e_lvA (l_X11_isName 8 0 false (by omega) hq) ⟨rfl, rfl, rfl, trivial⟩
