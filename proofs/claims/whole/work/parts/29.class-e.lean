set_option maxRecDepth 100000 in
set_option maxHeartbeats 4000000 in
theorem c_X11_kind {b0 : Nat} {D : va_G} {dA : Nat → ClassId} {ad : Nat → Nat → Nat} {Q : PQ} {Sm S : St} {f τ : Nat} {t : Nat} (I : Inv S t) (kind bd i : Int32) (hq : Q (some (.int (F_kind S kind bd i))) (dmW S τ) ad (cw dA ad Sm S f)) : Ct b0 D dA yX11_kind cX11_kind 6 (some .int) (Rm 2) [.ref (ad 0 0), .int kind, .int bd, .int i] (dmW S τ) ad (cw dA ad Sm S f) Q := by
  refine ct_of (by decide) (Nat.le_of_ble_eq_true rfl) ?_
  refine e_aload dX11_kind_0 rfl ?_
  refine e_iload dX11_kind_1 rfl ?_
  refine e_iload dX11_kind_2 rfl ?_
  refine n_callV2 dX11_kind_3 ca_X11_66 (show dmW S τ 0 0 from rfl) cw_0 (c2_X11_buildAt _ _ (fun hb0 => ?_) (fun kd bd hkd hbd ek eb hk5 hb2 => ?_))
  · skip
    refine e_astore dX11_kind_6 ?_
    refine e_aload dX11_kind_8 rfl ?_
    refine e_ifnonnull_0 dX11_kind_10 ?_
    refine e_push dX11_kind_13 ?_
    exact e_iretI dX11_kind_14 rfl (qi hq (by rw [F_kind, if_neg (by rw [hb0]; decide)])) (by decide) (by decide)
  · subst ek
    subst eb
    have h60 := I.1.2.1
    have tk : tN (nI kd) = kd := tN_n (by omega)
    have tb : tN (nI bd) = bd := tN_n (by omega)
    have hb : 3 * kd + bd < 18 := by omega
    obtain ⟨hm, hmC, hbi, hbj⟩ := I.2.1 (3 * kd + bd) hb
    refine e_astore dX11_kind_6 ?_
    refine e_aload dX11_kind_8 rfl ?_
    refine e_ifnonnull_r dX11_kind_10 ?_
    refine e_iload dX11_kind_15 rfl ?_
    refine e_push dX11_kind_16 ?_
    refine e_icmp_ne dX11_kind_18 (fun h18 => ?_) (fun h18 => ?_)
    · refine e_aload dX11_kind_27 rfl ?_
      refine e_iload dX11_kind_29 rfl ?_
      refine n_callV1 dX11_kind_30 ca_X11_127 (show dmW S τ 2 (3 * kd + bd) from hb) cw_2 (c_X0_at _ (show dmW S τ 2 (3 * kd + bd) from hb) (cw_2.trans (by rw [hm])) (show dmW S τ 3 (3 * kd + bd) from hb) cw_3 (by omega) ?_)
      cases hin : inB i 0 (nI (mb S (3 * kd + bd)) - 1) with
      | false =>
        rw [if_neg (by decide)]
        refine e_astore dX11_kind_33 ?_
        refine e_aload dX11_kind_35 rfl ?_
        refine e_ifnonnull_0 dX11_kind_37 ?_
        refine e_push dX11_kind_40 ?_
        refine e_goto dX11_kind_41 ?_
        exact e_iretI dX11_kind_52 rfl (qi hq (by rw [F_kind, if_pos (by rw [hk5, hb2]; rfl), if_neg h18, tk, tb, hm, if_neg (by rw [hin]; decide)])) (by decide) (by decide)
      | true =>
        obtain ⟨i, hi, rfl⟩ := inB_n (by omega) hin
        have hc := (hbi i hi).2.1
        rw [if_pos rfl, tN_n (by omega), ln_t hi]
        refine e_astore dX11_kind_33 ?_
        refine e_aload dX11_kind_35 rfl ?_
        refine e_ifnonnull_r dX11_kind_37 ?_
        refine e_aload dX11_kind_44 rfl ?_
        refine x_get dX11_kind_46 (fg_X11_98 (cb_or _)) rfl (show dmW S τ 4 (bc S (3 * kd + bd) i) from hc) cw_4 rfl ?_
        refine x_get dX11_kind_49 fg_X11_102 rfl (show dmW S τ 5 (bc S (3 * kd + bd) i) from hc) cw_5 rfl ?_
        exact e_iretI dX11_kind_52 rfl (qi hq (by rw [F_kind, if_pos (by rw [hk5, hb2]; rfl), if_neg h18, tk, tb, hm, if_pos hin, tN_n (by omega), (hbi i hi).1])) (by decide) (by decide)
    · refine e_aload dX11_kind_21 rfl ?_
      refine x_get dX11_kind_23 fg_X11_84 rfl (show dmW S τ 2 (3 * kd + bd) from hb) cw_2 rfl ?_
      exact e_iretI dX11_kind_26 rfl (qi hq (by rw [F_kind, if_pos (by rw [hk5, hb2]; rfl), if_pos h18, tk, tb])) (by decide) (by decide)
set_option maxRecDepth 100000 in
set_option maxHeartbeats 4000000 in
theorem or_eq {S : St} {t τ b c : Nat} {ad : Nat → Nat → Nat} (I : Inv S t) (hb : b < 18) (hc : c < nC S) (hinj : ∀ k i k' i', dmW S τ k i → dmW S τ k' i' → ad k i = ad k' i' → k = k' ∧ i = i') : fnd (fun i => decide (lnF ad S b i = some (ad 4 c))) (mb S b) 0 = fnd (orP S b (nI c)) (mb S b) 0 := by
  have h60 := I.1.2.1
  obtain ⟨hm, hmC, hbi, hbj⟩ := I.2.1 b hb
  refine fnd_cong (fun i hi => ?_)
  obtain ⟨e, hlt, -⟩ := hbi i (by omega)
  rw [ln_t (by omega)]
  unfold orP
  rw [e]
  by_cases h : bc S b i = c
  · rw [h]; simp
  · rw [decide_eq_false (fun z => h (hinj 4 _ 4 _ hlt hc (Option.some.inj z)).2), decide_eq_false (fun z => h ((nI_eq (by omega) (by omega)).mp z))]

set_option maxRecDepth 100000 in
set_option maxHeartbeats 4000000 in
theorem c_X11_order {b0 : Nat} {D : va_G} {dA : Nat → ClassId} {ad : Nat → Nat → Nat} {Q : PQ} {Sm S : St} {f τ : Nat} {t : Nat} (I : Inv S t) (c bd : Int32) (hq : Q (some (.int (F_order S c bd))) (dmW S τ) ad (cw dA ad Sm S f)) : Ct b0 D dA yX11_order cX11_order 5 (some .int) (Rm 2) [.ref (ad 0 0), .int c, .int bd] (dmW S τ) ad (cw dA ad Sm S f) Q := by
  refine ct_of (by decide) (Nat.le_of_ble_eq_true rfl) ?_
  refine e_aload dX11_order_0 rfl ?_
  refine e_iload dX11_order_1 rfl ?_
  refine n_callV1 dX11_order_2 ca_X11_105 (show dmW S τ 0 0 from rfl) cw_0 (c2_X11_constantAt _ I.1.1 I.1.2.1 (fun hc0 => ?_) (fun c hc ec hc1 => ?_))
  · skip
    refine e_astore dX11_order_5 ?_
    refine e_aload dX11_order_6 rfl ?_
    refine e_ifnonnull_0 dX11_order_7 ?_
    refine e_push dX11_order_10 ?_
    exact e_iretI dX11_order_11 rfl (qi hq (by simp [F_order, hc0])) (by decide) (by decide)
  · subst ec
    have h60 := I.1.2.1
    have tc : tN (nI c) = c := tN_n (by omega)
    obtain ⟨hk, hk6, hbo, hw, hw1⟩ := I.1.2.2.1 c hc
    refine e_astore dX11_order_5 ?_
    refine e_aload dX11_order_6 rfl ?_
    refine e_ifnonnull_r dX11_order_7 ?_
    refine e_aload dX11_order_12 rfl ?_
    refine e_aload dX11_order_13 rfl ?_
    refine x_get dX11_order_14 (fg_X11_98 (cb_or _)) rfl (show dmW S τ 4 c from hc) cw_4 rfl ?_
    refine x_get dX11_order_17 fg_X11_109 rfl (show dmW S τ 5 c from hc) cw_5 rfl ?_
    refine e_iload dX11_order_20 rfl ?_
    refine e_st (show _ = [.int bd, .int (nI (kN S c)), .ref (ad 0 0)] by rw [hk]) ?_
    refine n_callV2 dX11_order_21 ca_X11_66 (show dmW S τ 0 0 from rfl) cw_0 (c2_X11_buildAt _ _ (fun hb0 => ?_) (fun kd b hkd hbd ek eb hk5 hb2 => ?_))
    · have hk5 : inB (nI (kN S c)) 0 5 = true := inB_ln (a := 0) (b := 5) (by omega) (by omega) (by decide)
      rw [hk5, Bool.true_and] at hb0
      refine e_astore dX11_order_24 ?_
      refine e_aload dX11_order_26 rfl ?_
      refine e_ifnonnull_0 dX11_order_28 ?_
      refine e_push dX11_order_31 ?_
      refine e_goto dX11_order_32 ?_
      exact e_iretI dX11_order_41 rfl (qi hq (by first | (simp [F_order, hc1, hb0]; done) | (rw [or_eq I hb hc hinj, F_order, if_pos (by rw [hc1, hb2]; rfl), tc, tb, ekk]))) (by decide) (by decide)
    · subst eb
      have ekk : kN S c = kd := (nI_eq (by omega) (by omega)).mp ek
      have tb : tN (nI b) = b := tN_n (by omega)
      have hb : 3 * kd + b < 18 := by omega
      obtain ⟨hm, hmC, hbi, hbj⟩ := I.2.1 (3 * kd + b) hb
      refine e_astore dX11_order_24 ?_
      refine e_aload dX11_order_26 rfl ?_
      refine e_ifnonnull_r dX11_order_28 ?_
      refine e_aload dX11_order_35 rfl ?_
      refine e_aload dX11_order_37 rfl ?_
      refine e_inj (fun hinj => ?_)
      refine n_callV1 dX11_order_38 ca_X11_112 (show dmW S τ 2 (3 * kd + b) from hb) cw_2 (c_X0_orderOf (ad 4 c) (show dmW S τ 2 (3 * kd + b) from hb) (cw_2.trans (by rw [hm])) (show dmW S τ 3 (3 * kd + b) from hb) cw_3 (by omega) ?_) 
      exact e_iretI dX11_order_41 rfl (qi hq (by first | (simp [F_order, hc1, hb0]; done) | (rw [or_eq I hb hc hinj, F_order, if_pos (by rw [hc1, hb2]; rfl), tc, tb, ekk]))) (by decide) (by decide)
set_option maxRecDepth 100000 in
set_option maxHeartbeats 4000000 in
theorem c_X11_named {b0 : Nat} {D : va_G} {dA : Nat → ClassId} {ad : Nat → Nat → Nat} {Q : PQ} {Sm S : St} {f τ : Nat} {t : Nat} (I : Inv S t) (kind : Int32) (name : Int64) (hq : Q (some (.int (F_named S kind name))) (dmW S τ) ad (cw dA ad Sm S f)) : Ct b0 D dA yX11_named cX11_named 6 (some .int) (Rm 2) [.ref (ad 0 0), .int kind, .long name] (dmW S τ) ad (cw dA ad Sm S f) Q := by
  refine ct_of (by decide) (Nat.le_of_ble_eq_true rfl) ?_
  refine e_aload dX11_named_0 rfl ?_
  refine e_iload dX11_named_1 rfl ?_
  refine e_push dX11_named_2 ?_
  refine n_callV2 dX11_named_3 ca_X11_66 (show dmW S τ 0 0 from rfl) cw_0 (c2_X11_buildAt _ _ (fun hb0 => ?_) (fun kd bd hkd hbd ek eb hk5 hb2 => ?_))
  · rw [show inB (0 : Int32) 0 2 = true from by decide, Bool.and_true] at hb0
    refine e_astore dX11_named_6 ?_
    refine e_aload dX11_named_8 rfl ?_
    refine e_ifnonnull_0 dX11_named_10 ?_
    refine e_push dX11_named_13 ?_
    exact e_iretI dX11_named_14 rfl (qi hq (by simp [F_named, hb0])) (by decide) (by decide)
  · subst ek
    have e0 : bd = 0 := (nI_eq (b := 0) (by omega) (by decide)).mp eb.symm
    subst e0
    have h60 := I.1.2.1
    have hb : 3 * kd + 0 < 18 := by omega
    obtain ⟨hm, hmC, hbi, hbj⟩ := I.2.1 (3 * kd + 0) hb
    refine e_astore dX11_named_6 ?_
    refine e_aload dX11_named_8 rfl ?_
    refine e_ifnonnull_r dX11_named_10 ?_
    refine e_aload dX11_named_15 rfl ?_
    refine e_lload dX11_named_17 rfl ?_
    refine n_callV1 dX11_named_18 ca_X11_74 (show dmW S τ 2 (3 * kd + 0) from hb) cw_2 (c_X0_bearing _ (show dmW S τ 2 (3 * kd + 0) from hb) (cw_2.trans (by rw [hm])) (show dmW S τ 3 (3 * kd + 0) from hb) cw_3 (by omega) (g := bc S (3 * kd + 0)) (ci := fun c => cb (S.2.1 3 c)) (vs := fun c => [.int (S.2.1 4 c), .int (S.2.1 5 c)]) (ls := fun c => (nI c, S.2.1 1 c, S.2.2 c, fo S c)) (fun i hi => ⟨ln_t hi, (hbi i hi).2.1, cw_4, cb_or _, (hbi i hi).2.1, cw_5⟩) ?_)
    rcases by_name I (show kd < 6 by omega) name with ⟨j, c, hj, hc, e1, e2, e3⟩ | ⟨e1, e2⟩
    · rw [show (fnd (fun i => decide (S.2.2 (bc S (3 * kd + 0) i) = name)) (mb S (3 * kd + 0)) 0) = some j from e1, show (some j : Option Nat).bind (lnF ad S (3 * kd + 0)) = lnF ad S (3 * kd + 0) j from rfl, ln_t hj, show bc S (3 * kd + 0) j = c from e3]
      refine e_astore dX11_named_21 ?_
      refine e_aload dX11_named_23 rfl ?_
      refine e_ifnonnull_r dX11_named_25 ?_
      refine e_aload dX11_named_33 rfl ?_
      refine x_get dX11_named_35 (fg_X11_98 (cb_or _)) rfl (show dmW S τ 4 c from hc) cw_4 rfl ?_
      refine x_get dX11_named_38 fg_X11_102 rfl (show dmW S τ 5 c from hc) cw_5 rfl ?_
      exact e_iretI dX11_named_41 rfl (qi hq (by rw [F_named, if_pos hk5, e2]; rfl)) (by decide) (by decide)
    · rw [show (fnd (fun i => decide (S.2.2 (bc S (3 * kd + 0) i) = name)) (mb S (3 * kd + 0)) 0) = none from e1]
      refine e_astore dX11_named_21 ?_
      refine e_aload dX11_named_23 rfl ?_
      refine e_ifnonnull_0 dX11_named_25 ?_
      refine e_push dX11_named_28 ?_
      refine e_goto dX11_named_30 ?_
      exact e_iretI dX11_named_41 rfl (qi hq (by rw [F_named, if_pos hk5, e2]; rfl)) (by decide) (by decide)
set_option maxRecDepth 100000 in
set_option maxHeartbeats 4000000 in
theorem c_X11_weigh {b0 : Nat} {D : va_G} {dA : Nat → ClassId} {ad : Nat → Nat → Nat} {Q : PQ} {Sm S : St} {f τ : Nat} {t : Nat} (I : Inv S t) (c w : Int32) (hq : Q (some (.int (F_weigh S c w).1)) (dmW (F_weigh S c w).2 τ) ad (cw dA ad Sm (F_weigh S c w).2 f)) : Ct b0 D dA yX11_weigh cX11_weigh 5 (some .int) (Rm 2) [.ref (ad 0 0), .int c, .int w] (dmW S τ) ad (cw dA ad Sm S f) Q := by
  refine ct_of (by decide) (Nat.le_of_ble_eq_true rfl) ?_
  refine e_aload dX11_weigh_0 rfl ?_
  refine e_iload dX11_weigh_1 rfl ?_
  refine n_callV1 dX11_weigh_2 ca_X11_105 (show dmW S τ 0 0 from rfl) cw_0 (c2_X11_constantAt _ I.1.1 I.1.2.1 (fun hc0 => ?_) (fun c hc ec hc1 => ?_))
  · skip
    refine e_astore dX11_weigh_5 ?_
    refine e_aload dX11_weigh_6 rfl ?_
    refine e_ifnull_0 dX11_weigh_7 ?_
    refine e_push dX11_weigh_21 ?_
    exact e_iretI dX11_weigh_22 rfl (qx hq (by first | (simp [F_weigh, hc0]; done) | (simp [F_weigh, h18]; done))) (by decide) (by decide)
  · subst ec
    have h60 := I.1.2.1
    have tc : tN (nI c) = c := tN_n (by omega)
    obtain ⟨hk, hk6, hbo, hw, hw1⟩ := I.1.2.2.1 c hc
    refine e_astore dX11_weigh_5 ?_
    refine e_aload dX11_weigh_6 rfl ?_
    refine e_ifnull_r dX11_weigh_7 ?_
    refine e_iload dX11_weigh_10 rfl ?_
    refine e_push dX11_weigh_11 ?_
    refine e_push dX11_weigh_12 ?_
    refine n_callS3 dX11_weigh_15 ca_X11_78  (c_X11_isIn _ _ _ ?_) 
    refine e_if_neB dX11_weigh_18 (fun h18 => ?_) (fun h18 => ?_)
    · refine e_aload dX11_weigh_23 rfl ?_
      refine x_get dX11_weigh_24 (fg_X11_134 (cb_or _)) rfl (show dmW S τ 4 c from hc) cw_4 rfl ?_
      refine e_istore dX11_weigh_27 ?_
      refine e_aload dX11_weigh_29 rfl ?_
      refine e_iload dX11_weigh_30 rfl ?_
      refine w_wt dX11_weigh_31 (fun ci h => fp_X11_134 h) hc ?_
      refine e_iload dX11_weigh_34 rfl ?_
      exact e_iretI dX11_weigh_36 rfl (qx hq (by simp [F_weigh, hc1, h18, tc])) (by decide) (by decide)
    · refine e_push dX11_weigh_21 ?_
      exact e_iretI dX11_weigh_22 rfl (qx hq (by first | (simp [F_weigh, hc0]; done) | (simp [F_weigh, h18]; done))) (by decide) (by decide)
set_option maxRecDepth 100000 in
set_option maxHeartbeats 4000000 in
theorem c_X11_table {b0 : Nat} {D : va_G} {dA : Nat → ClassId} {ad : Nat → Nat → Nat} {Q : PQ} {Sm S : St} {f τ : Nat} {t : Nat} (I : Inv S t) (kind bd : Int32) (hq : Q (some (.int (F_table S kind bd))) (dmW S τ) ad (cw dA ad Sm S f)) : Ct b0 D dA yX11_table cX11_table 5 (some .int) (Rm 2) [.ref (ad 0 0), .int kind, .int bd] (dmW S τ) ad (cw dA ad Sm S f) Q := by
  refine ct_of (by decide) (Nat.le_of_ble_eq_true rfl) ?_
  refine e_aload dX11_table_0 rfl ?_
  refine e_iload dX11_table_1 rfl ?_
  refine e_iload dX11_table_2 rfl ?_
  refine n_callV2 dX11_table_3 ca_X11_66 (show dmW S τ 0 0 from rfl) cw_0 (c2_X11_buildAt _ _ (fun hb0 => ?_) (fun kd bd hkd hbd ek eb hk5 hb2 => ?_))
  · skip
    refine e_astore dX11_table_6 ?_
    refine e_aload dX11_table_7 rfl ?_
    refine e_ifnonnull_0 dX11_table_8 ?_
    refine e_push dX11_table_11 ?_
    exact e_iretI dX11_table_12 rfl (qi hq (by rw [F_table, if_neg (by rw [hb0]; decide)])) (by decide) (by decide)
  · subst ek
    subst eb
    have h60 := I.1.2.1
    have tk : tN (nI kd) = kd := tN_n (by omega)
    have tb : tN (nI bd) = bd := tN_n (by omega)
    have hb : 3 * kd + bd < 18 := by omega
    obtain ⟨hm, hmC, hbi, hbj⟩ := I.2.1 (3 * kd + bd) hb
    refine e_astore dX11_table_6 ?_
    refine e_aload dX11_table_7 rfl ?_
    refine e_ifnonnull_r dX11_table_8 ?_
    refine e_aload dX11_table_13 rfl ?_
    refine x_get dX11_table_14 fg_X11_84 rfl (show dmW S τ 2 (3 * kd + bd) from hb) cw_2 rfl ?_
    refine e_if_ne dX11_table_17 (fun h17 => ?_) (fun h17 => ?_)
    · refine e_aload dX11_table_22 rfl ?_
      refine n_callV0 dX11_table_23 ca_X11_148 (show dmW S τ 2 (3 * kd + bd) from hb) cw_2 (c_X0_firstWithoutWeight hb hm (by omega) (hbiX I hb) ?_)
      have hF : F_table S (nI kd) (nI bd) = lackF S (3 * kd + bd) := by rw [F_table, if_pos (by rw [hk5, hb2]; rfl), tk, tb]
      cases hf : fnd (laP S (3 * kd + bd)) (mb S (3 * kd + bd)) 0 with
      | none =>
        refine e_astore dX11_table_26 ?_
        refine e_aload dX11_table_28 rfl ?_
        refine e_ifnonnull_0 dX11_table_30 ?_
        refine e_push dX11_table_33 ?_
        refine e_goto dX11_table_34 ?_
        exact e_iretI dX11_table_48 rfl (qi hq (by rw [hF, lackF, hf]; exact (if_neg h17).symm)) (by decide) (by decide)
      | some j =>
        have hj : j < mb S (3 * kd + bd) := by have := fnd_lt hf; omega
        have hc := (hbi j hj).2.1
        rw [show (some j : Option Nat).bind (lnF ad S (3 * kd + bd)) = lnF ad S (3 * kd + bd) j from rfl, ln_t hj]
        refine e_astore dX11_table_26 ?_
        refine e_aload dX11_table_28 rfl ?_
        refine e_ifnonnull_r dX11_table_30 ?_
        refine e_push dX11_table_37 ?_
        refine e_aload dX11_table_39 rfl ?_
        refine x_get dX11_table_41 (fg_X11_98 (cb_or _)) rfl (show dmW S τ 4 (bc S (3 * kd + bd) j) from hc) cw_4 rfl ?_
        refine x_get dX11_table_44 fg_X11_102 rfl (show dmW S τ 5 (bc S (3 * kd + bd) j) from hc) cw_5 rfl ?_
        refine e_isub dX11_table_47 ?_
        exact e_iretI dX11_table_48 rfl (qi hq (by rw [hF, lackF, hf]; show _ = -10 - S.2.1 7 _; rw [(hbi j hj).1])) (by decide) (by decide)
    · refine e_push dX11_table_20 ?_
      exact e_iretI dX11_table_21 rfl (qi hq (by rw [F_table, if_pos (by rw [hk5, hb2]; rfl), tk, tb, lack_1 h17])) (by decide) (by decide)
set_option maxRecDepth 100000 in
set_option maxHeartbeats 4000000 in
theorem c_X11_hold {b0 : Nat} {D : va_G} {dA : Nat → ClassId} {ad : Nat → Nat → Nat} {Q : PQ} {Sm S : St} {f τ : Nat} {t : Nat} (I : Inv S t) (p c : Int32) (hq : Q (some (.int (F_hold S p c).1)) (dmW (F_hold S p c).2 τ) ad (cw dA ad Sm (F_hold S p c).2 f)) : Ct b0 D dA yX11_hold cX11_hold 4 (some .int) (Rm 2) [.ref (ad 0 0), .int p, .int c] (dmW S τ) ad (cw dA ad Sm S f) Q := by
  refine ct_of (by decide) (Nat.le_of_ble_eq_true rfl) ?_
  refine e_aload dX11_hold_0 rfl ?_
  refine e_iload dX11_hold_1 rfl ?_
  refine n_callV1 dX11_hold_2 ca_X11_105 (show dmW S τ 0 0 from rfl) cw_0 (c2_X11_constantAt _ I.1.1 I.1.2.1 (fun hc0 => ?_) (fun c hc ec hc1 => ?_))
  · skip
    refine e_astore dX11_hold_5 ?_
    refine e_iload dX11_hold_6 rfl ?_
    refine n_callS1 dX11_hold_7 ca_X11_162  (c_X11_isPlace _ ?_) 
    refine e_if_eqB dX11_hold_10 (fun h10 => ?_) (fun h10 => ?_)
    · refine e_push dX11_hold_17 ?_
      exact e_iretI dX11_hold_18 rfl (qx hq (by first | (simp [F_hold, h10]; done) | (simp [F_hold, hc0]; done))) (by decide) (by decide)
    · obtain ⟨p, p1, p2, rfl⟩ := inB_l (a := 0) (b := 9) rfl rfl (by decide) (by decide) h10
      have tp : tN (nI p) = p := tN_n (by omega)
      refine e_aload dX11_hold_13 rfl ?_
      refine e_ifnonnull_0 dX11_hold_14 ?_
      refine e_push dX11_hold_17 ?_
      exact e_iretI dX11_hold_18 rfl (qx hq (by first | (simp [F_hold, h10]; done) | (simp [F_hold, hc0]; done))) (by decide) (by decide)
  · subst ec
    have h60 := I.1.2.1
    have tc : tN (nI c) = c := tN_n (by omega)
    obtain ⟨hk, hk6, hbo, hw, hw1⟩ := I.1.2.2.1 c hc
    refine e_astore dX11_hold_5 ?_
    refine e_iload dX11_hold_6 rfl ?_
    refine n_callS1 dX11_hold_7 ca_X11_162  (c_X11_isPlace _ ?_) 
    refine e_if_eqB dX11_hold_10 (fun h10 => ?_) (fun h10 => ?_)
    · refine e_push dX11_hold_17 ?_
      exact e_iretI dX11_hold_18 rfl (qx hq (by first | (simp [F_hold, h10]; done) | (simp [F_hold, hc0]; done))) (by decide) (by decide)
    · obtain ⟨p, p1, p2, rfl⟩ := inB_l (a := 0) (b := 9) rfl rfl (by decide) (by decide) h10
      have tp : tN (nI p) = p := tN_n (by omega)
      refine e_aload dX11_hold_13 rfl ?_
      refine e_ifnonnull_r dX11_hold_14 ?_
      refine e_aload dX11_hold_19 rfl ?_
      refine e_aload dX11_hold_20 rfl ?_
      refine n_callV1 dX11_hold_21 ca_X11_140 (show dmW S τ 0 0 from rfl) cw_0 (c_X11_use hc hk hk6 ?_) 
      refine e_aload dX11_hold_24 rfl ?_
      refine e_dup dX11_hold_25 ?_
      refine x_get dX11_hold_26 fg_X11_29 rfl (show dmW S τ 0 0 from rfl) cw_0 rfl ?_
      refine e_push dX11_hold_29 ?_
      refine e_iadd dX11_hold_30 ?_
      refine w_put4 dX11_hold_31 fp_X11_29 ?_
      refine e_aload dX11_hold_34 rfl ?_
      refine x_get dX11_hold_35 fg_X11_37 rfl (show dmW S τ 0 0 from rfl) cw_0 rfl ?_
      refine e_iload dX11_hold_38 rfl ?_
      refine e_aload dX11_hold_39 rfl ?_
      refine w_pl (t0 := nI c) (p) dX11_hold_40 rfl (by omega) (tr_c (by omega)) rfl (show dmW (actS (stS S c)) τ 4 c from hc) cw_4 (fa_t (by rcases cb_or (S.2.1 3 c) with z | z | z; exact Or.inl z; exact Or.inr (Or.inr (Or.inl z)); exact Or.inr (Or.inr (Or.inr (Or.inr z))))) ?_
      refine e_aload dX11_hold_41 rfl ?_
      refine x_get dX11_hold_42 (fg_X11_98 (cb_or _)) rfl (show dmW S τ 4 c from hc) cw_4 rfl ?_
      refine x_get dX11_hold_45 fg_X11_109 rfl (show dmW S τ 5 c from hc) cw_5 rfl ?_
      exact e_iretI dX11_hold_48 rfl (qx hq (by rw [F_hold, if_pos (by rw [h10, hc1]; rfl), tp, tc]; exact Prod.ext rfl (Prod.ext rfl (Prod.ext (u2_comm (by decide)) rfl)))) (by decide) (by decide)
set_option maxRecDepth 100000 in
set_option maxHeartbeats 4000000 in
theorem c_X11_give {b0 : Nat} {D : va_G} {dA : Nat → ClassId} {ad : Nat → Nat → Nat} {Q : PQ} {Sm S : St} {f τ : Nat} {t : Nat} (I : Inv S t) (p v q : Int32) (hq : Q (some (.int (F_give S p v q).1)) (dmW (F_give S p v q).2 τ) ad (cw dA ad Sm (F_give S p v q).2 f)) : Ct b0 D dA yX11_give cX11_give 4 (some .int) (Rm 2) [.ref (ad 0 0), .int p, .int v, .int q] (dmW S τ) ad (cw dA ad Sm S f) Q := by
  refine ct_of (by decide) (Nat.le_of_ble_eq_true rfl) ?_
  refine e_iload dX11_give_0 rfl ?_
  refine e_push dX11_give_1 ?_
  refine e_push dX11_give_2 ?_
  refine n_callS3 dX11_give_3 ca_X11_78  (c_X11_isIn _ _ _ ?_) 
  refine e_if_eqB dX11_give_6 (fun h6 => ?_) (fun h6 => ?_)
  · refine e_push dX11_give_16 ?_
    exact e_iretI dX11_give_17 rfl (qx hq (by first | (simp [F_give, h6]; done) | (simp [F_give, h13]; done))) (by decide) (by decide)
  · obtain ⟨p, p1, p2, rfl⟩ := inB_l (a := 0) (b := 4) rfl rfl (by decide) (by decide) h6
    have tp : tN (nI p) = p := tN_n (by omega)
    refine e_iload dX11_give_9 rfl ?_
    refine n_callS1 dX11_give_10 ca_X11_162  (c_X11_isPlace _ ?_) 
    refine e_if_neB dX11_give_13 (fun h13 => ?_) (fun h13 => ?_)
    · refine e_aload dX11_give_18 rfl ?_
      refine x_get dX11_give_19 fg_X11_47 rfl (show dmW S τ 0 0 from rfl) cw_0 rfl ?_
      refine e_iload dX11_give_22 rfl ?_
      refine e_iload dX11_give_23 rfl ?_
      refine w_ist8 p dX11_give_24 rfl (by omega) ?_
      refine e_aload dX11_give_25 rfl ?_
      refine x_get dX11_give_26 fg_X11_50 rfl (show dmW S τ 0 0 from rfl) cw_0 rfl ?_
      refine e_iload dX11_give_29 rfl ?_
      refine e_iload dX11_give_30 rfl ?_
      refine w_ist9 p dX11_give_31 rfl (by omega) ?_
      refine e_push dX11_give_32 ?_
      exact e_iretI dX11_give_33 rfl (qx hq (by simp [F_give, h6, h13, tp])) (by decide) (by decide)
    · refine e_push dX11_give_16 ?_
      exact e_iretI dX11_give_17 rfl (qx hq (by first | (simp [F_give, h6]; done) | (simp [F_give, h13]; done))) (by decide) (by decide)
set_option maxRecDepth 100000 in
set_option maxHeartbeats 4000000 in
theorem c_X11_started {b0 : Nat} {D : va_G} {dA : Nat → ClassId} {ad : Nat → Nat → Nat} {Q : PQ} {Sm S : St} {f τ : Nat} (k : Int32) (hq : Q (some (.int (F_started S k))) (dmW S τ) ad (cw dA ad Sm S f)) : Ct b0 D dA yX11_started cX11_started 2 (some .int) (Rm 1) [.ref (ad 0 0), .int k] (dmW S τ) ad (cw dA ad Sm S f) Q := by
  refine ct_of (by decide) (Nat.le_of_ble_eq_true rfl) ?_
  refine e_iload dX11_started_0 rfl ?_
  refine e_push dX11_started_1 ?_
  refine e_push dX11_started_2 ?_
  refine n_callS3 dX11_started_3 ca_X11_78  (c_X11_isIn _ _ _ ?_) 
  refine e_if_eqB dX11_started_6 (fun h6 => ?_) (fun h6 => ?_)
  · refine e_push dX11_started_18 ?_
    exact e_iretI dX11_started_19 rfl (qi hq (by first | (simp [F_started, h6]; done) | (simp [F_started, h6, tk]; done))) (by decide) (by decide)
  · obtain ⟨k, k1, k2, rfl⟩ := inB_l (a := 0) (b := 5) rfl rfl (by decide) (by decide) h6
    have tk : tN (nI k) = k := tN_n (by omega)
    refine e_aload dX11_started_9 rfl ?_
    refine x_get dX11_started_10 fg_X11_25 rfl (show dmW S τ 0 0 from rfl) cw_0 rfl ?_
    refine e_iload dX11_started_13 rfl ?_
    refine x_ild (k) dX11_started_14 rfl (show dmW S τ 1 3 by rw [dmW_1]; decide) rfl rfl (by omega) (by omega) ?_
    refine e_goto dX11_started_15 ?_
    exact e_iretI dX11_started_19 rfl (qi hq (by first | (simp [F_started, h6]; done) | (simp [F_started, h6, tk]; done))) (by decide) (by decide)
set_option maxRecDepth 100000 in
set_option maxHeartbeats 4000000 in
theorem c_X11_family {b0 : Nat} {D : va_G} {dA : Nat → ClassId} {ad : Nat → Nat → Nat} {Q : PQ} {Sm S : St} {f τ : Nat} {t : Nat} (I : Inv S t) (p : Int32) (hq : Q (some (.int (F_family S p))) (dmW S τ) ad (cw dA ad Sm S f)) : Ct b0 D dA yX11_family cX11_family 2 (some .int) (Rm 3) [.ref (ad 0 0), .int p] (dmW S τ) ad (cw dA ad Sm S f) Q := by
  refine ct_of (by decide) (Nat.le_of_ble_eq_true rfl) ?_
  refine e_iload dX11_family_0 rfl ?_
  refine n_callS1 dX11_family_1 ca_X11_162  (c_X11_isPlace _ ?_) 
  refine e_if_eqB dX11_family_4 (fun h4 => ?_) (fun h4 => ?_)
  · refine e_push dX11_family_19 ?_
    exact e_iretI dX11_family_20 rfl (qi hq (by first | (simp [F_family, h4]; done) | (simp [F_family, h4, tp]; done))) (by decide) (by decide)
  · obtain ⟨p, p1, p2, rfl⟩ := inB_l (a := 0) (b := 9) rfl rfl (by decide) (by decide) h4
    have tp : tN (nI p) = p := tN_n (by omega)
    refine e_aload dX11_family_7 rfl ?_
    refine x_get dX11_family_8 fg_X11_37 rfl (show dmW S τ 0 0 from rfl) cw_0 rfl ?_
    refine e_iload dX11_family_11 rfl ?_
    refine x_ald (p) dX11_family_12 rfl (show dmW S τ 1 6 by rw [dmW_1]; decide) rfl rfl rfl (by omega) (by first | decide | omega) (pl_t (by omega)) ?_
    refine n_callS1 dX11_family_13 ca_X11_179  (c_X11_familyOf _ (I.2.2.2.2.2.2.1.1 p (by omega)) I.1.2.1 (Nat.le_trans I.2.2.2.1.2.1 I.2.2.2.2.2.2.2.1) (Nat.le_trans I.2.2.2.2.2.1.2.1 I.2.2.2.2.2.2.2.1) (fun c hc => (I.1.2.2.1 c hc).2.2.1) ?_) 
    refine e_goto dX11_family_16 ?_
    exact e_iretI dX11_family_20 rfl (qi hq (by first | (simp [F_family, h4]; done) | (simp [F_family, h4, tp]; done))) (by decide) (by decide)
