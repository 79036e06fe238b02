set_option maxRecDepth 100000 in
set_option maxHeartbeats 4000000 in
theorem c2_X11_thingAt {b0 : Nat} {D : va_G} {dA : Nat → ClassId} {ad : Nat → Nat → Nat} {Q : PQ} {Sm S : St} {f τ : Nat} (p : Int32) (hq0 : inB p 0 9 = false → Q (some .null) (dmW S τ) ad (cw dA ad Sm S f)) (hq1 : ∀ p', p' < 10 → p = nI p' → inB (nI p') 0 9 = true → Q (some (va_rf (tr ad (S.2.1 15 p')))) (dmW S τ) ad (cw dA ad Sm S f)) : Ct b0 D dA yX11_thingAt cX11_thingAt 2 (some (.object "ConstantKinds$Thing")) (Rm 2) [.ref (ad 0 0), .int p] (dmW S τ) ad (cw dA ad Sm S f) Q := by
  refine c_X11_thingAt p ?_
  cases h : inB p 0 9 with
  | false => exact hq0 h
  | true =>
    obtain ⟨p', k1, k2, rfl⟩ := inB_l (a := 0) (b := 9) rfl rfl (by decide) (by decide) h
    rw [if_pos rfl, tN_n (by omega)]
    exact hq1 p' (by omega) rfl h
theorem cI_X11_familyOf {b0 : Nat} {D : va_G} {dA : Nat → ClassId} {ad : Nat → Nat → Nat} {Q : PQ} {Sm S : St} {f τ : Nat} {t : Nat} (I : Inv S t) (v : Int32) (hv : okT S v) (hq : Q (some (.int (famF S v))) (dmW S τ) ad (cw dA ad Sm S f)) : Ct b0 D dA yX11_familyOf cX11_familyOf 1 (some .int) (Rm 2) [va_rf (tr ad v)] (dmW S τ) ad (cw dA ad Sm S f) Q := c_X11_familyOf v hv (bd512 I).1 (bd512 I).2.1 (bd512 I).2.2 (fun c hc => (I.1.2.2.1 c hc).2.2.1) hq
set_option maxRecDepth 100000 in
set_option maxHeartbeats 4000000 in
theorem c_X11_about {b0 : Nat} {D : va_G} {dA : Nat → ClassId} {ad : Nat → Nat → Nat} {Q : PQ} {Sm S : St} {f τ : Nat} {t : Nat} (I : Inv S t) (c what : Int32) (hq : Q (some (.int (F_about S c what))) (dmW S τ) ad (cw dA ad Sm S f)) : Ct b0 D dA yX11_about cX11_about 4 (some .int) (Rm 2) [.ref (ad 0 0), .int c, .int what] (dmW S τ) ad (cw dA ad Sm S f) Q := by
  refine ct_of (by decide) (Nat.le_of_ble_eq_true rfl) ?_
  refine e_aload dX11_about_0 rfl ?_
  refine e_iload dX11_about_1 rfl ?_
  refine n_callV1 dX11_about_2 ca_X11_105 (show dmW S τ 0 0 from rfl) cw_0 (c2_X11_constantAt _ I.1.1 I.1.2.1 (fun hc0 => ?_) (fun c hc ec hc1 => ?_))
  · skip
    refine e_astore dX11_about_5 ?_
    refine e_aload dX11_about_6 rfl ?_
    refine e_ifnonnull_0 dX11_about_7 ?_
    refine e_push dX11_about_10 ?_
    exact e_iretI dX11_about_11 rfl (qi hq (by simp [F_about, hc0])) (by decide) (by decide)
  · subst ec
    have h60 := I.1.2.1
    have tc : tN (nI c) = c := tN_n (by omega)
    obtain ⟨hk, hk6, hbo, hw, hw1⟩ := I.1.2.2.1 c hc
    refine e_astore dX11_about_5 ?_
    refine e_aload dX11_about_6 rfl ?_
    refine e_ifnonnull_r dX11_about_7 ?_
    refine e_iload dX11_about_12 rfl ?_
    rcases sw_03 what with rfl | rfl | rfl | rfl | ⟨w0, w1, w2, w3, w4⟩
    · refine e_tab (off := 31) (t := 44) dX11_about_13 (by decide) (by decide) (by decide) (by decide) ?_
      refine e_aload dX11_about_44 rfl ?_
      refine x_get dX11_about_45 (fg_X11_98 (cb_or _)) rfl (show dmW S τ 4 c from hc) cw_4 rfl ?_
      refine x_get dX11_about_48 fg_X11_109 rfl (show dmW S τ 5 c from hc) cw_5 rfl ?_
      exact e_iretI dX11_about_51 rfl (qi hq (by rw [F_about, hc1, show inB (0 : Int32) 0 3 = true from by decide, tc]; rfl)) (by decide) (by decide)
    · refine e_tab (off := 39) (t := 52) dX11_about_13 (by decide) (by decide) (by decide) (by decide) ?_
      refine e_aload dX11_about_52 rfl ?_
      have h4 : dmW (S) τ 4 c := hc
      rcases hbo with z | z | z
      · have he : cw dA ad Sm (S) f 4 c = .inr (5, _) := cw_4.trans (by rw [show (S).2.1 3 c = 0 from z, show cb 0 = 5 from rfl])
        refine n_callU0 dX11_about_53 ca_X11_130_5 h4 he (c_X6_bodyNumber ?_)
        exact e_iretI dX11_about_56 rfl (qi hq (by rw [F_about, hc1, show inB (1 : Int32) 0 3 = true from by decide, tc]; exact z.symm)) (by decide) (by decide)
      · have he : cw dA ad Sm (S) f 4 c = .inr (8, _) := cw_4.trans (by rw [show (S).2.1 3 c = 1 from z, show cb 1 = 8 from rfl])
        refine n_callU0 dX11_about_53 ca_X11_130_8 h4 he (c_X10_bodyNumber ?_)
        exact e_iretI dX11_about_56 rfl (qi hq (by rw [F_about, hc1, show inB (1 : Int32) 0 3 = true from by decide, tc]; exact z.symm)) (by decide) (by decide)
      · have he : cw dA ad Sm (S) f 4 c = .inr (3, _) := cw_4.trans (by rw [show (S).2.1 3 c = 2 from z, show cb 2 = 3 from rfl])
        refine n_callU0 dX11_about_53 ca_X11_130_3 h4 he (c_X4_bodyNumber ?_)
        exact e_iretI dX11_about_56 rfl (qi hq (by rw [F_about, hc1, show inB (1 : Int32) 0 3 = true from by decide, tc]; exact z.symm)) (by decide) (by decide)
    · refine e_tab (off := 44) (t := 57) dX11_about_13 (by decide) (by decide) (by decide) (by decide) ?_
      refine e_aload dX11_about_57 rfl ?_
      refine x_get dX11_about_58 (fg_X11_134 (cb_or _)) rfl (show dmW S τ 4 c from hc) cw_4 rfl ?_
      exact e_iretI dX11_about_61 rfl (qi hq (by rw [F_about, hc1, show inB (2 : Int32) 0 3 = true from by decide, tc]; rfl)) (by decide) (by decide)
    · refine e_tab (off := 49) (t := 62) dX11_about_13 (by decide) (by decide) (by decide) (by decide) ?_
      refine e_aload dX11_about_62 rfl ?_
      refine x_get dX11_about_63 (fg_X11_137 (cb_or _)) rfl (show dmW S τ 4 c from hc) cw_4 rfl ?_
      exact e_iretI dX11_about_66 rfl (qi hq (by rw [F_about, hc1, show inB (3 : Int32) 0 3 = true from by decide, tc]; rfl)) (by decide) (by decide)
    · refine e_tabD (t := 67) dX11_about_13 (sw_f w4) (by decide) ?_
      refine e_push dX11_about_67 ?_
      exact e_iretI dX11_about_68 rfl (qi hq (by rw [F_about, w4, Bool.and_false]; rfl)) (by decide) (by decide)
set_option maxRecDepth 100000 in
set_option maxHeartbeats 4000000 in
theorem c_X11_worth {b0 : Nat} {D : va_G} {dA : Nat → ClassId} {ad : Nat → Nat → Nat} {Q : PQ} {Sm S : St} {f τ : Nat} {t : Nat} (I : Inv S t) (c v : Int32) (hq : Q (some (.int (F_worth S c v).1)) (dmW (F_worth S c v).2 τ) ad (cw dA ad Sm (F_worth S c v).2 f)) : Ct b0 D dA yX11_worth cX11_worth 4 (some .int) (Rm 2) [.ref (ad 0 0), .int c, .int v] (dmW S τ) ad (cw dA ad Sm S f) Q := by
  refine ct_of (by decide) (Nat.le_of_ble_eq_true rfl) ?_
  refine e_aload dX11_worth_0 rfl ?_
  refine e_iload dX11_worth_1 rfl ?_
  refine n_callV1 dX11_worth_2 ca_X11_105 (show dmW S τ 0 0 from rfl) cw_0 (c2_X11_constantAt _ I.1.1 I.1.2.1 (fun hc0 => ?_) (fun c hc ec hc1 => ?_))
  · skip
    refine e_astore dX11_worth_5 ?_
    refine e_aload dX11_worth_6 rfl ?_
    refine e_ifnonnull_0 dX11_worth_7 ?_
    refine e_push dX11_worth_10 ?_
    exact e_iretI dX11_worth_11 rfl (qx hq (by simp [F_worth, hc0])) (by decide) (by decide)
  · subst ec
    have h60 := I.1.2.1
    have tc : tN (nI c) = c := tN_n (by omega)
    obtain ⟨hk, hk6, hbo, hw, hw1⟩ := I.1.2.2.1 c hc
    refine e_astore dX11_worth_5 ?_
    refine e_aload dX11_worth_6 rfl ?_
    refine e_ifnonnull_r dX11_worth_7 ?_
    refine e_aload dX11_worth_12 rfl ?_
    refine e_aload dX11_worth_13 rfl ?_
    refine n_callV1 dX11_worth_14 ca_X11_140 (show dmW S τ 0 0 from rfl) cw_0 (c_X11_use hc hk hk6 ?_) 
    refine e_aload dX11_worth_17 rfl ?_
    refine e_dup dX11_worth_18 ?_
    refine x_get dX11_worth_19 fg_X11_29 rfl (show dmW S τ 0 0 from rfl) cw_0 rfl ?_
    refine e_push dX11_worth_22 ?_
    refine e_iadd dX11_worth_23 ?_
    refine w_put4 dX11_worth_24 fp_X11_29 ?_
    refine e_aload dX11_worth_27 rfl ?_
    refine e_iload dX11_worth_28 rfl ?_
    have h4 : dmW (actS (stS S c)) τ 4 c := hc
    rcases hbo with z | z | z
    · have he : cw dA ad Sm (actS (stS S c)) f 4 c = .inr (5, _) := cw_4.trans (by rw [show (actS (stS S c)).2.1 3 c = 0 from z, show cb 0 = 5 from rfl])
      refine n_callU1 dX11_worth_29 ca_X11_144_5 h4 he (c_X6_worthFor h4 he (Or.inr (Or.inl rfl)) (show dmW (actS (stS S c)) τ 5 c from hc) cw_5 _ ?_)
      exact e_iretI dX11_worth_32 rfl (qx hq (by rw [F_worth, if_pos hc1, tc, z]; rfl)) (by decide) (by decide)
    · have he : cw dA ad Sm (actS (stS S c)) f 4 c = .inr (8, _) := cw_4.trans (by rw [show (actS (stS S c)).2.1 3 c = 1 from z, show cb 1 = 8 from rfl])
      refine n_callU1 dX11_worth_29 ca_X11_144_8 h4 he (c_X10_worthFor h4 he (Or.inr (Or.inr rfl)) (show dmW (actS (stS S c)) τ 5 c from hc) cw_5 _ ?_)
      exact e_iretI dX11_worth_32 rfl (qx hq (by rw [F_worth, if_pos hc1, tc, z]; rfl)) (by decide) (by decide)
    · have he : cw dA ad Sm (actS (stS S c)) f 4 c = .inr (3, _) := cw_4.trans (by rw [show (actS (stS S c)).2.1 3 c = 2 from z, show cb 2 = 3 from rfl])
      refine n_callU1 dX11_worth_29 ca_X11_144_3 h4 he (c_X4_worthFor h4 he rfl (show dmW (actS (stS S c)) τ 5 c from hc) cw_5 _ ?_)
      exact e_iretI dX11_worth_32 rfl (qx hq (by rw [F_worth, if_pos hc1, tc, z]; rfl)) (by decide) (by decide)
set_option maxRecDepth 100000 in
set_option maxHeartbeats 4000000 in
theorem c_X11_cause {b0 : Nat} {D : va_G} {dA : Nat → ClassId} {ad : Nat → Nat → Nat} {Q : PQ} {Sm S : St} {f τ : Nat} (w : Int32) (hq : Q (some (.int (F_cause S w))) (dmW S τ) ad (cw dA ad Sm S f)) : Ct b0 D dA yX11_cause cX11_cause 2 (some .int) (Rm 0) [.ref (ad 0 0), .int w] (dmW S τ) ad (cw dA ad Sm S f) Q := by
  refine ct_of (by decide) (Nat.le_of_ble_eq_true rfl) ?_
  refine e_iload dX11_cause_0 rfl ?_
  rcases sw_01 w with rfl | rfl | ⟨w0, w1⟩
  · refine e_look (off := 27) (t := 28) dX11_cause_1 (by decide) (by decide) (by decide) ?_
    refine e_aload dX11_cause_28 rfl ?_
    refine x_get dX11_cause_29 fg_X11_56 rfl (show dmW S τ 0 0 from rfl) cw_0 rfl ?_
    exact e_iretI dX11_cause_32 rfl hq (by decide) (by decide)
  · refine e_look (off := 32) (t := 33) dX11_cause_1 (by decide) (by decide) (by decide) ?_
    refine e_aload dX11_cause_33 rfl ?_
    refine x_get dX11_cause_34 fg_X11_59 rfl (show dmW S τ 0 0 from rfl) cw_0 rfl ?_
    exact e_iretI dX11_cause_37 rfl hq (by decide) (by decide)
  · refine e_look (off := 37) (t := 38) dX11_cause_1 (by decide) ((lv_osw w0 rfl).trans ((lv_osw w1 rfl).trans rfl)) (by decide) ?_
    refine e_push dX11_cause_38 ?_
    exact e_iretI dX11_cause_39 rfl (qi hq (by rw [F_cause, if_neg w0, if_neg w1])) (by decide) (by decide)
set_option maxRecDepth 100000 in
set_option maxHeartbeats 4000000 in
theorem c_X11_count {b0 : Nat} {D : va_G} {dA : Nat → ClassId} {ad : Nat → Nat → Nat} {Q : PQ} {Sm S : St} {f τ : Nat} (w : Int32) (hq : Q (some (.int (F_count S w))) (dmW S τ) ad (cw dA ad Sm S f)) : Ct b0 D dA yX11_count cX11_count 2 (some .int) (Rm 1) [.ref (ad 0 0), .int w] (dmW S τ) ad (cw dA ad Sm S f) Q := by
  refine ct_of (by decide) (Nat.le_of_ble_eq_true rfl) ?_
  refine e_iload dX11_count_0 rfl ?_
  rcases sw_05 w with rfl | rfl | rfl | rfl | rfl | rfl | ⟨w0, w1, w2, w3, w4, w5, w6⟩
  · refine e_tab (off := 39) (t := 40) dX11_count_1 (by decide) (by decide) (by decide) (by decide) ?_
    refine e_aload dX11_count_40 rfl ?_
    refine x_get dX11_count_41 fg_X11_15 rfl (show dmW S τ 0 0 from rfl) cw_0 rfl ?_
    exact e_iretI dX11_count_44 rfl hq (by decide) (by decide)
  · refine e_tab (off := 44) (t := 45) dX11_count_1 (by decide) (by decide) (by decide) (by decide) ?_
    refine e_aload dX11_count_45 rfl ?_
    refine x_get dX11_count_46 fg_X11_29 rfl (show dmW S τ 0 0 from rfl) cw_0 rfl ?_
    exact e_iretI dX11_count_49 rfl hq (by decide) (by decide)
  · refine e_tab (off := 49) (t := 50) dX11_count_1 (by decide) (by decide) (by decide) (by decide) ?_
    refine e_aload dX11_count_50 rfl ?_
    refine x_get dX11_count_51 fg_X11_32 rfl (show dmW S τ 0 0 from rfl) cw_0 rfl ?_
    exact e_iretI dX11_count_54 rfl hq (by decide) (by decide)
  · refine e_tab (off := 54) (t := 55) dX11_count_1 (by decide) (by decide) (by decide) (by decide) ?_
    refine e_aload dX11_count_55 rfl ?_
    refine x_get dX11_count_56 fg_X11_53 rfl (show dmW S τ 0 0 from rfl) cw_0 rfl ?_
    exact e_iretI dX11_count_59 rfl hq (by decide) (by decide)
  · refine e_tab (off := 59) (t := 60) dX11_count_1 (by decide) (by decide) (by decide) (by decide) ?_
    refine e_aload dX11_count_60 rfl ?_
    refine n_callV0 dX11_count_61 ca_X11_243 (show dmW S τ 0 0 from rfl) cw_0 (c_X11_placesInUse ?_) 
    exact e_iretI dX11_count_64 rfl hq (by decide) (by decide)
  · refine e_tab (off := 64) (t := 65) dX11_count_1 (by decide) (by decide) (by decide) (by decide) ?_
    refine e_aload dX11_count_65 rfl ?_
    refine n_callV0 dX11_count_66 ca_X11_246 (show dmW S τ 0 0 from rfl) cw_0 (c_X11_kindsStarted ?_) 
    exact e_iretI dX11_count_69 rfl hq (by decide) (by decide)
  · refine e_tabD (t := 70) dX11_count_1 (sw_f w6) (by decide) ?_
    refine e_push dX11_count_70 ?_
    exact e_iretI dX11_count_71 rfl (qi hq (by rw [F_count, if_neg w0, if_neg w1, if_neg w2, if_neg w3, if_neg w4, if_neg w5])) (by decide) (by decide)
set_option maxRecDepth 100000 in
set_option maxHeartbeats 4000000 in
theorem c_X11_draw {b0 : Nat} {D : va_G} {dA : Nat → ClassId} {ad : Nat → Nat → Nat} {Q : PQ} {Sm S : St} {f τ : Nat} {t : Nat} (I : Inv S t) (kind bd : Int32) (seed : Int64) (n : Int32) (hq : Q (some (.int (F_draw S kind bd seed n).1)) (dmW (F_draw S kind bd seed n).2 τ) ad (cw dA ad Sm (F_draw S kind bd seed n).2 f)) : Ct b0 D dA yX11_draw cX11_draw 8 (some .int) (Rm 2) [.ref (ad 0 0), .int kind, .int bd, .long seed, .int n] (dmW S τ) ad (cw dA ad Sm S f) Q := by
  refine ct_of (by decide) (Nat.le_of_ble_eq_true rfl) ?_
  refine e_aload dX11_draw_0 rfl ?_
  refine e_iload dX11_draw_1 rfl ?_
  refine e_iload dX11_draw_2 rfl ?_
  refine n_callV2 dX11_draw_3 ca_X11_66 (show dmW S τ 0 0 from rfl) cw_0 (c2_X11_buildAt _ _ (fun hb0 => ?_) (fun kd bd hkd hbd ek eb hk5 hb2 => ?_))
  · skip
    refine e_astore dX11_draw_6 ?_
    refine e_aload dX11_draw_8 rfl ?_
    refine e_ifnull_0 dX11_draw_10 ?_
    refine e_push dX11_draw_18 ?_
    exact e_iretI dX11_draw_19 rfl (qx hq (by first | (simp [F_draw, hb0]; done) | (rw [F_draw, decide_eq_false h15, Bool.and_false]; rfl))) (by decide) (by decide)
  · subst ek
    subst eb
    have h60 := I.1.2.1
    have tk : tN (nI kd) = kd := tN_n (by omega)
    have tb : tN (nI bd) = bd := tN_n (by omega)
    have hb : 3 * kd + bd < 18 := by omega
    obtain ⟨hm, hmC, hbi, hbj⟩ := I.2.1 (3 * kd + bd) hb
    refine e_astore dX11_draw_6 ?_
    refine e_aload dX11_draw_8 rfl ?_
    refine e_ifnull_r dX11_draw_10 ?_
    refine e_iload dX11_draw_13 rfl ?_
    refine e_if_ge dX11_draw_15 (fun h15 => ?_) (fun h15 => ?_)
    · refine e_aload dX11_draw_20 rfl ?_
      refine n_callV0 dX11_draw_22 ca_X11_152 (show dmW S τ 2 (3 * kd + bd) from hb) cw_2 (c_X0_isWhole hb hm (by omega) (hbiX I hb) I.1.2.1 ?_) 
      refine e_if_neB dX11_draw_25 (fun h25 => ?_) (fun h25 => ?_)
      · have hl0 : lackF S (3 * kd + bd) = 0 := of_decide_eq_true h25
        have hbx := hbiX I hb
        have hs0 := lack_sum (fun i hi => ⟨(hbx i hi).2.1, (hbx i hi).2.2.2, by have := (hbx i hi).1; omega⟩) hm hl0
        have hsw := sumW_le (S := S) (b := 3 * kd + bd) (m := mb S (3 * kd + bd)) (by omega) (fun i hi => (hbx i hi).2.2.1)
        obtain ⟨l, hl, el⟩ := mdl_lt (drw seed n) (n := sumW S (3 * kd + bd) (mb S (3 * kd + bd))) hs0 (by omega)
        have hpk := pick_lt hl
        obtain ⟨c, ec⟩ : ∃ c, bc S (3 * kd + bd) (pick S (3 * kd + bd) (mb S (3 * kd + bd)) l 0) = c := ⟨_, rfl⟩
        obtain ⟨e7, hc, -⟩ := hbi _ hpk
        rw [ec] at e7 hc
        obtain ⟨hk, hk6, -, -, -⟩ := I.1.2.2.1 c hc
        rw [F_draw, if_pos (by rw [hk5, hb2, decide_eq_true h15]; rfl), tk, tb, if_pos hl0, el, tN_n (by omega), e7, ec] at hq
        refine e_aload dX11_draw_31 rfl ?_
        refine e_lload dX11_draw_33 rfl ?_
        refine e_iload dX11_draw_34 rfl ?_
        refine n_callS2 dX11_draw_36 ca_X11_115  (c_X11_scramble _ _ ?_) 
        refine e_aload dX11_draw_39 rfl ?_
        refine n_callV0 dX11_draw_41 ca_X11_156 (show dmW S τ 2 (3 * kd + bd) from hb) cw_2 (c_X0_weightSum hb hm (by omega) hbx ?_) 
        refine n_callS2 dX11_draw_44 ca_X11_119  (c_X11_unsignedRemainder _ hs0 (by omega) ?_) 
        refine e_topi el ?_
        refine n_callV1 dX11_draw_47 ca_X11_159 (show dmW S τ 2 (3 * kd + bd) from hb) cw_2 (c_X0_reaching hb hm (by omega) hbx hl ?_) 
        rw [ec]
        refine e_astore dX11_draw_50 ?_
        refine e_aload dX11_draw_52 rfl ?_
        refine e_ifnonnull_r dX11_draw_54 ?_
        refine e_aload dX11_draw_60 rfl ?_
        refine e_aload dX11_draw_61 rfl ?_
        refine n_callV1 dX11_draw_63 ca_X11_140 (show dmW S τ 0 0 from rfl) cw_0 (c_X11_use hc hk hk6 ?_) 
        refine e_aload dX11_draw_66 rfl ?_
        refine e_dup dX11_draw_67 ?_
        refine x_get dX11_draw_68 fg_X11_29 rfl (show dmW S τ 0 0 from rfl) cw_0 rfl ?_
        refine e_push dX11_draw_71 ?_
        refine e_iadd dX11_draw_72 ?_
        refine w_put4 dX11_draw_73 fp_X11_29 ?_
        refine e_aload dX11_draw_76 rfl ?_
        refine e_dup dX11_draw_77 ?_
        refine x_get dX11_draw_78 fg_X11_32 rfl (show dmW S τ 0 0 from rfl) cw_0 rfl ?_
        refine e_push dX11_draw_81 ?_
        refine e_iadd dX11_draw_82 ?_
        refine w_put5 dX11_draw_83 fp_X11_32 ?_
        refine e_aload dX11_draw_86 rfl ?_
        refine e_dup dX11_draw_88 ?_
        refine x_get dX11_draw_89 (fg_X11_137 (cb_or _)) rfl (show dmW S τ 4 c from hc) cw_4 rfl ?_
        refine e_push dX11_draw_92 ?_
        refine e_iadd dX11_draw_93 ?_
        refine w_dr dX11_draw_94 (fun ci h => fp_X11_137 h) hc ?_
        refine e_aload dX11_draw_97 rfl ?_
        refine x_get dX11_draw_99 (fg_X11_98 (cb_or _)) rfl (show dmW S τ 4 c from hc) cw_4 rfl ?_
        refine x_get dX11_draw_102 fg_X11_102 rfl (show dmW S τ 5 c from hc) cw_5 rfl ?_
        exact e_iretI dX11_draw_105 rfl (qx hq (Prod.ext rfl (Prod.ext (u1_comm (by decide)) (Prod.ext (u2_comm (by decide)) rfl)))) (by decide) (by decide)
      · refine e_push dX11_draw_28 ?_
        exact e_iretI dX11_draw_30 rfl (qx hq (by rw [F_draw, if_pos (by rw [hk5, hb2, decide_eq_true h15]; rfl), tk, tb, if_neg (of_decide_eq_false h25)])) (by decide) (by decide)
    · have h15f := h15
      refine e_push dX11_draw_18 ?_
      exact e_iretI dX11_draw_19 rfl (qx hq (by first | (simp [F_draw, hb0]; done) | (rw [F_draw, decide_eq_false h15, Bool.and_false]; rfl))) (by decide) (by decide)
set_option maxRecDepth 100000 in
set_option maxHeartbeats 4000000 in
theorem c_X11_share {b0 : Nat} {D : va_G} {dA : Nat → ClassId} {ad : Nat → Nat → Nat} {Q : PQ} {Sm S : St} {f τ : Nat} {t : Nat} (I : Inv S t) (p q : Int32) (hq : Q (some (.int (F_share S p q).1)) (dmW (F_share S p q).2 τ) ad (cw dA ad Sm (F_share S p q).2 f)) : Ct b0 D dA yX11_share cX11_share 3 (some .int) (Rm 3) [.ref (ad 0 0), .int p, .int q] (dmW S τ) ad (cw dA ad Sm S f) Q := by
  refine ct_of (by decide) (Nat.le_of_ble_eq_true rfl) ?_
  refine e_iload dX11_share_0 rfl ?_
  refine n_callS1 dX11_share_1 ca_X11_162  (c_X11_isPlace _ ?_) 
  refine e_if_eqB dX11_share_4 (fun h4 => ?_) (fun h4 => ?_)
  · refine e_push dX11_share_14 ?_
    exact e_iretI dX11_share_15 rfl (qx hq (by first | (simp [F_share, h4]; done) | (simp [F_share, h11]; done))) (by decide) (by decide)
  · obtain ⟨p, p1, p2, rfl⟩ := inB_l (a := 0) (b := 9) rfl rfl (by decide) (by decide) h4
    have tp : tN (nI p) = p := tN_n (by omega)
    refine e_iload dX11_share_7 rfl ?_
    refine n_callS1 dX11_share_8 ca_X11_162  (c_X11_isPlace _ ?_) 
    refine e_if_neB dX11_share_11 (fun h11 => ?_) (fun h11 => ?_)
    · obtain ⟨q, q1, q2, rfl⟩ := inB_l (a := 0) (b := 9) rfl rfl (by decide) (by decide) h11
      have tq : tN (nI q) = q := tN_n (by omega)
      refine e_aload dX11_share_16 rfl ?_
      refine x_get dX11_share_17 fg_X11_37 rfl (show dmW S τ 0 0 from rfl) cw_0 rfl ?_
      refine e_iload dX11_share_20 rfl ?_
      refine e_aload dX11_share_21 rfl ?_
      refine x_get dX11_share_22 fg_X11_37 rfl (show dmW S τ 0 0 from rfl) cw_0 rfl ?_
      refine e_iload dX11_share_25 rfl ?_
      refine x_ald (q) dX11_share_26 rfl (show dmW S τ 1 6 by rw [dmW_1]; decide) rfl rfl rfl (by omega) (by first | decide | omega) (pl_t (by omega)) ?_
      refine w_plT p I (I.2.2.2.2.2.2.1.1 q (by omega)) dX11_share_27 rfl (by omega) ?_
      refine e_aload dX11_share_28 rfl ?_
      refine x_get dX11_share_29 fg_X11_37 rfl (show dmW S τ 0 0 from rfl) cw_0 rfl ?_
      refine e_iload dX11_share_32 rfl ?_
      refine x_ald (p) dX11_share_33 rfl (show dmW S τ 1 6 by rw [dmW_1]; decide) rfl rfl rfl (by omega) (by first | decide | omega) (pl_w (by omega)) ?_
      refine n_callS1 dX11_share_34 ca_X11_179  (c_X11_familyOf (S := (S.1, u2 S.2.1 15 p (S.2.1 15 q), S.2.2)) _ (I.2.2.2.2.2.2.1.1 q (by omega)) (bd512 I).1 (bd512 I).2.1 (bd512 I).2.2 (fun c hc => (I.1.2.2.1 c hc).2.2.1) ?_) 
      exact e_iretI dX11_share_37 rfl (qx hq (by rw [F_share, if_pos (by rw [h4, h11]; rfl), tp, tq]; rfl)) (by decide) (by decide)
    · refine e_push dX11_share_14 ?_
      exact e_iretI dX11_share_15 rfl (qx hq (by first | (simp [F_share, h4]; done) | (simp [F_share, h11]; done))) (by decide) (by decide)
set_option maxRecDepth 100000 in
set_option maxHeartbeats 4000000 in
theorem c_X11_isOfFamily {b0 : Nat} {D : va_G} {dA : Nat → ClassId} {ad : Nat → Nat → Nat} {Q : PQ} {Sm S : St} {f τ : Nat} {t : Nat} (I : Inv S t) (v : Int32) (hok : okT S v) (fm : Nat) (f1 : 1 ≤ fm) (f5 : fm ≤ 5) (hq : Q (some (.int (bI (decide (famF S v = nI fm) || (decide (famF S v = 3) && decide (nI fm = 2)))))) (dmW S τ) ad (cw dA ad Sm S f)) : Ct b0 D dA yX11_isOfFamily cX11_isOfFamily 2 (some .boolean) (Rm 0) [va_rf (tr ad v), .int (nI fm)] (dmW S τ) ad (cw dA ad Sm S f) Q := by
  refine ct_of (by decide) (by rcases tr ad v with _ | _ <;> exact Nat.le_of_ble_eq_true rfl) ?_
  refine e_lvA (l := [some (va_rf (tr ad v)), some (.int (nI fm))]) ?_ (by rcases tr ad v with _ | _ <;> exact ⟨rfl, rfl, trivial⟩)
  refine e_iload dX11_isOfFamily_0 rfl ?_
  have hfo := fam_of I hok fm f1 f5
  rcases (show fm = 1 ∨ fm = 2 ∨ fm = 3 ∨ fm = 4 ∨ fm = 5 by omega) with rfl | rfl | rfl | rfl | rfl
  · refine e_tab (off := 31) (t := 32) dX11_isOfFamily_1 (by decide) (by decide) (by decide) (by decide) ?_
    refine e_aload dX11_isOfFamily_32 rfl ?_
    refine x_inst (P := iP_Plain) I hok dX11_isOfFamily_33 fi_X11_257_3 fi_X11_257_4 fi_X11_257_5 fi_X11_257_6 fi_X11_257_8 ?_
    exact e_iret dX11_isOfFamily_36 rfl (by first | rfl | exact bI_n _) (qi hq (congrArg bI hfo)) (by decide) (by decide)
  · refine e_tab (off := 36) (t := 37) dX11_isOfFamily_1 (by decide) (by decide) (by decide) (by decide) ?_
    refine e_aload dX11_isOfFamily_37 rfl ?_
    refine x_inst (P := iP_Twice) I hok dX11_isOfFamily_38 fi_X11_249_3 fi_X11_249_4 fi_X11_249_5 fi_X11_249_6 fi_X11_249_8 ?_
    exact e_iret dX11_isOfFamily_41 rfl (by first | rfl | exact bI_n _) (qi hq (congrArg bI hfo)) (by decide) (by decide)
  · refine e_tab (off := 41) (t := 42) dX11_isOfFamily_1 (by decide) (by decide) (by decide) (by decide) ?_
    refine e_aload dX11_isOfFamily_42 rfl ?_
    refine x_inst (P := iP_Less) I hok dX11_isOfFamily_43 fi_X11_254_3 fi_X11_254_4 fi_X11_254_5 fi_X11_254_6 fi_X11_254_8 ?_
    exact e_iret dX11_isOfFamily_46 rfl (by first | rfl | exact bI_n _) (qi hq (congrArg bI hfo)) (by decide) (by decide)
  · refine e_tab (off := 46) (t := 47) dX11_isOfFamily_1 (by decide) (by decide) (by decide) (by decide) ?_
    refine e_aload dX11_isOfFamily_47 rfl ?_
    refine x_inst (P := iP_Row) I hok dX11_isOfFamily_48 fi_X11_166_3 fi_X11_166_4 fi_X11_166_5 fi_X11_166_6 fi_X11_166_8 ?_
    exact e_iret dX11_isOfFamily_51 rfl (by first | rfl | exact bI_n _) (qi hq (congrArg bI hfo)) (by decide) (by decide)
  · refine e_tabD (t := 52) dX11_isOfFamily_1 (Or.inr (by decide)) (by decide) ?_
    refine e_aload dX11_isOfFamily_52 rfl ?_
    refine x_inst (P := iP_Made) I hok dX11_isOfFamily_53 fi_X11_216_3 fi_X11_216_4 fi_X11_216_5 fi_X11_216_6 fi_X11_216_8 ?_
    exact e_iret dX11_isOfFamily_56 rfl (by first | rfl | exact bI_n _) (qi hq (congrArg bI hfo)) (by decide) (by decide)
set_option maxRecDepth 100000 in
set_option maxHeartbeats 4000000 in
theorem c_X11_is {b0 : Nat} {D : va_G} {dA : Nat → ClassId} {ad : Nat → Nat → Nat} {Q : PQ} {Sm S : St} {f τ : Nat} {t : Nat} (I : Inv S t) (p fm : Int32) (hq : Q (some (.int (F_is S p fm))) (dmW S τ) ad (cw dA ad Sm S f)) : Ct b0 D dA yX11_is cX11_is 3 (some .int) (Rm 2) [.ref (ad 0 0), .int p, .int fm] (dmW S τ) ad (cw dA ad Sm S f) Q := by
  refine ct_of (by decide) (Nat.le_of_ble_eq_true rfl) ?_
  refine e_iload dX11_is_0 rfl ?_
  refine n_callS1 dX11_is_1 ca_X11_162  (c_X11_isPlace _ ?_) 
  refine e_if_eqB dX11_is_4 (fun h4 => ?_) (fun h4 => ?_)
  · refine e_push dX11_is_16 ?_
    exact e_iretI dX11_is_17 rfl (qi hq (by first | (simp [F_is, h4]; done) | (simp [F_is, h13]; done))) (by decide) (by decide)
  · obtain ⟨p, p1, p2, rfl⟩ := inB_l (a := 0) (b := 9) rfl rfl (by decide) (by decide) h4
    have tp : tN (nI p) = p := tN_n (by omega)
    refine e_iload dX11_is_7 rfl ?_
    refine e_push dX11_is_8 ?_
    refine e_push dX11_is_9 ?_
    refine n_callS3 dX11_is_10 ca_X11_78  (c_X11_isIn _ _ _ ?_) 
    refine e_if_neB dX11_is_13 (fun h13 => ?_) (fun h13 => ?_)
    · obtain ⟨fm, f1, f5, rfl⟩ := inB_l (a := 1) (b := 5) rfl rfl (by decide) (by decide) h13
      rw [F_is, if_pos (by rw [h4, h13]; rfl), tp] at hq
      refine e_aload dX11_is_18 rfl ?_
      refine x_get dX11_is_19 fg_X11_37 rfl (show dmW S τ 0 0 from rfl) cw_0 rfl ?_
      refine e_iload dX11_is_22 rfl ?_
      refine x_ald (p) dX11_is_23 rfl (show dmW S τ 1 6 by rw [dmW_1]; decide) rfl rfl rfl (by omega) (by first | decide | omega) (pl_t (by omega)) ?_
      refine e_iload dX11_is_24 rfl ?_
      refine n_callS2 dX11_is_25 ca_X11_183  (c_X11_isOfFamily I _ (I.2.2.2.2.2.2.1.1 p (by omega)) fm f1 f5 ?_) 
      refine e_if_eqB dX11_is_28 (fun h28 => ?_) (fun h28 => ?_)
      · refine e_push dX11_is_35 ?_
        exact e_iretI dX11_is_36 rfl (qi hq (by rw [h28]; rfl)) (by decide) (by decide)
      · refine e_push dX11_is_31 ?_
        refine e_goto dX11_is_32 ?_
        exact e_iretI dX11_is_36 rfl (qi hq (by rw [h28]; rfl)) (by decide) (by decide)
    · refine e_push dX11_is_16 ?_
      exact e_iretI dX11_is_17 rfl (qi hq (by first | (simp [F_is, h4]; done) | (simp [F_is, h13]; done))) (by decide) (by decide)
set_option maxRecDepth 100000 in
set_option maxHeartbeats 4000000 in
theorem c_X7_has {b0 : Nat} {D : va_G} {dA : Nat → ClassId} {ad : Nat → Nat → Nat} {Q : PQ} {Sm S : St} {f τ : Nat} {r : Nat} (hr : r < nR S) (i : Int32) (hq : Q (some (.int (bI (inB i 0 (nI (sz S r) - 1))))) (dmW S τ) ad (cw dA ad Sm S f)) : Ct b0 D dA yX7_has cX7_has 2 (some .boolean) (Rm 1) [.ref (ad 6 r), .int i] (dmW S τ) ad (cw dA ad Sm S f) Q := by
  refine ct_of (by decide) (Nat.le_of_ble_eq_true rfl) ?_
  refine e_iload dX7_has_0 rfl ?_
  refine e_push dX7_has_1 ?_
  refine e_aload dX7_has_2 rfl ?_
  refine x_get dX7_has_3 fg_X7_13 rfl (show dmW S τ 6 r from hr) cw_6 rfl ?_
  refine x_len dX7_has_6 rfl (show dmW S τ 7 r from hr) cw_7 rfl ?_
  refine e_push dX7_has_7 ?_
  refine e_isub dX7_has_8 ?_
  refine n_callSN3 dX7_has_9 ca_X7_9  (c_X11_isIn _ _ _ ?_) 
  exact e_iret dX7_has_12 rfl (by first | rfl | exact bI_n _) hq (by decide) (by decide)
set_option maxRecDepth 100000 in
set_option maxHeartbeats 4000000 in
theorem c_X5_has {b0 : Nat} {D : va_G} {dA : Nat → ClassId} {ad : Nat → Nat → Nat} {Q : PQ} {Sm S : St} {f τ : Nat} {d : Nat} (hd : d < nD S + τ) (hpn : S.2.1 13 d = nI (pN S d)) (p : Int32) (hq : Q (some (.int (bI (inB p 0 (nI (pN S d) - 1))))) (dmW S τ) ad (cw dA ad Sm S f)) : Ct b0 D dA yX5_has cX5_has 2 (some .boolean) (Rm 1) [.ref (ad 8 d), .int p] (dmW S τ) ad (cw dA ad Sm S f) Q := by
  refine ct_of (by decide) (Nat.le_of_ble_eq_true rfl) ?_
  refine e_iload dX5_has_0 rfl ?_
  refine e_push dX5_has_1 ?_
  refine e_aload dX5_has_2 rfl ?_
  refine x_get dX5_has_3 fg_X5_21 rfl (show dmW S τ 8 d from hd) cw_8 rfl ?_
  refine e_push dX5_has_6 ?_
  refine e_isub dX5_has_7 ?_
  rw [hpn]
  refine n_callSN3 dX5_has_8 ca_X5_32  (c_X11_isIn _ _ _ ?_) 
  exact e_iret dX5_has_11 rfl (by first | rfl | exact bI_n _) hq (by decide) (by decide)
set_option maxRecDepth 100000 in
set_option maxHeartbeats 4000000 in
theorem c_X5_isNumber {b0 : Nat} {D : va_G} {dA : Nat → ClassId} {ad : Nat → Nat → Nat} {Q : PQ} {Sm S : St} {f τ : Nat} {d : Nat} (hd : d < nD S + τ) (hs6 : shN S d < 6) (hpn : S.2.1 13 d = nI (pN S d)) (hp5 : pN S d ≤ 5) (p : Int32) (hq : Q (some (.int (bI (inB p 0 (nI (pN S d) - 1) && decide (S.2.1 17 (5 * shN S d + tN p) = 0))))) (dmW S τ) ad (cw dA ad Sm S f)) : Ct b0 D dA yX5_isNumber cX5_isNumber 2 (some .boolean) (Rm 2) [.ref (ad 8 d), .int p] (dmW S τ) ad (cw dA ad Sm S f) Q := by
  refine ct_of (by decide) (Nat.le_of_ble_eq_true rfl) ?_
  refine e_aload dX5_isNumber_0 rfl ?_
  refine e_iload dX5_isNumber_1 rfl ?_
  refine n_callV1 dX5_isNumber_2 ca_X5_36 (show dmW S τ 8 d from hd) cw_8 (c_X5_has hd hpn _ ?_) 
  refine e_if_eqB dX5_isNumber_5 (fun h5 => ?_) (fun h5 => ?_)
  · refine e_push dX5_isNumber_24 ?_
    exact e_iret dX5_isNumber_25 rfl (by first | rfl | exact bI_n _) (qi hq (by first | (rw [h5]; rfl) | (rw [h5, tp, decide_eq_true h17]; rfl) | (rw [h5, tp, decide_eq_false h17]; rfl))) (by decide) (by decide)
  · obtain ⟨p, hp, rfl⟩ := inB_n (by omega) h5
    have tp : tN (nI p) = p := tN_n (by omega)
    refine e_aload dX5_isNumber_8 rfl ?_
    refine x_get dX5_isNumber_9 fg_X5_9 rfl (show dmW S τ 8 d from hd) cw_8 rfl ?_
    refine x_get dX5_isNumber_12 fg_X5_40 rfl (show dmW S τ 11 (shN S d) from hs6) cw_11 rfl ?_
    refine e_iload dX5_isNumber_15 rfl ?_
    refine x_ild (p) dX5_isNumber_16 rfl (show dmW S τ 12 (shN S d) from hs6) cw_12 rfl (by omega) (by omega) ?_
    refine e_topi (show soF S (shN S d) p = S.2.1 17 (5 * shN S d + p) from if_pos (by omega)) ?_
    refine e_if_ne dX5_isNumber_17 (fun h17 => ?_) (fun h17 => ?_)
    · refine e_push dX5_isNumber_24 ?_
      exact e_iret dX5_isNumber_25 rfl (by first | rfl | exact bI_n _) (qi hq (by first | (rw [h5]; rfl) | (rw [h5, tp, decide_eq_true h17]; rfl) | (rw [h5, tp, decide_eq_false h17]; rfl))) (by decide) (by decide)
    · refine e_push dX5_isNumber_20 ?_
      refine e_goto dX5_isNumber_21 ?_
      exact e_iret dX5_isNumber_25 rfl (by first | rfl | exact bI_n _) (qi hq (by first | (rw [h5]; rfl) | (rw [h5, tp, decide_eq_true h17]; rfl) | (rw [h5, tp, decide_eq_false h17]; rfl))) (by decide) (by decide)
set_option maxRecDepth 100000 in
set_option maxHeartbeats 4000000 in
theorem c_X11_item {b0 : Nat} {D : va_G} {dA : Nat → ClassId} {ad : Nat → Nat → Nat} {Q : PQ} {Sm S : St} {f τ : Nat} {t : Nat} (I : Inv S t) (p i w : Int32) (hq : Q (some (.int (F_item S p i w).1)) (dmW (F_item S p i w).2 τ) ad (cw dA ad Sm (F_item S p i w).2 f)) : Ct b0 D dA yX11_item cX11_item 6 (some .int) (Rm 3) [.ref (ad 0 0), .int p, .int i, .int w] (dmW S τ) ad (cw dA ad Sm S f) Q := by
  refine ct_of (by decide) (Nat.le_of_ble_eq_true rfl) ?_
  refine e_aload dX11_item_0 rfl ?_
  refine e_iload dX11_item_1 rfl ?_
  refine n_callV1 dX11_item_2 ca_X11_169 (show dmW S τ 0 0 from rfl) cw_0 (c2_X11_thingAt _ (fun hp0 => ?_) (fun p hp ep hp9 => ?_))
  · skip
    refine e_astore dX11_item_5 ?_
    refine e_aload dX11_item_7 rfl ?_
    refine e_instN dX11_item_9 ?_
    refine e_if_eq dX11_item_12 (fun h12 => ?_) (fun h12 => ?_)
    · refine e_push dX11_item_51 ?_
      exact e_iretI dX11_item_52 rfl (qx hq (by simp [F_item, hp0])) (by decide) (by decide)
    · exact absurd rfl h12
  · subst ep
    have tp : tN (nI p) = p := tN_n (by omega)
    obtain ⟨v, ev⟩ : ∃ v, S.2.1 15 p = v := ⟨_, rfl⟩
    rw [ev]
    have hok : okT S v := ev ▸ I.2.2.2.2.2.2.1.1 p hp
    obtain ⟨hC, hR, hD⟩ := bd512 I
    refine e_astore dX11_item_5 ?_
    refine e_aload dX11_item_7 rfl ?_
    refine x_inst (P := iP_Row) I hok dX11_item_9 fi_X11_166_3 fi_X11_166_4 fi_X11_166_5 fi_X11_166_6 fi_X11_166_8 ?_
    refine e_if_eqB dX11_item_12 (fun h12 => ?_) (fun h12 => ?_)
    · have hf := is_rowN I hok h12
      refine e_push dX11_item_51 ?_
      exact e_iretI dX11_item_52 rfl (qx hq (by first | (rw [F_item, if_neg (by rw [hp9, tp, ev, decide_eq_false hf]; decide)]; done) | (rw [if_neg (by rw [h28]; decide)]; done))) (by decide) (by decide)
    · obtain ⟨hf, r, hr, rfl⟩ := is_row I hok h12
      rw [tr_r (by omega)]
      have tr9 : tN (nI (100 + r)) - 100 = r := by rw [tN_n (by omega)]; omega
      obtain ⟨hs, hs12⟩ := I.2.2.2.1.2.2 r hr
      rw [F_item, if_pos (by rw [hp9, tp, ev, hf]; rfl), tp, ev, tr9, hs] at hq
      refine e_aload dX11_item_15 rfl ?_
      refine x_cast dX11_item_17 fi_X11_166_6 rfl (show dmW S τ 6 r from hr) cw_6 ?_
      refine e_astore dX11_item_20 ?_
      refine e_aload dX11_item_22 rfl ?_
      refine e_iload dX11_item_24 rfl ?_
      refine n_callV1 dX11_item_25 ca_X11_173 (show dmW S τ 6 r from hr) cw_6 (c_X7_has hr _ ?_) 
      refine e_if_eqB dX11_item_28 (fun h28 => ?_) (fun h28 => ?_)
      · refine e_push dX11_item_51 ?_
        exact e_iretI dX11_item_52 rfl (qx hq (by first | (rw [F_item, if_neg (by rw [hp9, tp, ev, decide_eq_false hf]; decide)]; done) | (rw [if_neg (by rw [h28]; decide)]; done))) (by decide) (by decide)
      · rw [if_pos h28] at hq
        obtain ⟨i, hi, rfl⟩ := inB_n (by omega) h28
        refine e_aload dX11_item_31 rfl ?_
        refine x_get dX11_item_33 fg_X11_176 rfl (show dmW S τ 6 r from hr) cw_6 rfl ?_
        refine e_iload dX11_item_36 rfl ?_
        refine x_ild (i) dX11_item_37 rfl (show dmW S τ 7 r from hr) cw_7 rfl hi (by omega) ?_
        refine e_topi (show itF S r i = S.2.1 10 (12 * r + i) from if_pos hi) ?_
        refine e_istore dX11_item_38 ?_
        refine e_aload dX11_item_40 rfl ?_
        refine x_get dX11_item_42 fg_X11_176 rfl (show dmW S τ 6 r from hr) cw_6 rfl ?_
        refine e_iload dX11_item_45 rfl ?_
        refine e_iload dX11_item_46 rfl ?_
        refine w_it i hr (fun r hr => (I.2.2.2.1.2.2 r hr).2) dX11_item_47 rfl hi ?_
        refine e_iload dX11_item_48 rfl ?_
        exact e_iretI dX11_item_50 rfl (qx hq (by rw [tN_n (by omega)])) (by decide) (by decide)
set_option maxRecDepth 100000 in
set_option maxHeartbeats 4000000 in
theorem c_X11_told {b0 : Nat} {D : va_G} {dA : Nat → ClassId} {ad : Nat → Nat → Nat} {Q : PQ} {Sm S : St} {f τ : Nat} {t : Nat} (I : Inv S t) (p q : Int32) (hq : Q (some (.int (F_told S p q))) (dmW S τ) ad (cw dA ad Sm S f)) : Ct b0 D dA yX11_told cX11_told 5 (some .int) (Rm 3) [.ref (ad 0 0), .int p, .int q] (dmW S τ) ad (cw dA ad Sm S f) Q := by
  refine ct_of (by decide) (Nat.le_of_ble_eq_true rfl) ?_
  refine e_aload dX11_told_0 rfl ?_
  refine e_iload dX11_told_1 rfl ?_
  refine n_callV1 dX11_told_2 ca_X11_169 (show dmW S τ 0 0 from rfl) cw_0 (c2_X11_thingAt _ (fun hp0 => ?_) (fun p hp ep hp9 => ?_))
  · skip
    refine e_astore dX11_told_5 ?_
    refine e_aload dX11_told_7 rfl ?_
    refine e_instN dX11_told_9 ?_
    refine e_if_eq dX11_told_12 (fun h12 => ?_) (fun h12 => ?_)
    · refine e_push dX11_told_73 ?_
      exact e_iretI dX11_told_74 rfl (qi hq (by simp [F_told, hp0])) (by decide) (by decide)
    · exact absurd rfl h12
  · subst ep
    have tp : tN (nI p) = p := tN_n (by omega)
    obtain ⟨v, ev⟩ : ∃ v, S.2.1 15 p = v := ⟨_, rfl⟩
    rw [ev]
    have hok : okT S v := ev ▸ I.2.2.2.2.2.2.1.1 p hp
    obtain ⟨hC, hR, hD⟩ := bd512 I
    refine e_astore dX11_told_5 ?_
    refine e_aload dX11_told_7 rfl ?_
    refine x_inst (P := iP_Made) I hok dX11_told_9 fi_X11_216_3 fi_X11_216_4 fi_X11_216_5 fi_X11_216_6 fi_X11_216_8 ?_
    refine e_if_eqB dX11_told_12 (fun h12 => ?_) (fun h12 => ?_)
    · have hf := is_madeN I hok h12
      refine e_push dX11_told_73 ?_
      exact e_iretI dX11_told_74 rfl (qi hq (by first | (rw [F_told, if_neg (by rw [hp9, tp, ev, decide_eq_false hf]; decide)]; done) | (rw [if_neg h24, hpn, if_neg (by rw [h40]; decide)]; done))) (by decide) (by decide)
    · obtain ⟨hf, d, hd, rfl⟩ := is_made I hok h12
      rw [tr_d (by omega)]
      have td : rcN (nI (100000 + d)) = d := rc_n (by omega)
      obtain ⟨hsh, hsh6, hpn, hpm, hpv⟩ := I.2.2.2.2.2.1.2.2 d hd
      have hpm5 := (I.2.2.2.2.1 _ hsh6).2.1
      have hd1 : d < nD S + τ := Nat.lt_of_lt_of_le hd (Nat.le_add_right _ _)
      rw [F_told, if_pos (by rw [hp9, tp, ev, hf]; rfl), tp, ev, td] at hq
      refine e_aload dX11_told_15 rfl ?_
      refine x_cast dX11_told_17 fi_X11_216_4 rfl (show dmW S τ 8 d from hd1) cw_8 ?_
      refine e_astore dX11_told_20 ?_
      refine e_iload dX11_told_21 rfl ?_
      refine e_push dX11_told_22 ?_
      refine e_icmp_ne dX11_told_24 (fun h24 => ?_) (fun h24 => ?_)
      · refine e_aload dX11_told_35 rfl ?_
        refine e_iload dX11_told_36 rfl ?_
        refine n_callV1 dX11_told_37 ca_X11_233 (show dmW S τ 8 d from hd1) cw_8 (c_X5_has hd1 hpn _ ?_) 
        refine e_if_eqB dX11_told_40 (fun h40 => ?_) (fun h40 => ?_)
        · refine e_push dX11_told_73 ?_
          exact e_iretI dX11_told_74 rfl (qi hq (by first | (rw [F_told, if_neg (by rw [hp9, tp, ev, decide_eq_false hf]; decide)]; done) | (rw [if_neg h24, hpn, if_neg (by rw [h40]; decide)]; done))) (by decide) (by decide)
        · obtain ⟨q, hqn, rfl⟩ := inB_n (by omega) h40
          have tq : tN (nI q) = q := tN_n (by omega)
          refine e_aload dX11_told_43 rfl ?_
          refine e_iload dX11_told_44 rfl ?_
          refine n_callV1 dX11_told_45 ca_X11_234 (show dmW S τ 8 d from hd1) cw_8 (c_X5_isNumber hd1 hsh6 hpn (by omega) _ ?_) 
          refine e_if_eqB dX11_told_48 (fun h48 => ?_) (fun h48 => ?_)
          · rw [h40, Bool.true_and, tq] at h48
            have h48 := of_decide_eq_false h48
            have hoq : okT S (S.2.1 14 (5 * d + q)) := by
              rcases hpv q hqn with ⟨z, -⟩ | ⟨z, y⟩
              · exact absurd z h48
              · exact okV_T z y
            refine e_push dX11_told_60 ?_
            refine e_aload dX11_told_62 rfl ?_
            refine x_get dX11_told_63 fg_X11_240 rfl (show dmW S τ 8 d from hd1) cw_8 rfl ?_
            refine e_iload dX11_told_66 rfl ?_
            refine x_ald (q) dX11_told_67 rfl (show dmW S τ 10 d from hd1) cw_10 rfl rfl hqn (by first | decide | omega) (th_t hd hqn h48) ?_
            refine n_callS1 dX11_told_68 ca_X11_179  (cI_X11_familyOf I _ hoq ?_) 
            refine e_iadd dX11_told_71 ?_
            exact e_iretI dX11_told_72 rfl (qi hq (by rw [if_neg h24, hpn, if_pos h40, tq]; first | (rw [if_pos h48]; done) | (rw [if_neg h48, Int32.add_comm, Int32.sub_eq_add_neg]))) (by decide) (by decide)
          · rw [h40, Bool.true_and, tq] at h48
            have h48 := of_decide_eq_true h48
            refine e_aload dX11_told_51 rfl ?_
            refine x_get dX11_told_52 fg_X11_237 rfl (show dmW S τ 8 d from hd1) cw_8 rfl ?_
            refine e_iload dX11_told_55 rfl ?_
            refine x_ild (q) dX11_told_56 rfl (show dmW S τ 9 d from hd1) cw_9 rfl hqn (by omega) ?_
            refine e_topi (nu_t hd hqn h48) ?_
            refine e_goto dX11_told_57 ?_
            exact e_iretI dX11_told_72 rfl (qi hq (by rw [if_neg h24, hpn, if_pos h40, tq]; first | (rw [if_pos h48]; done) | (rw [if_neg h48, Int32.add_comm, Int32.sub_eq_add_neg]))) (by decide) (by decide)
      · refine e_aload dX11_told_27 rfl ?_
        refine x_get dX11_told_28 fg_X11_228 rfl (show dmW S τ 8 d from hd1) cw_8 rfl ?_
        refine x_get dX11_told_31 fg_X11_232 rfl (show dmW S τ 11 (shN S d) from hsh6) cw_11 rfl ?_
        exact e_iretI dX11_told_34 rfl (qi hq (by rw [if_pos h24, hsh])) (by decide) (by decide)
set_option maxRecDepth 100000 in
set_option maxHeartbeats 4000000 in
theorem c_X11_take {b0 : Nat} {D : va_G} {dA : Nat → ClassId} {ad : Nat → Nat → Nat} {Q : PQ} {Sm S : St} {f τ : Nat} {t : Nat} (I : Inv S t) (p q o : Int32) (hq : Q (some (.int (F_take S p q o).1)) (dmW (F_take S p q o).2 τ) ad (cw dA ad Sm (F_take S p q o).2 f)) : Ct b0 D dA yX11_take cX11_take 6 (some .int) (Rm 3) [.ref (ad 0 0), .int p, .int q, .int o] (dmW S τ) ad (cw dA ad Sm S f) Q := by
  refine ct_of (by decide) (Nat.le_of_ble_eq_true rfl) ?_
  refine e_iload dX11_take_0 rfl ?_
  refine n_callS1 dX11_take_1 ca_X11_162  (c_X11_isPlace _ ?_) 
  refine e_if_eqB dX11_take_4 (fun h4 => ?_) (fun h4 => ?_)
  · refine e_push dX11_take_70 ?_
    exact e_iretI dX11_take_71 rfl (qx hq (by simp [F_take, h4])) (by decide) (by decide)
  · obtain ⟨o, o1, o2, rfl⟩ := inB_l (a := 0) (b := 9) rfl rfl (by decide) (by decide) h4
    have to : tN (nI o) = o := tN_n (by omega)
    refine e_aload dX11_take_7 rfl ?_
    refine e_iload dX11_take_8 rfl ?_
    refine n_callV1 dX11_take_9 ca_X11_169 (show dmW S τ 0 0 from rfl) cw_0 (c2_X11_thingAt _ (fun hp0 => ?_) (fun p hp ep hp9 => ?_))
    · skip
      refine e_astore dX11_take_12 ?_
      refine e_aload dX11_take_14 rfl ?_
      refine e_instN dX11_take_16 ?_
      refine e_if_eq dX11_take_19 (fun h19 => ?_) (fun h19 => ?_)
      · refine e_push dX11_take_70 ?_
        exact e_iretI dX11_take_71 rfl (qx hq (by simp [F_take, hp0])) (by decide) (by decide)
      · exact absurd rfl h19
    · subst ep
      have tp : tN (nI p) = p := tN_n (by omega)
      obtain ⟨v, ev⟩ : ∃ v, S.2.1 15 p = v := ⟨_, rfl⟩
      rw [ev]
      have hok : okT S v := ev ▸ I.2.2.2.2.2.2.1.1 p hp
      obtain ⟨hC, hR, hD⟩ := bd512 I
      refine e_astore dX11_take_12 ?_
      refine e_aload dX11_take_14 rfl ?_
      refine x_inst (P := iP_Made) I hok dX11_take_16 fi_X11_216_3 fi_X11_216_4 fi_X11_216_5 fi_X11_216_6 fi_X11_216_8 ?_
      refine e_if_eqB dX11_take_19 (fun h19 => ?_) (fun h19 => ?_)
      · have hf := is_madeN I hok h19
        refine e_push dX11_take_70 ?_
        exact e_iretI dX11_take_71 rfl (qx hq (by first | (rw [F_take, if_neg (by rw [hp9, tp, ev, decide_eq_false hf, h4]; decide)]; done) | (rw [if_neg (by rw [h35, Bool.false_and]; decide)]; done) | (rw [if_neg (by rw [tq, decide_eq_true h44, Bool.not_true, Bool.and_false]; decide)]; done))) (by decide) (by decide)
      · obtain ⟨hf, d, hd, rfl⟩ := is_made I hok h19
        rw [tr_d (by omega)]
        have td : rcN (nI (100000 + d)) = d := rc_n (by omega)
        obtain ⟨hsh, hsh6, hpn, hpm, hpv⟩ := I.2.2.2.2.2.1.2.2 d hd
        have hpm5 := (I.2.2.2.2.1 _ hsh6).2.1
        have hd1 : d < nD S + τ := Nat.lt_of_lt_of_le hd (Nat.le_add_right _ _)
        rw [F_take, if_pos (by rw [hp9, tp, ev, hf, h4]; rfl), tp, ev, td, hpn] at hq
        refine e_aload dX11_take_22 rfl ?_
        refine x_cast dX11_take_24 fi_X11_216_4 rfl (show dmW S τ 8 d from hd1) cw_8 ?_
        refine e_astore dX11_take_27 ?_
        refine e_aload dX11_take_29 rfl ?_
        refine e_iload dX11_take_31 rfl ?_
        refine n_callV1 dX11_take_32 ca_X11_233 (show dmW S τ 8 d from hd1) cw_8 (c_X5_has hd1 hpn _ ?_) 
        refine e_if_eqB dX11_take_35 (fun h35 => ?_) (fun h35 => ?_)
        · refine e_push dX11_take_70 ?_
          exact e_iretI dX11_take_71 rfl (qx hq (by first | (rw [F_take, if_neg (by rw [hp9, tp, ev, decide_eq_false hf, h4]; decide)]; done) | (rw [if_neg (by rw [h35, Bool.false_and]; decide)]; done) | (rw [if_neg (by rw [tq, decide_eq_true h44, Bool.not_true, Bool.and_false]; decide)]; done))) (by decide) (by decide)
        · obtain ⟨q, hqn, rfl⟩ := inB_n (by omega) h35
          have tq : tN (nI q) = q := tN_n (by omega)
          refine e_aload dX11_take_38 rfl ?_
          refine e_iload dX11_take_40 rfl ?_
          refine n_callV1 dX11_take_41 ca_X11_234 (show dmW S τ 8 d from hd1) cw_8 (c_X5_isNumber hd1 hsh6 hpn (by omega) _ ?_) 
          refine e_if_neB dX11_take_44 (fun h44 => ?_) (fun h44 => ?_)
          · rw [h35, Bool.true_and, tq] at h44
            have h44 := of_decide_eq_true h44
            refine e_push dX11_take_70 ?_
            exact e_iretI dX11_take_71 rfl (qx hq (by first | (rw [F_take, if_neg (by rw [hp9, tp, ev, decide_eq_false hf, h4]; decide)]; done) | (rw [if_neg (by rw [h35, Bool.false_and]; decide)]; done) | (rw [if_neg (by rw [tq, decide_eq_true h44, Bool.not_true, Bool.and_false]; decide)]; done))) (by decide) (by decide)
          · rw [h35, Bool.true_and, tq] at h44
            have h44 := of_decide_eq_false h44
            have hoq : okT S (S.2.1 14 (5 * d + q)) := by
              rcases hpv q hqn with ⟨z, -⟩ | ⟨z, y⟩
              · exact absurd z h44
              · exact okV_T z y
            rw [if_pos (by rw [h35, tq, decide_eq_false h44]; rfl), to, tq] at hq
            refine e_aload dX11_take_47 rfl ?_
            refine x_get dX11_take_48 fg_X11_37 rfl (show dmW S τ 0 0 from rfl) cw_0 rfl ?_
            refine e_iload dX11_take_51 rfl ?_
            refine e_aload dX11_take_52 rfl ?_
            refine x_get dX11_take_54 fg_X11_240 rfl (show dmW S τ 8 d from hd1) cw_8 rfl ?_
            refine e_iload dX11_take_57 rfl ?_
            refine x_ald (q) dX11_take_58 rfl (show dmW S τ 10 d from hd1) cw_10 rfl rfl hqn (by first | decide | omega) (th_t hd hqn h44) ?_
            refine w_plT o I hoq dX11_take_59 rfl (by omega) ?_
            refine e_aload dX11_take_60 rfl ?_
            refine x_get dX11_take_61 fg_X11_37 rfl (show dmW S τ 0 0 from rfl) cw_0 rfl ?_
            refine e_iload dX11_take_64 rfl ?_
            refine x_ald (o) dX11_take_65 rfl (show dmW S τ 1 6 by rw [dmW_1]; decide) rfl rfl rfl (by omega) (by first | decide | omega) (pl_w (by omega)) ?_
            refine n_callS1 dX11_take_66 ca_X11_179  (c_X11_familyOf (S := (S.1, u2 S.2.1 15 o (S.2.1 14 (5 * d + q)), S.2.2)) _ hoq (bd512 I).1 (bd512 I).2.1 (bd512 I).2.2 (fun c hc => (I.1.2.2.1 c hc).2.2.1) ?_) 
            exact e_iretI dX11_take_69 rfl (qx hq rfl) (by decide) (by decide)
