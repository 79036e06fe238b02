set_option maxRecDepth 100000 in
set_option maxHeartbeats 4000000 in
theorem c_X11_fillNumber {b0 : Nat} {D : va_G} {dA : Nat → ClassId} {ad : Nat → Nat → Nat} {Q : PQ} {Sm S : St}  {t s r p : Nat} (M : MK S t s r) (hp : p < pmN S s) (hz : S.2.1 17 (5 * s + p) = 0) (hqF : ¬ (tkF S s p r).1 = 0 → Q (some (.int (tkF S s p r).1)) (dmW S 1) ad (cw dA ad Sm S p)) (hqS : (tkF S s p r).1 = 0 → Q (some (.int 0)) (dmW (tkF S s p r).2 1) ad (cw dA ad Sm (tkF S s p r).2 (p + 1))) : Ct b0 D dA yX11_fillNumber cX11_fillNumber 3 (some .int) (Rm 1) [.ref (ad 0 0), .ref (ad 8 r), .int (nI p)] (dmW S 1) ad (cw dA ad Sm S p) Q := by
  obtain ⟨e1, e2, h5, h13, h16⟩ := M.pn
  have hs6 : shN S r < 6 := by rw [e1]; exact M.2.1
  have hr1 : r < nD S + 1 := by have := M.2.2.1; omega
  refine ct_of (by decide) (Nat.le_of_ble_eq_true rfl) ?_
  refine e_aload dX11_fillNumber_0 rfl ?_
  refine x_get dX11_fillNumber_1 fg_X11_47 rfl (show dmW S 1 0 0 from rfl) cw_0 rfl ?_
  refine e_iload dX11_fillNumber_4 rfl ?_
  refine x_ild (p) dX11_fillNumber_5 rfl (show dmW S 1 1 8 by rw [dmW_1]; decide) rfl rfl (by omega) (by omega) ?_
  refine e_push dX11_fillNumber_6 ?_
  refine e_aload dX11_fillNumber_7 rfl ?_
  refine x_get dX11_fillNumber_8 fg_X11_228 rfl (show dmW S 1 8 r from hr1) cw_8 rfl ?_
  refine x_get dX11_fillNumber_11 fg_X11_287 rfl (show dmW S 1 11 (shN S r) from hs6) cw_11 rfl ?_
  refine e_iload dX11_fillNumber_14 rfl ?_
  refine x_ild (p) dX11_fillNumber_15 rfl (show dmW S 1 13 (shN S r) from hs6) cw_13 rfl (by omega) (by omega) ?_
  refine e_topi (show liF S (shN S r) p = S.2.1 18 (5 * s + p) from by rw [e1]; exact if_pos (by omega)) ?_
  refine n_callS3 dX11_fillNumber_16 ca_X11_78  (c_X11_isIn _ _ _ ?_) 
  refine e_if_neB dX11_fillNumber_19 (fun h19 => ?_) (fun h19 => ?_)
  · have hT : tkF S s p r = (0, vaS S r p (S.2.1 23 p)) := by rw [tk_N hz, if_pos h19]
    rw [hT] at hqS
    refine e_aload dX11_fillNumber_24 rfl ?_
    refine x_get dX11_fillNumber_25 fg_X11_237 rfl (show dmW S 1 8 r from hr1) cw_8 rfl ?_
    refine e_iload dX11_fillNumber_28 rfl ?_
    refine e_aload dX11_fillNumber_29 rfl ?_
    refine x_get dX11_fillNumber_30 fg_X11_47 rfl (show dmW S 1 0 0 from rfl) cw_0 rfl ?_
    refine e_iload dX11_fillNumber_33 rfl ?_
    refine x_ild (p) dX11_fillNumber_34 rfl (show dmW S 1 1 8 by rw [dmW_1]; decide) rfl rfl (by omega) (by omega) ?_
    refine w_nu M hp hz dX11_fillNumber_35 rfl ?_
    refine e_push dX11_fillNumber_36 ?_
    exact e_iretI dX11_fillNumber_37 rfl (hqS rfl) (by decide) (by decide)
  · have hT : tkF S s p r = (2, vaS S r p (S.2.1 23 p)) := by rw [tk_N hz, if_neg (by rw [h19]; decide)]
    rw [hT] at hqF
    refine e_push dX11_fillNumber_22 ?_
    exact e_iretI dX11_fillNumber_23 rfl (hqF (show ¬ (2 : Int32) = 0 by decide)) (by decide) (by decide)
set_option maxRecDepth 100000 in
set_option maxHeartbeats 4000000 in
theorem c_X11_fillThing {b0 : Nat} {D : va_G} {dA : Nat → ClassId} {ad : Nat → Nat → Nat} {Q : PQ} {Sm S : St}  {t s r p : Nat} (M : MK S t s r) (hp : p < pmN S s) (hz : ¬ S.2.1 17 (5 * s + p) = 0) (hqF : ¬ (tkF S s p r).1 = 0 → Q (some (.int (tkF S s p r).1)) (dmW S 1) ad (cw dA ad Sm S p)) (hqS : (tkF S s p r).1 = 0 → Q (some (.int 0)) (dmW (tkF S s p r).2 1) ad (cw dA ad Sm (tkF S s p r).2 (p + 1))) : Ct b0 D dA yX11_fillThing cX11_fillThing 6 (some .int) (Rm 3) [.ref (ad 0 0), .ref (ad 8 r), .int (nI p)] (dmW S 1) ad (cw dA ad Sm S p) Q := by
  obtain ⟨e1, e2, h5, h13, h16⟩ := M.pn
  have hs6 : shN S r < 6 := by rw [e1]; exact M.2.1
  have hr1 : r < nD S + 1 := by have := M.2.2.1; omega
  have I := M.1
  obtain ⟨gq, hgq, hge⟩ := I.2.2.2.2.2.2.1.2 p (by omega)
  have hgt : gvT S p = S.2.1 15 gq := by unfold gvT; rw [hge, tN_n (by omega)]
  have hok0 : okT S (gvT S p) := by rw [hgt]; exact I.2.2.2.2.2.2.1.1 gq hgq
  obtain ⟨v, ev⟩ : ∃ v, gvT S p = v := ⟨_, rfl⟩
  have hok : okT S v := ev ▸ hok0
  have hso0 := ((I.2.2.2.2.1 s M.2.1).2.2.2.2.1 p hp).resolve_left hz
  obtain ⟨so, eso⟩ : ∃ so, S.2.1 17 (5 * s + p) = so := ⟨_, rfl⟩
  rw [eso] at hso0
  have hz0 : ¬ so = 0 := eso ▸ hz
  have hso : so = 1 ∨ so = 2 ∨ so = 3 ∨ so = 4 := hso0
  refine ct_of (by decide) (Nat.le_of_ble_eq_true rfl) ?_
  refine e_aload dX11_fillThing_0 rfl ?_
  refine e_aload dX11_fillThing_1 rfl ?_
  refine x_get dX11_fillThing_2 fg_X11_50 rfl (show dmW S 1 0 0 from rfl) cw_0 rfl ?_
  refine e_iload dX11_fillThing_5 rfl ?_
  refine x_ild (p) dX11_fillThing_6 rfl (show dmW S 1 1 9 by rw [dmW_1]; decide) rfl rfl (by omega) (by omega) ?_
  refine e_topi hge ?_
  refine n_callV1 dX11_fillThing_7 ca_X11_169 (show dmW S 1 0 0 from rfl) cw_0 (c_X11_thingAt _ ?_) 
  rw [if_pos (show inB (nI gq) 0 9 = true from inB_ln (a := 0) (b := 9) (by omega) (by omega) (by decide)), tN_n (by omega), ← hgt, ev]
  refine e_astore dX11_fillThing_10 ?_
  refine e_aload dX11_fillThing_11 rfl ?_
  refine x_get dX11_fillThing_12 fg_X11_228 rfl (show dmW S 1 8 r from hr1) cw_8 rfl ?_
  refine x_get dX11_fillThing_15 fg_X11_206 rfl (show dmW S 1 11 (shN S r) from hs6) cw_11 rfl ?_
  refine e_iload dX11_fillThing_18 rfl ?_
  refine x_ild (p) dX11_fillThing_19 rfl (show dmW S 1 12 (shN S r) from hs6) cw_12 rfl (by omega) (by omega) ?_
  refine e_topi (show soF S (shN S r) p = so from by rw [e1]; exact (if_pos (by omega)).trans eso) ?_
  refine e_istore dX11_fillThing_20 ?_
  refine e_lvA (l := [some (.ref (ad 0 0)), some (.ref (ad 8 r)), some (.int (nI p)), some (va_rf (tr ad v)), some (.int so)]) ?_ (by rcases tr ad v with _ | _ <;> exact ⟨rfl, rfl, rfl, rfl, rfl, trivial⟩)
  refine e_aload dX11_fillThing_22 rfl ?_
  refine e_ifnull dX11_fillThing_23 (fun h23 => ?_) (fun a23 h23 => ?_)
  · have hf0 : famF S v = 0 := by rw [tr_n h23]; exact fam_0
    have hcs : famF S v = 0 ∨ casB so (famF S v) = true := Or.inl hf0
    refine e_aload dX11_fillThing_37 rfl ?_
    refine e_iload dX11_fillThing_38 rfl ?_
    refine e_aload dX11_fillThing_40 rfl ?_
    refine x_get dX11_fillThing_41 fg_X11_228 rfl (show dmW S 1 8 r from hr1) cw_8 rfl ?_
    refine x_get dX11_fillThing_44 fg_X11_287 rfl (show dmW S 1 11 (shN S r) from hs6) cw_11 rfl ?_
    refine e_iload dX11_fillThing_47 rfl ?_
    refine x_ild (p) dX11_fillThing_48 rfl (show dmW S 1 13 (shN S r) from hs6) cw_13 rfl (by omega) (by omega) ?_
    refine e_topi (show liF S (shN S r) p = S.2.1 18 (5 * s + p) from by rw [e1]; exact if_pos (by omega)) ?_
    refine n_callS3 dX11_fillThing_49 ca_X11_293  (c_X11_isForeign I v so _ hok hso hcs ?_) 
    refine e_if_eqB dX11_fillThing_52 (fun h52 => ?_) (fun h52 => ?_)
    · refine e_aload dX11_fillThing_57 rfl ?_
      refine x_inst (P := iP_Constant) I hok dX11_fillThing_58 fi_X11_9_3 fi_X11_9_4 fi_X11_9_5 fi_X11_9_6 fi_X11_9_8 ?_
      refine e_if_eqB dX11_fillThing_61 (fun h61 => ?_) (fun h61 => ?_)
      · have hT : tkF S s p r = (0, vaS S r p v) := tk_B ev eso hz0 hcs h52 (so_B I hok h61 hso hcs)
        rw [hT] at hqS
        refine e_aload dX11_fillThing_76 rfl ?_
        refine x_get dX11_fillThing_77 fg_X11_240 rfl (show dmW S 1 8 r from hr1) cw_8 rfl ?_
        refine e_iload dX11_fillThing_80 rfl ?_
        refine e_aload dX11_fillThing_81 rfl ?_
        refine w_th M hok hp hz dX11_fillThing_82 rfl ?_
        refine e_push dX11_fillThing_83 ?_
        exact e_iretI dX11_fillThing_84 rfl (hqS rfl) (by decide) (by decide)
      · obtain ⟨hfm, c, hc, rfl⟩ := is_con I hok h61
        have h60 := I.1.2.1
        obtain ⟨hk, hk6, -⟩ := I.1.2.2.1 c hc
        obtain ⟨g1, g2, g3⟩ := so_A I hok hfm hso hcs
        have hT : tkF S s p r = (0, vaS (stS S (tN (nI c))) r p (nI c)) := tk_A ev eso hz0 g1 g2 h52 g3
        rw [tN_n (by omega)] at hT
        rw [hT] at hqS
        rw [tr_c (by omega)]
        refine e_aload dX11_fillThing_64 rfl ?_
        refine x_cast dX11_fillThing_65 (fi_cb fi_X11_9_3 fi_X11_9_5 fi_X11_9_8) rfl (show dmW S 1 4 c from hc) cw_4 ?_
        refine e_astore dX11_fillThing_68 ?_
        refine e_aload dX11_fillThing_70 rfl ?_
        refine e_aload dX11_fillThing_71 rfl ?_
        refine n_callV1 dX11_fillThing_73 ca_X11_140 (show dmW S 1 0 0 from rfl) cw_0 (c_X11_use hc hk hk6 ?_) 
        refine e_aload dX11_fillThing_76 rfl ?_
        refine x_get dX11_fillThing_77 fg_X11_240 rfl (show dmW (stS S c) 1 8 r from hr1) cw_8 rfl ?_
        refine e_iload dX11_fillThing_80 rfl ?_
        refine e_aload dX11_fillThing_81 rfl ?_
        refine e_st (st' := [va_rf (tr ad (nI c)), .int (nI p), .ref (ad 10 r)]) (by rw [tr_c (by omega)]; rfl) ?_
        refine w_th (S := stS S c) M.st (Or.inr (Or.inl ⟨c, hc, rfl⟩)) hp hz dX11_fillThing_82 rfl ?_
        refine e_push dX11_fillThing_83 ?_
        exact e_iretI dX11_fillThing_84 rfl (hqS rfl) (by decide) (by decide)
    · have hT : tkF S s p r = (2, vaS S r p v) := tk_O ev eso hz0 hcs h52
      rw [hT] at hqF
      refine e_push dX11_fillThing_55 ?_
      exact e_iretI dX11_fillThing_56 rfl (hqF (show ¬ (2 : Int32) = 0 by decide)) (by decide) (by decide)
  · have hf0 : ¬ famF S v = 0 := fam_nz I hok (tr_s h23)
    refine e_aload dX11_fillThing_26 rfl ?_
    refine e_iload dX11_fillThing_27 rfl ?_
    refine n_callS2 dX11_fillThing_29 ca_X11_290  (c_X11_isOfSort I v so hok hf0 hso ?_) 
    refine e_if_neB dX11_fillThing_32 (fun h32 => ?_) (fun h32 => ?_)
    · have hcs : famF S v = 0 ∨ casB so (famF S v) = true := Or.inr h32
      refine e_aload dX11_fillThing_37 rfl ?_
      refine e_iload dX11_fillThing_38 rfl ?_
      refine e_aload dX11_fillThing_40 rfl ?_
      refine x_get dX11_fillThing_41 fg_X11_228 rfl (show dmW S 1 8 r from hr1) cw_8 rfl ?_
      refine x_get dX11_fillThing_44 fg_X11_287 rfl (show dmW S 1 11 (shN S r) from hs6) cw_11 rfl ?_
      refine e_iload dX11_fillThing_47 rfl ?_
      refine x_ild (p) dX11_fillThing_48 rfl (show dmW S 1 13 (shN S r) from hs6) cw_13 rfl (by omega) (by omega) ?_
      refine e_topi (show liF S (shN S r) p = S.2.1 18 (5 * s + p) from by rw [e1]; exact if_pos (by omega)) ?_
      refine n_callS3 dX11_fillThing_49 ca_X11_293  (c_X11_isForeign I v so _ hok hso hcs ?_) 
      refine e_if_eqB dX11_fillThing_52 (fun h52 => ?_) (fun h52 => ?_)
      · refine e_aload dX11_fillThing_57 rfl ?_
        refine x_inst (P := iP_Constant) I hok dX11_fillThing_58 fi_X11_9_3 fi_X11_9_4 fi_X11_9_5 fi_X11_9_6 fi_X11_9_8 ?_
        refine e_if_eqB dX11_fillThing_61 (fun h61 => ?_) (fun h61 => ?_)
        · have hT : tkF S s p r = (0, vaS S r p v) := tk_B ev eso hz0 hcs h52 (so_B I hok h61 hso hcs)
          rw [hT] at hqS
          refine e_aload dX11_fillThing_76 rfl ?_
          refine x_get dX11_fillThing_77 fg_X11_240 rfl (show dmW S 1 8 r from hr1) cw_8 rfl ?_
          refine e_iload dX11_fillThing_80 rfl ?_
          refine e_aload dX11_fillThing_81 rfl ?_
          refine w_th M hok hp hz dX11_fillThing_82 rfl ?_
          refine e_push dX11_fillThing_83 ?_
          exact e_iretI dX11_fillThing_84 rfl (hqS rfl) (by decide) (by decide)
        · obtain ⟨hfm, c, hc, rfl⟩ := is_con I hok h61
          have h60 := I.1.2.1
          obtain ⟨hk, hk6, -⟩ := I.1.2.2.1 c hc
          obtain ⟨g1, g2, g3⟩ := so_A I hok hfm hso hcs
          have hT : tkF S s p r = (0, vaS (stS S (tN (nI c))) r p (nI c)) := tk_A ev eso hz0 g1 g2 h52 g3
          rw [tN_n (by omega)] at hT
          rw [hT] at hqS
          rw [tr_c (by omega)]
          refine e_aload dX11_fillThing_64 rfl ?_
          refine x_cast dX11_fillThing_65 (fi_cb fi_X11_9_3 fi_X11_9_5 fi_X11_9_8) rfl (show dmW S 1 4 c from hc) cw_4 ?_
          refine e_astore dX11_fillThing_68 ?_
          refine e_aload dX11_fillThing_70 rfl ?_
          refine e_aload dX11_fillThing_71 rfl ?_
          refine n_callV1 dX11_fillThing_73 ca_X11_140 (show dmW S 1 0 0 from rfl) cw_0 (c_X11_use hc hk hk6 ?_) 
          refine e_aload dX11_fillThing_76 rfl ?_
          refine x_get dX11_fillThing_77 fg_X11_240 rfl (show dmW (stS S c) 1 8 r from hr1) cw_8 rfl ?_
          refine e_iload dX11_fillThing_80 rfl ?_
          refine e_aload dX11_fillThing_81 rfl ?_
          refine e_st (st' := [va_rf (tr ad (nI c)), .int (nI p), .ref (ad 10 r)]) (by rw [tr_c (by omega)]; rfl) ?_
          refine w_th (S := stS S c) M.st (Or.inr (Or.inl ⟨c, hc, rfl⟩)) hp hz dX11_fillThing_82 rfl ?_
          refine e_push dX11_fillThing_83 ?_
          exact e_iretI dX11_fillThing_84 rfl (hqS rfl) (by decide) (by decide)
      · have hT : tkF S s p r = (2, vaS S r p v) := tk_O ev eso hz0 hcs h52
        rw [hT] at hqF
        refine e_push dX11_fillThing_55 ?_
        exact e_iretI dX11_fillThing_56 rfl (hqF (show ¬ (2 : Int32) = 0 by decide)) (by decide) (by decide)
    · have hT : tkF S s p r = (1, vaS S r p v) := tk_C ev eso hz0 hf0 h32
      rw [hT] at hqF
      refine e_push dX11_fillThing_35 ?_
      exact e_iretI dX11_fillThing_36 rfl (hqF (show ¬ (1 : Int32) = 0 by decide)) (by decide) (by decide)
set_option maxRecDepth 100000 in
set_option maxHeartbeats 4000000 in
theorem l_X11_fillParts {b0 : Nat} {D : va_G} {dA : Nat → ClassId} {ad : Nat → Nat → Nat} {Q : PQ} {Sm : St} {t s r : Nat} : ∀ k p S, MK S t s r → p + k = pmN S s → (∀ f', ((fil s r k p S).1 = 0 → f' = p + k) → Q (some (.int (fil s r k p S).1)) (dmW (fil s r k p S).2 1) ad (cw dA ad Sm (fil s r k p S).2 f')) → E b0 D dA yX11_fillParts cX11_fillParts 4 (some .int) (Rm 4) E0 (QFm b0 D dA (Rm 4) Q) 2 (lfA [some (.ref (ad 0 0)), some (.ref (ad 8 r)), some (.int (nI p))]) [] (dmW S 1) ad (cw dA ad Sm S p) 0 0 := by
  intro k
  induction k with
  | zero =>
    intro p S M hi hq
    obtain ⟨e1, e2, h5, h13, h16⟩ := M.pn
    have hs6 : shN S r < 6 := by rw [e1]; exact M.2.1
    have hr1 : r < nD S + 1 := by have := M.2.2.1; omega
    refine e_iload dX11_fillParts_2 rfl ?_
    refine e_aload dX11_fillParts_3 rfl ?_
    refine x_get dX11_fillParts_4 fg_X11_279 rfl (show dmW S 1 8 r from hr1) cw_8 rfl ?_
    refine e_topi h13 ?_
    refine e_icmp_ge dX11_fillParts_7 (fun h7 => ?_) (fun h7 => ?_)
    · refine e_push dX11_fillParts_51 ?_
      exact e_iretI dX11_fillParts_52 rfl (hq p (fun _ => rfl)) (by decide) (by decide)
    · exact absurd (nI_le (by omega) (by omega)) h7
  | succ k ih =>
    intro p S M hi hq
    obtain ⟨e1, e2, h5, h13, h16⟩ := M.pn
    have hs6 : shN S r < 6 := by rw [e1]; exact M.2.1
    have hr1 : r < nD S + 1 := by have := M.2.2.1; omega
    have hp : p < pmN S s := by omega
    refine e_iload dX11_fillParts_2 rfl ?_
    refine e_aload dX11_fillParts_3 rfl ?_
    refine x_get dX11_fillParts_4 fg_X11_279 rfl (show dmW S 1 8 r from hr1) cw_8 rfl ?_
    refine e_topi h13 ?_
    refine e_icmp_ge dX11_fillParts_7 (fun h7 => ?_) (fun h7 => ?_)
    · exact absurd h7 (nI_ge (by omega) (by omega))
    · refine e_aload dX11_fillParts_10 rfl ?_
      refine e_iload dX11_fillParts_11 rfl ?_
      refine n_callV1 dX11_fillParts_12 ca_X11_234 (show dmW S 1 8 r from hr1) cw_8 (c_X5_isNumber hr1 hs6 h13 (by omega) _ ?_) 
      refine e_if_eqB dX11_fillParts_15 (fun h15 => ?_) (fun h15 => ?_)
      · rw [show inB (nI p) 0 (nI (pN S r) - 1) = true from inB_nN (by omega) (by omega), Bool.true_and, tN_n (by omega), e1] at h15
        have hz := of_decide_eq_false h15
        refine e_aload dX11_fillParts_27 rfl ?_
        refine e_aload dX11_fillParts_28 rfl ?_
        refine e_iload dX11_fillParts_29 rfl ?_
        refine n_callV2 dX11_fillParts_30 ca_X11_284 (show dmW S 1 0 0 from rfl) cw_0 (c_X11_fillThing M hp hz (fun hw => ?_) (fun hw => ?_))
        · obtain ⟨v, ev⟩ := tk_f hw
          rw [fil, if_neg hw, ev] at hq
          refine e_istore dX11_fillParts_33 ?_
          refine e_iload dX11_fillParts_34 rfl ?_
          refine e_if_eq dX11_fillParts_35 (fun h35 => ?_) (fun h35 => ?_)
          · exact absurd h35 hw
          · refine e_aload dX11_fillParts_38 rfl ?_
            refine e_iload dX11_fillParts_39 rfl ?_
            refine w_put12 dX11_fillParts_40 fp_X11_59 ?_
            refine e_conv (va_cvF (v := v) (S := (u1 S.1 26 (nI p), S.2)) M.u26 hp) ?_
            refine e_iload dX11_fillParts_43 rfl ?_
            exact e_iretI dX11_fillParts_44 rfl (hq p (fun z => absurd z hw)) (by decide) (by decide)
        · rw [fil, if_pos hw] at hq
          have hM := M.tk (p := p) (by omega)
          have hpm : pmN (tkF S s p r).2 s = pmN S s := by unfold pmN; rw [tk_o (by decide) (by decide)]
          refine e_istore dX11_fillParts_33 ?_
          refine e_iload dX11_fillParts_34 rfl ?_
          refine e_if_eq dX11_fillParts_35 (fun h35 => ?_) (fun h35 => ?_)
          · refine e_iinc dX11_fillParts_45 rfl (inc1 p) ?_
            refine e_goto dX11_fillParts_48 ?_
            exact e_lvA (ih (p + 1) (tkF S s p r).2 hM (by omega) (fun f' hf' => hq f' (fun z => (hf' z).trans (by omega)))) ⟨rfl, rfl, rfl, trivial⟩
          · exact absurd rfl h35
      · rw [show inB (nI p) 0 (nI (pN S r) - 1) = true from inB_nN (by omega) (by omega), Bool.true_and, tN_n (by omega), e1] at h15
        have hz := of_decide_eq_true h15
        refine e_aload dX11_fillParts_18 rfl ?_
        refine e_aload dX11_fillParts_19 rfl ?_
        refine e_iload dX11_fillParts_20 rfl ?_
        refine n_callV2 dX11_fillParts_21 ca_X11_280 (show dmW S 1 0 0 from rfl) cw_0 (c_X11_fillNumber M hp hz (fun hw => ?_) (fun hw => ?_))
        · obtain ⟨v, ev⟩ := tk_f hw
          rw [fil, if_neg hw, ev] at hq
          refine e_goto dX11_fillParts_24 ?_
          refine e_istore dX11_fillParts_33 ?_
          refine e_iload dX11_fillParts_34 rfl ?_
          refine e_if_eq dX11_fillParts_35 (fun h35 => ?_) (fun h35 => ?_)
          · exact absurd h35 hw
          · refine e_aload dX11_fillParts_38 rfl ?_
            refine e_iload dX11_fillParts_39 rfl ?_
            refine w_put12 dX11_fillParts_40 fp_X11_59 ?_
            refine e_conv (va_cvF (v := v) (S := (u1 S.1 26 (nI p), S.2)) M.u26 hp) ?_
            refine e_iload dX11_fillParts_43 rfl ?_
            exact e_iretI dX11_fillParts_44 rfl (hq p (fun z => absurd z hw)) (by decide) (by decide)
        · rw [fil, if_pos hw] at hq
          have hM := M.tk (p := p) (by omega)
          have hpm : pmN (tkF S s p r).2 s = pmN S s := by unfold pmN; rw [tk_o (by decide) (by decide)]
          refine e_goto dX11_fillParts_24 ?_
          refine e_istore dX11_fillParts_33 ?_
          refine e_iload dX11_fillParts_34 rfl ?_
          refine e_if_eq dX11_fillParts_35 (fun h35 => ?_) (fun h35 => ?_)
          · refine e_iinc dX11_fillParts_45 rfl (inc1 p) ?_
            refine e_goto dX11_fillParts_48 ?_
            exact e_lvA (ih (p + 1) (tkF S s p r).2 hM (by omega) (fun f' hf' => hq f' (fun z => (hf' z).trans (by omega)))) ⟨rfl, rfl, rfl, trivial⟩
          · exact absurd rfl h35
set_option maxRecDepth 100000 in
set_option maxHeartbeats 4000000 in
theorem c_X11_fillParts {b0 : Nat} {D : va_G} {dA : Nat → ClassId} {ad : Nat → Nat → Nat} {Q : PQ} {Sm S : St}  {t s r : Nat} (M : MK S t s r) (hq : ∀ f', ((fil s r (pmN S s) 0 S).1 = 0 → f' = pmN S s) → Q (some (.int (fil s r (pmN S s) 0 S).1)) (dmW (fil s r (pmN S s) 0 S).2 1) ad (cw dA ad Sm (fil s r (pmN S s) 0 S).2 f')) : Ct b0 D dA yX11_fillParts cX11_fillParts 4 (some .int) (Rm 4) [.ref (ad 0 0), .ref (ad 8 r)] (dmW S 1) ad (cw dA ad Sm S 0) Q := by
  refine ct_of (by decide) (Nat.le_of_ble_eq_true rfl) ?_
  refine e_push dX11_fillParts_0 ?_
  refine e_istore dX11_fillParts_1 ?_
  exact e_lvA (l_X11_fillParts (pmN S s) 0 S M (by omega) (fun f' hf' => hq f' (fun z => (hf' z).trans (by omega)))) ⟨rfl, rfl, rfl, trivial⟩
theorem ck_0 {S : St} {a b : Int32} : ckF S 0 a b = if a ≤ b then 0 else 2 := rfl
theorem ck_hyp {S : St} {t s r c : Nat} (M : MK S t s r) (hc : c < cmN S s) (ho : ∀ p, p < pmN S s → okP S s r p) : ∃ a b q, a < pmN S s ∧ b < pmN S s ∧ q < 2 ^ 31 ∧ S.2.1 21 (4 * s + c) = nI a ∧ S.2.1 22 (4 * s + c) = nI b ∧ S.2.1 17 (5 * s + b) = 0 ∧ S.2.1 14 (5 * r + b) = nI q ∧ ckA S s r c = ckF S (S.2.1 20 (4 * s + c)) (S.2.1 14 (5 * r + a)) (nI q) ∧
    ((S.2.1 20 (4 * s + c) = 0 ∧ S.2.1 17 (5 * s + a) = 0) ∨ (S.2.1 20 (4 * s + c) = 1 ∧ S.2.1 17 (5 * s + a) = 0) ∨ (S.2.1 20 (4 * s + c) = 2 ∧ ¬ S.2.1 17 (5 * s + a) = 0 ∧ (S.2.1 14 (5 * r + a) = -1 ∨ ∃ r', r' < nR S ∧ S.2.1 14 (5 * r + a) = nI (100 + r'))) ∨ (S.2.1 20 (4 * s + c) = 3 ∧ ¬ S.2.1 17 (5 * s + a) = 0 ∧ (S.2.1 14 (5 * r + a) = -1 ∨ ∃ r', r' < nR S ∧ S.2.1 14 (5 * r + a) = nI (100 + r'))) ∨ (S.2.1 20 (4 * s + c) = 4 ∧ ¬ S.2.1 17 (5 * s + a) = 0 ∧ (S.2.1 14 (5 * r + a) = -1 ∨ ∃ c', c' < nC S ∧ S.2.1 14 (5 * r + a) = nI c')) ∨ (S.2.1 20 (4 * s + c) = 5 ∧ ¬ S.2.1 17 (5 * s + a) = 0 ∧ (S.2.1 14 (5 * r + a) = -1 ∨ ∃ d', d' < nD S ∧ S.2.1 14 (5 * r + a) = nI (100000 + d')))) := by
  have I := M.1
  have h5 := M.pn.2.2.1
  obtain ⟨a, b, ha, hb, ea, eb, hb0, hk⟩ := (I.2.2.2.2.1 s M.2.1).2.2.2.2.2 c hc
  obtain ⟨q, hq, eq⟩ : ∃ q, q < 2 ^ 31 ∧ S.2.1 14 (5 * r + b) = nI q := by
    rcases ho b hb with z | z
    · exact z.2
    · exact absurd hb0 z.1
  refine ⟨a, b, q, ha, hb, hq, ea, eb, hb0, eq, ?_, ?_⟩
  · unfold ckA; rw [ea, eb, tN_n (by omega), tN_n (by omega), eq]
  · have hck := ck_k (ho a ha) hk
    rcases hk with ⟨z, y⟩ | ⟨z, y⟩ | ⟨z, y⟩ | ⟨z, y⟩ | ⟨z, y⟩ | ⟨z, y⟩
    · exact Or.inl ⟨z, y⟩
    · exact Or.inr (Or.inl ⟨z, y⟩)
    · rw [z] at hck
      rcases hck with w | w | ⟨-, w⟩ | ⟨w, -⟩ | ⟨w, -⟩
      · exact absurd w (by decide)
      · exact absurd w (by decide)
      · exact Or.inr (Or.inr (Or.inl ⟨z, by rw [y]; decide, w⟩))
      · exact absurd w (by decide)
      · exact absurd w (by decide)
    · rw [z] at hck
      rcases hck with w | w | ⟨-, w⟩ | ⟨w, -⟩ | ⟨w, -⟩
      · exact absurd w (by decide)
      · exact absurd w (by decide)
      · exact Or.inr (Or.inr (Or.inr (Or.inl ⟨z, by rw [y]; decide, w⟩)))
      · exact absurd w (by decide)
      · exact absurd w (by decide)
    · rw [z] at hck
      rcases hck with w | w | ⟨w, -⟩ | ⟨-, w⟩ | ⟨w, -⟩
      · exact absurd w (by decide)
      · exact absurd w (by decide)
      · exact absurd w (by decide)
      · exact Or.inr (Or.inr (Or.inr (Or.inr (Or.inl ⟨z, by rcases y with y | y <;> rw [y] <;> decide, w⟩))))
      · exact absurd w (by decide)
    · rw [z] at hck
      rcases hck with w | w | ⟨w, -⟩ | ⟨w, -⟩ | ⟨-, w⟩
      · exact absurd w (by decide)
      · exact absurd w (by decide)
      · exact absurd w (by decide)
      · exact absurd w (by decide)
      · exact Or.inr (Or.inr (Or.inr (Or.inr (Or.inr ⟨z, by rw [y]; decide, w⟩))))
set_option maxRecDepth 100000 in
set_option maxHeartbeats 4000000 in
theorem c_X1_failureOf {b0 : Nat} {D : va_G} {dA : Nat → ClassId} {ad : Nat → Nat → Nat} {Q : PQ} {Sm S : St}  {t s r : Nat} (M : MK S t s r) (ho : ∀ p, p < pmN S s → okP S s r p) {c : Nat} (hc : c < cmN S s) (hq : Q (some (.int (ckA S s r c))) (dmW S 1) ad (cw dA ad Sm S (pmN S s))) : Ct b0 D dA yX1_failureOf cX1_failureOf 3 (some .int) (Rm 4) [.ref (ad 15 (4 * s + c)), .ref (ad 8 r)] (dmW S 1) ad (cw dA ad Sm S (pmN S s)) Q := by
  obtain ⟨e1, e2, h5, h13, h16⟩ := M.pn
  have hs6 : shN S r < 6 := by rw [e1]; exact M.2.1
  have hr1 : r < nD S + 1 := by have := M.2.2.1; omega
  have I := M.1
  have hs := M.2.1
  have hc4 := (I.2.2.2.2.1 s hs).2.2.2.1
  have hx15 : 4 * s + c < 24 ∧ (4 * s + c) % 4 < cmN S ((4 * s + c) / 4) := by
    rw [show (4 * s + c) / 4 = s by omega, show (4 * s + c) % 4 = c by omega]; omega
  obtain ⟨a, b, q, ha, hb, hq31, ea, eb, hb0, eq14, eA, hkd⟩ := ck_hyp M hc ho
  rw [eA] at hq
  obtain ⟨va, eva⟩ : ∃ va, S.2.1 14 (5 * r + a) = va := ⟨_, rfl⟩
  rw [eva] at hq hkd
  refine ct_of (by decide) (Nat.le_of_ble_eq_true rfl) ?_
  refine e_aload dX1_failureOf_0 rfl ?_
  refine e_aload dX1_failureOf_1 rfl ?_
  refine x_get dX1_failureOf_2 fg_X1_15 rfl (show dmW S 1 15 (4 * s + c) from hx15) cw_15 rfl ?_
  refine e_topi ea ?_
  refine n_callV1 dX1_failureOf_5 ca_X1_21 (show dmW S 1 8 r from hr1) cw_8 (c_X5_has hr1 h13 _ ?_) 
  refine e_if_eqB dX1_failureOf_8 (fun h8 => ?_) (fun h8 => ?_)
  · exact absurd (inB_nN (by omega) (show a < pN S r by omega)) (by rw [h8]; decide)
  · refine e_aload dX1_failureOf_11 rfl ?_
    refine e_aload dX1_failureOf_12 rfl ?_
    refine x_get dX1_failureOf_13 fg_X1_18 rfl (show dmW S 1 15 (4 * s + c) from hx15) cw_15 rfl ?_
    refine e_topi eb ?_
    refine n_callV1 dX1_failureOf_16 ca_X1_21 (show dmW S 1 8 r from hr1) cw_8 (c_X5_has hr1 h13 _ ?_) 
    refine e_if_neB dX1_failureOf_19 (fun h19 => ?_) (fun h19 => ?_)
    · refine e_aload dX1_failureOf_24 rfl ?_
      refine x_get dX1_failureOf_25 fg_X1_27 rfl (show dmW S 1 8 r from hr1) cw_8 rfl ?_
      refine e_aload dX1_failureOf_28 rfl ?_
      refine x_get dX1_failureOf_29 fg_X1_18 rfl (show dmW S 1 15 (4 * s + c) from hx15) cw_15 rfl ?_
      refine e_topi eb ?_
      refine x_ild (b) dX1_failureOf_32 rfl (show dmW S 1 9 r from hr1) cw_9 rfl (by omega) (by omega) ?_
      refine e_topi (show nuF S (pmN S s) r b = nI q from (nu_r M hb hb0).trans eq14) ?_
      refine e_istore dX1_failureOf_33 ?_
      refine e_aload dX1_failureOf_34 rfl ?_
      refine x_get dX1_failureOf_35 fg_X1_9 rfl (show dmW S 1 15 (4 * s + c) from hx15) cw_15 rfl ?_
      rcases hkd with ⟨hkd, hz⟩ | ⟨hkd, hz⟩ | ⟨hkd, hz, hva⟩ | ⟨hkd, hz, hva⟩ | ⟨hkd, hz, hva⟩ | ⟨hkd, hz, hva⟩
      · refine e_topi hkd ?_
        rw [hkd] at hq
        refine e_tab (off := 34) (t := 72) dX1_failureOf_38 (by decide) (by decide) (by decide) (by decide) ?_
        refine e_aload dX1_failureOf_72 rfl ?_
        refine x_get dX1_failureOf_73 fg_X1_27 rfl (show dmW S 1 8 r from hr1) cw_8 rfl ?_
        refine e_aload dX1_failureOf_76 rfl ?_
        refine x_get dX1_failureOf_77 fg_X1_15 rfl (show dmW S 1 15 (4 * s + c) from hx15) cw_15 rfl ?_
        refine e_topi ea ?_
        refine x_ild (a) dX1_failureOf_80 rfl (show dmW S 1 9 r from hr1) cw_9 rfl (by omega) (by omega) ?_
        refine e_topi (show nuF S (pmN S s) r a = va from (nu_r M ha hz).trans eva) ?_
        refine e_iload dX1_failureOf_81 rfl ?_
        refine e_icmp_gt dX1_failureOf_82 (fun h82 => ?_) (fun h82 => ?_)
        · refine e_push dX1_failureOf_89 ?_
          refine n_callS1 dX1_failureOf_90 ca_X1_31  (c_X1_ownUnless _ ?_) 
          exact e_iretI dX1_failureOf_93 rfl (qi hq (by first | (rw [ck_0, if_neg (Int32.not_le.mpr h82)]; rfl) | (rw [ck_0, if_pos (Int32.not_lt.mp h82)]; rfl))) (by decide) (by decide)
        · refine e_push dX1_failureOf_85 ?_
          refine e_goto dX1_failureOf_86 ?_
          refine n_callS1 dX1_failureOf_90 ca_X1_31  (c_X1_ownUnless _ ?_) 
          exact e_iretI dX1_failureOf_93 rfl (qi hq (by first | (rw [ck_0, if_neg (Int32.not_le.mpr h82)]; rfl) | (rw [ck_0, if_pos (Int32.not_lt.mp h82)]; rfl))) (by decide) (by decide)
      · refine e_topi hkd ?_
        rw [hkd] at hq
        refine e_tab (off := 56) (t := 94) dX1_failureOf_38 (by decide) (by decide) (by decide) (by decide) ?_
        refine e_aload dX1_failureOf_94 rfl ?_
        refine x_get dX1_failureOf_95 fg_X1_27 rfl (show dmW S 1 8 r from hr1) cw_8 rfl ?_
        refine e_aload dX1_failureOf_98 rfl ?_
        refine x_get dX1_failureOf_99 fg_X1_15 rfl (show dmW S 1 15 (4 * s + c) from hx15) cw_15 rfl ?_
        refine e_topi ea ?_
        refine x_ild (a) dX1_failureOf_102 rfl (show dmW S 1 9 r from hr1) cw_9 rfl (by omega) (by omega) ?_
        refine e_topi (show nuF S (pmN S s) r a = va from (nu_r M ha hz).trans eva) ?_
        refine e_iload dX1_failureOf_103 rfl ?_
        refine n_callS2 dX1_failureOf_104 ca_X1_35  (c_X1_divisionFailure _ _ ?_) 
        exact e_iretI dX1_failureOf_107 rfl (qi hq rfl) (by decide) (by decide)
      · refine e_topi hkd ?_
        rw [hkd] at hq
        refine e_tab (off := 70) (t := 108) dX1_failureOf_38 (by decide) (by decide) (by decide) (by decide) ?_
        refine e_aload dX1_failureOf_108 rfl ?_
        refine x_get dX1_failureOf_109 fg_X1_39 rfl (show dmW S 1 8 r from hr1) cw_8 rfl ?_
        refine e_aload dX1_failureOf_112 rfl ?_
        refine x_get dX1_failureOf_113 fg_X1_15 rfl (show dmW S 1 15 (4 * s + c) from hx15) cw_15 rfl ?_
        refine e_topi ea ?_
        refine x_ald (a) dX1_failureOf_116 rfl (show dmW S 1 10 r from hr1) cw_10 rfl rfl (by omega) (by first | decide | omega) ((th_r M ha hz).trans (congrArg (tr ad) eva)) ?_
        refine e_iload dX1_failureOf_117 rfl ?_
        refine n_callS2 dX1_failureOf_118 ca_X1_43  (c_X1_itemFailure I va hva hq31 ?_) 
        exact e_iretI dX1_failureOf_121 rfl (qi hq rfl) (by decide) (by decide)
      · refine e_topi hkd ?_
        rw [hkd] at hq
        refine e_tab (off := 84) (t := 122) dX1_failureOf_38 (by decide) (by decide) (by decide) (by decide) ?_
        refine e_aload dX1_failureOf_122 rfl ?_
        refine x_get dX1_failureOf_123 fg_X1_39 rfl (show dmW S 1 8 r from hr1) cw_8 rfl ?_
        refine e_aload dX1_failureOf_126 rfl ?_
        refine x_get dX1_failureOf_127 fg_X1_15 rfl (show dmW S 1 15 (4 * s + c) from hx15) cw_15 rfl ?_
        refine e_topi ea ?_
        refine x_ald (a) dX1_failureOf_130 rfl (show dmW S 1 10 r from hr1) cw_10 rfl rfl (by omega) (by first | decide | omega) ((th_r M ha hz).trans (congrArg (tr ad) eva)) ?_
        refine e_iload dX1_failureOf_131 rfl ?_
        refine n_callS2 dX1_failureOf_132 ca_X1_47  (c_X1_lengthFailure I va hva _ ?_) 
        exact e_iretI dX1_failureOf_135 rfl (qi hq rfl) (by decide) (by decide)
      · refine e_topi hkd ?_
        rw [hkd] at hq
        refine e_tab (off := 98) (t := 136) dX1_failureOf_38 (by decide) (by decide) (by decide) (by decide) ?_
        refine e_aload dX1_failureOf_136 rfl ?_
        refine x_get dX1_failureOf_137 fg_X1_39 rfl (show dmW S 1 8 r from hr1) cw_8 rfl ?_
        refine e_aload dX1_failureOf_140 rfl ?_
        refine x_get dX1_failureOf_141 fg_X1_15 rfl (show dmW S 1 15 (4 * s + c) from hx15) cw_15 rfl ?_
        refine e_topi ea ?_
        refine x_ald (a) dX1_failureOf_144 rfl (show dmW S 1 10 r from hr1) cw_10 rfl rfl (by omega) (by first | decide | omega) ((th_r M ha hz).trans (congrArg (tr ad) eva)) ?_
        refine e_iload dX1_failureOf_145 rfl ?_
        refine n_callS2 dX1_failureOf_146 ca_X1_50  (c_X1_orderFailure I va hva _ ?_) 
        exact e_iretI dX1_failureOf_149 rfl (qi hq rfl) (by decide) (by decide)
      · refine e_topi hkd ?_
        rw [hkd] at hq
        refine e_tabD (t := 150) dX1_failureOf_38 (Or.inr (by decide)) (by decide) ?_
        refine e_aload dX1_failureOf_150 rfl ?_
        refine x_get dX1_failureOf_151 fg_X1_39 rfl (show dmW S 1 8 r from hr1) cw_8 rfl ?_
        refine e_aload dX1_failureOf_154 rfl ?_
        refine x_get dX1_failureOf_155 fg_X1_15 rfl (show dmW S 1 15 (4 * s + c) from hx15) cw_15 rfl ?_
        refine e_topi ea ?_
        refine x_ald (a) dX1_failureOf_158 rfl (show dmW S 1 10 r from hr1) cw_10 rfl rfl (by omega) (by first | decide | omega) ((th_r M ha hz).trans (congrArg (tr ad) eva)) ?_
        refine e_iload dX1_failureOf_159 rfl ?_
        refine n_callS2 dX1_failureOf_160 ca_X1_53  (c_X1_firstFailure I va hva _ ?_) 
        exact e_iretI dX1_failureOf_163 rfl (qi hq rfl) (by decide) (by decide)
    · exact absurd (inB_nN (by omega) (show b < pN S r by omega)) (by rw [h19]; decide)
set_option maxRecDepth 100000 in
set_option maxHeartbeats 4000000 in
theorem l_X11_runChecks {b0 : Nat} {D : va_G} {dA : Nat → ClassId} {ad : Nat → Nat → Nat} {Q : PQ} {Sm : St} {t s r : Nat} {S : St} (M : MK S t s r) (ho : ∀ p, p < pmN S s → okP S s r p) : ∀ k c, c + k = cmN S s → Q (some (.int (chk s r k c S).1)) (dmW (chk s r k c S).2 1) ad (cw dA ad Sm (chk s r k c S).2 (pmN S s)) → E b0 D dA yX11_runChecks cX11_runChecks 4 (some .int) (Rm 5) E0 (QFm b0 D dA (Rm 5) Q) 2 (lfA [some (.ref (ad 0 0)), some (.ref (ad 8 r)), some (.int (nI c))]) [] (dmW S 1) ad (cw dA ad Sm S (pmN S s)) 0 0 := by
  intro k
  induction k with
  | zero =>
    intro c hi hq
    obtain ⟨e1, e2, h5, h13, h16⟩ := M.pn
    have hs6 : shN S r < 6 := by rw [e1]; exact M.2.1
    have hr1 : r < nD S + 1 := by have := M.2.2.1; omega
    obtain ⟨-, -, hcm, hc4, -⟩ := M.1.2.2.2.2.1 s M.2.1
    refine e_iload dX11_runChecks_2 rfl ?_
    refine e_aload dX11_runChecks_3 rfl ?_
    refine x_get dX11_runChecks_4 fg_X11_228 rfl (show dmW S 1 8 r from hr1) cw_8 rfl ?_
    refine x_get dX11_runChecks_7 fg_X11_297 rfl (show dmW S 1 11 (shN S r) from hs6) cw_11 rfl ?_
    refine e_topi (show S.2.1 19 (shN S r) = nI (cmN S s) from by rw [e1]; exact hcm) ?_
    refine e_icmp_ge dX11_runChecks_10 (fun h10 => ?_) (fun h10 => ?_)
    · refine e_push dX11_runChecks_47 ?_
      exact e_iretI dX11_runChecks_48 rfl hq (by decide) (by decide)
    · exact absurd (nI_le (by omega) (by omega)) h10
  | succ k ih =>
    intro c hi hq
    obtain ⟨e1, e2, h5, h13, h16⟩ := M.pn
    have hs6 : shN S r < 6 := by rw [e1]; exact M.2.1
    have hr1 : r < nD S + 1 := by have := M.2.2.1; omega
    obtain ⟨-, -, hcm, hc4, -⟩ := M.1.2.2.2.2.1 s M.2.1
    refine e_iload dX11_runChecks_2 rfl ?_
    refine e_aload dX11_runChecks_3 rfl ?_
    refine x_get dX11_runChecks_4 fg_X11_228 rfl (show dmW S 1 8 r from hr1) cw_8 rfl ?_
    refine x_get dX11_runChecks_7 fg_X11_297 rfl (show dmW S 1 11 (shN S r) from hs6) cw_11 rfl ?_
    refine e_topi (show S.2.1 19 (shN S r) = nI (cmN S s) from by rw [e1]; exact hcm) ?_
    refine e_icmp_ge dX11_runChecks_10 (fun h10 => ?_) (fun h10 => ?_)
    · exact absurd h10 (nI_ge (by omega) (by omega))
    · have hc : c < cmN S s := by omega
      have hs := M.2.1
      have hx15 : 4 * s + c < 24 ∧ (4 * s + c) % 4 < cmN S ((4 * s + c) / 4) := by
        rw [show (4 * s + c) / 4 = s by omega, show (4 * s + c) % 4 = c by omega]; omega
      refine e_aload dX11_runChecks_13 rfl ?_
      refine x_get dX11_runChecks_14 fg_X11_228 rfl (show dmW S 1 8 r from hr1) cw_8 rfl ?_
      refine x_get dX11_runChecks_17 fg_X11_300 rfl (show dmW S 1 11 (shN S r) from hs6) cw_11 rfl ?_
      refine e_iload dX11_runChecks_20 rfl ?_
      refine x_ald (c) dX11_runChecks_21 rfl (show dmW S 1 14 (shN S r) from hs6) cw_14 rfl rfl (by omega) (by first | decide | omega) (show ckR ad S (shN S r) c = some (ad 15 (4 * s + c)) by rw [e1]; exact if_pos hc) ?_
      refine e_aload dX11_runChecks_22 rfl ?_
      refine n_callV1 dX11_runChecks_23 ca_X11_304 (show dmW S 1 15 (4 * s + c) from hx15) cw_15 (c_X1_failureOf M ho hc ?_) 
      refine e_istore dX11_runChecks_26 ?_
      refine e_iload dX11_runChecks_27 rfl ?_
      refine e_if_eq dX11_runChecks_28 (fun h28 => ?_) (fun h28 => ?_)
      · rw [chk, if_pos h28] at hq
        refine e_iinc dX11_runChecks_41 rfl (inc1 c) ?_
        refine e_goto dX11_runChecks_44 ?_
        exact e_lvA (ih (c + 1) (by omega) hq) ⟨rfl, rfl, rfl, trivial⟩
      · rw [chk, if_neg h28] at hq
        refine e_aload dX11_runChecks_31 rfl ?_
        refine e_push dX11_runChecks_32 ?_
        refine e_iload dX11_runChecks_34 rfl ?_
        refine e_iadd dX11_runChecks_35 ?_
        refine e_topi (show (10 : Int32) + nI c = nI (10 + c) from nI_add 10 c) ?_
        refine w_put12 dX11_runChecks_36 fp_X11_59 ?_
        refine e_iload dX11_runChecks_39 rfl ?_
        exact e_iretI dX11_runChecks_40 rfl hq (by decide) (by decide)
set_option maxRecDepth 100000 in
set_option maxHeartbeats 4000000 in
theorem c_X11_runChecks {b0 : Nat} {D : va_G} {dA : Nat → ClassId} {ad : Nat → Nat → Nat} {Q : PQ} {Sm S : St}  {t s r : Nat} (M : MK S t s r) (ho : ∀ p, p < pmN S s → okP S s r p) (hq : Q (some (.int (chk s r (cmN S s) 0 S).1)) (dmW (chk s r (cmN S s) 0 S).2 1) ad (cw dA ad Sm (chk s r (cmN S s) 0 S).2 (pmN S s))) : Ct b0 D dA yX11_runChecks cX11_runChecks 4 (some .int) (Rm 5) [.ref (ad 0 0), .ref (ad 8 r)] (dmW S 1) ad (cw dA ad Sm S (pmN S s)) Q := by
  refine ct_of (by decide) (Nat.le_of_ble_eq_true rfl) ?_
  refine e_push dX11_runChecks_0 ?_
  refine e_istore dX11_runChecks_1 ?_
  exact e_lvA (l_X11_runChecks M ho (cmN S s) 0 (by omega) hq) ⟨rfl, rfl, rfl, trivial⟩
