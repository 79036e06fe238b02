set_option maxRecDepth 100000 in
set_option maxHeartbeats 4000000 in
theorem l_X11_haveSameItems {b0 : Nat} {D : va_G} {dA : Nat → ClassId} {ad : Nat → Nat → Nat} {Q : PQ} {Sm S : St} {f τ : Nat} {r q : Nat} (hr : r < nR S) (hq0 : q < nR S) (e : sz S r = sz S q) (hs : sz S r ≤ 12) : ∀ k i, i + k = sz S r → Q (some (.int (bI (allB (riP S r q) k i)))) (dmW S τ) ad (cw dA ad Sm S f) → E b0 D dA yX11_haveSameItems cX11_haveSameItems 3 (some .boolean) (Rm 0) E0 (QFm b0 D dA (Rm 0) Q) 17 (lfA [some (.ref (ad 6 r)), some (.ref (ad 6 q)), some (.int (nI i))]) [] (dmW S τ) ad (cw dA ad Sm S f) 0 0 := by
  intro k
  induction k with
  | zero =>
    intro i hi hq
    refine e_iload dX11_haveSameItems_17 rfl ?_
    refine e_aload dX11_haveSameItems_18 rfl ?_
    refine x_get dX11_haveSameItems_19 fg_X11_176 rfl (show dmW S τ 6 r from hr) cw_6 rfl ?_
    refine x_len dX11_haveSameItems_22 rfl (show dmW S τ 7 r from hr) cw_7 rfl ?_
    refine e_icmp_ge dX11_haveSameItems_23 (fun h23 => ?_) (fun h23 => ?_)
    · refine e_push dX11_haveSameItems_49 ?_
      exact e_iret dX11_haveSameItems_50 rfl (by first | rfl | exact bI_n _) hq (by decide) (by decide)
    · exact absurd (nI_le (by omega) (by omega)) h23
  | succ k ih =>
    intro i hi hq
    refine e_iload dX11_haveSameItems_17 rfl ?_
    refine e_aload dX11_haveSameItems_18 rfl ?_
    refine x_get dX11_haveSameItems_19 fg_X11_176 rfl (show dmW S τ 6 r from hr) cw_6 rfl ?_
    refine x_len dX11_haveSameItems_22 rfl (show dmW S τ 7 r from hr) cw_7 rfl ?_
    refine e_icmp_ge dX11_haveSameItems_23 (fun h23 => ?_) (fun h23 => ?_)
    · exact absurd h23 (nI_ge (by omega) (by omega))
    · refine e_aload dX11_haveSameItems_26 rfl ?_
      refine x_get dX11_haveSameItems_27 fg_X11_176 rfl (show dmW S τ 6 r from hr) cw_6 rfl ?_
      refine e_iload dX11_haveSameItems_30 rfl ?_
      refine x_ild (i) dX11_haveSameItems_31 rfl (show dmW S τ 7 r from hr) cw_7 rfl (by omega) (by omega) ?_
      refine e_topi (show itF S r i = S.2.1 10 (12 * r + i) from if_pos (by omega)) ?_
      refine e_aload dX11_haveSameItems_32 rfl ?_
      refine x_get dX11_haveSameItems_33 fg_X11_176 rfl (show dmW S τ 6 q from hq0) cw_6 rfl ?_
      refine e_iload dX11_haveSameItems_36 rfl ?_
      refine x_ild (i) dX11_haveSameItems_37 rfl (show dmW S τ 7 q from hq0) cw_7 rfl (by omega) (by omega) ?_
      refine e_topi (show itF S q i = S.2.1 10 (12 * q + i) from if_pos (by omega)) ?_
      refine e_icmp_eq dX11_haveSameItems_38 (fun h38 => ?_) (fun h38 => ?_)
      · rw [all_t (decide_eq_true h38)] at hq
        refine e_iinc dX11_haveSameItems_43 rfl (inc1 i) ?_
        refine e_goto dX11_haveSameItems_46 ?_
        exact e_lvA (ih (i + 1) (by omega) hq) ⟨rfl, rfl, rfl, trivial⟩
      · rw [all_f (decide_eq_false h38)] at hq
        refine e_push dX11_haveSameItems_41 ?_
        exact e_iret dX11_haveSameItems_42 rfl (by first | rfl | exact bI_n _) hq (by decide) (by decide)
set_option maxRecDepth 100000 in
set_option maxHeartbeats 4000000 in
theorem c_X11_haveSameItems {b0 : Nat} {D : va_G} {dA : Nat → ClassId} {ad : Nat → Nat → Nat} {Q : PQ} {Sm S : St} {f τ : Nat} {t : Nat} (I : Inv S t) {r q : Nat} (hr : r < nR S) (hq0 : q < nR S) (hq : Q (some (.int (bI (rlB S r q)))) (dmW S τ) ad (cw dA ad Sm S f)) : Ct b0 D dA yX11_haveSameItems cX11_haveSameItems 3 (some .boolean) (Rm 0) [.ref (ad 6 r), .ref (ad 6 q)] (dmW S τ) ad (cw dA ad Sm S f) Q := by
  obtain ⟨e9, s9⟩ := I.2.2.2.1.2.2 r hr
  obtain ⟨e9q, s9q⟩ := I.2.2.2.1.2.2 q hq0
  refine ct_of (by decide) (Nat.le_of_ble_eq_true rfl) ?_
  refine e_aload dX11_haveSameItems_0 rfl ?_
  refine x_get dX11_haveSameItems_1 fg_X11_176 rfl (show dmW S τ 6 r from hr) cw_6 rfl ?_
  refine x_len dX11_haveSameItems_4 rfl (show dmW S τ 7 r from hr) cw_7 rfl ?_
  refine e_aload dX11_haveSameItems_5 rfl ?_
  refine x_get dX11_haveSameItems_6 fg_X11_176 rfl (show dmW S τ 6 q from hq0) cw_6 rfl ?_
  refine x_len dX11_haveSameItems_9 rfl (show dmW S τ 7 q from hq0) cw_7 rfl ?_
  refine e_icmp_eq dX11_haveSameItems_10 (fun h10 => ?_) (fun h10 => ?_)
  · have e10 : sz S r = sz S q := (nI_eq (by omega) (by omega)).mp h10
    rw [rlB, e9, e9q, decide_eq_true h10, Bool.true_and] at hq
    refine e_push dX11_haveSameItems_15 ?_
    refine e_istore dX11_haveSameItems_16 ?_
    exact e_lvA (l_X11_haveSameItems hr hq0 e10 s9 (sz S r) 0 (by omega) hq) ⟨rfl, rfl, rfl, trivial⟩
  · refine e_push dX11_haveSameItems_13 ?_
    exact e_iret dX11_haveSameItems_14 rfl (by first | rfl | exact bI_n _) (qi hq (by rw [rlB, e9, e9q, decide_eq_false h10, Bool.false_and]; rfl)) (by decide) (by decide)
set_option maxRecDepth 100000 in
set_option maxHeartbeats 4000000 in
theorem l_X11_haveLikeParts {b0 : Nat} {D : va_G} {dA : Nat → ClassId} {ad : Nat → Nat → Nat} {Q : PQ} {Sm S : St} {f τ : Nat} {t : Nat} (I : Inv S t) {d e k0 : Nat} (HA : AL b0 D dA ad Sm S f τ k0) (hk0 : k0 < 5) (hd : d < nD S) (he : e < nD S) (hd1 : d < nD S + τ) (he1 : e < nD S + τ) (hpn : S.2.1 13 d = nI (pN S d)) (hp5 : pN S d ≤ 5) (esh : shN S d = shN S e) (epn : pN S d = pN S e) : ∀ k i, i + k = pN S d → Q (some (.int (bI (allB (reP S (likeF S k0) d e) k i)))) (dmW S τ) ad (cw dA ad Sm S f) → E b0 D dA yX11_haveLikeParts cX11_haveLikeParts 4 (some .boolean) (Rm (2 * k0 + 4)) E0 (QFm b0 D dA (Rm (2 * k0 + 4)) Q) 26 (lfA [some (.ref (ad 8 d)), some (.ref (ad 8 e)), some (.int (nI (5 - (k0 + 1)))), some (.int (nI i))]) [] (dmW S τ) ad (cw dA ad Sm S f) 0 0 := by
  intro k
  induction k with
  | zero =>
    intro i hi hq
    refine e_iload dX11_haveLikeParts_26 rfl ?_
    refine e_aload dX11_haveLikeParts_27 rfl ?_
    refine x_get dX11_haveLikeParts_28 fg_X11_279 rfl (show dmW S τ 8 d from hd1) cw_8 rfl ?_
    refine e_topi hpn ?_
    refine e_icmp_ge dX11_haveLikeParts_31 (fun h31 => ?_) (fun h31 => ?_)
    · refine e_push dX11_haveLikeParts_78 ?_
      exact e_iret dX11_haveLikeParts_79 rfl (by first | rfl | exact bI_n _) hq (Nat.le_refl 0) (Nat.le_refl 0)
    · exact absurd (nI_le (by omega) (by omega)) h31
  | succ k ih =>
    intro i hi hq
    refine e_iload dX11_haveLikeParts_26 rfl ?_
    refine e_aload dX11_haveLikeParts_27 rfl ?_
    refine x_get dX11_haveLikeParts_28 fg_X11_279 rfl (show dmW S τ 8 d from hd1) cw_8 rfl ?_
    refine e_topi hpn ?_
    refine e_icmp_ge dX11_haveLikeParts_31 (fun h31 => ?_) (fun h31 => ?_)
    · exact absurd h31 (nI_ge (by omega) (by omega))
    · refine e_aload dX11_haveLikeParts_34 rfl ?_
      refine x_get dX11_haveLikeParts_35 fg_X11_237 rfl (show dmW S τ 8 d from hd1) cw_8 rfl ?_
      refine e_iload dX11_haveLikeParts_38 rfl ?_
      refine x_ild (i) dX11_haveLikeParts_39 rfl (show dmW S τ 9 d from hd1) cw_9 rfl (by omega) (by omega) ?_
      refine e_topi (nu_V hd (by omega)) ?_
      refine e_aload dX11_haveLikeParts_40 rfl ?_
      refine x_get dX11_haveLikeParts_41 fg_X11_237 rfl (show dmW S τ 8 e from he1) cw_8 rfl ?_
      refine e_iload dX11_haveLikeParts_44 rfl ?_
      refine x_ild (i) dX11_haveLikeParts_45 rfl (show dmW S τ 9 e from he1) cw_9 rfl (by omega) (by omega) ?_
      refine e_topi (nu_V he (by omega)) ?_
      refine e_icmp_ne dX11_haveLikeParts_46 (fun h46 => ?_) (fun h46 => ?_)
      · have hz : reP S (likeF S k0) d e i = false := by rw [re_p esh, decide_eq_false h46, Bool.false_and]
        rw [all_f hz] at hq
        refine e_push dX11_haveLikeParts_70 ?_
        exact e_iret dX11_haveLikeParts_71 rfl (by first | rfl | exact bI_n _) hq (Nat.le_refl 0) (Nat.le_refl 0)
      · refine e_aload dX11_haveLikeParts_49 rfl ?_
        refine x_get dX11_haveLikeParts_50 fg_X11_240 rfl (show dmW S τ 8 d from hd1) cw_8 rfl ?_
        refine e_iload dX11_haveLikeParts_53 rfl ?_
        refine x_ald (i) dX11_haveLikeParts_54 rfl (show dmW S τ 10 d from hd1) cw_10 rfl rfl (by omega) (by first | decide | omega) (th_V hd (by omega)) ?_
        refine e_aload dX11_haveLikeParts_55 rfl ?_
        refine x_get dX11_haveLikeParts_56 fg_X11_240 rfl (show dmW S τ 8 e from he1) cw_8 rfl ?_
        refine e_iload dX11_haveLikeParts_59 rfl ?_
        refine x_ald (i) dX11_haveLikeParts_60 rfl (show dmW S τ 10 e from he1) cw_10 rfl rfl (by omega) (by first | decide | omega) (th_V he (by omega)) ?_
        refine e_iload dX11_haveLikeParts_61 rfl ?_
        refine e_push dX11_haveLikeParts_62 ?_
        refine e_iadd dX11_haveLikeParts_63 ?_
        refine e_topi (show _ = nI (5 - k0) by rw [li_1, nI_add]; congr 1; omega) ?_
        refine n_callS3 dX11_haveLikeParts_64 ca_X11_187  (HA _ _ _ (thV_ok I hd (by omega)) (thV_ok I he (by omega)) ?_) (by omega)
        refine e_if_neB dX11_haveLikeParts_67 (fun h67 => ?_) (fun h67 => ?_)
        · have hz : reP S (likeF S k0) d e i = true := by rw [re_p esh, decide_eq_true h46, h67]; rfl
          rw [all_t hz] at hq
          refine e_iinc dX11_haveLikeParts_72 rfl (inc1 i) ?_
          refine e_goto dX11_haveLikeParts_75 ?_
          exact e_lvA (ih (i + 1) (by omega) hq) ⟨rfl, rfl, rfl, rfl, trivial⟩
        · have hz : reP S (likeF S k0) d e i = false := by rw [re_p esh, h67, Bool.and_false]
          rw [all_f hz] at hq
          refine e_push dX11_haveLikeParts_70 ?_
          exact e_iret dX11_haveLikeParts_71 rfl (by first | rfl | exact bI_n _) hq (Nat.le_refl 0) (Nat.le_refl 0)
set_option maxRecDepth 100000 in
set_option maxHeartbeats 4000000 in
theorem c_X11_haveLikeParts {b0 : Nat} {D : va_G} {dA : Nat → ClassId} {ad : Nat → Nat → Nat} {Q : PQ} {Sm S : St} {f τ : Nat} {t : Nat} (I : Inv S t) {d e k0 : Nat} (HA : AL b0 D dA ad Sm S f τ k0) (hk0 : k0 < 5) (hd : d < nD S) (he : e < nD S) (hq : Q (some (.int (bI (reB S (likeF S k0) d e)))) (dmW S τ) ad (cw dA ad Sm S f)) : Ct b0 D dA yX11_haveLikeParts cX11_haveLikeParts 4 (some .boolean) (Rm (2 * k0 + 4)) [.ref (ad 8 d), .ref (ad 8 e), .int (nI (5 - (k0 + 1)))] (dmW S τ) ad (cw dA ad Sm S f) Q := by
  have hd1 : d < nD S + τ := Nat.lt_of_lt_of_le hd (Nat.le_add_right _ _)
  have he1 : e < nD S + τ := Nat.lt_of_lt_of_le he (Nat.le_add_right _ _)
  obtain ⟨dsh, dsh6, dpn, dpm, -⟩ := I.2.2.2.2.2.1.2.2 d hd
  obtain ⟨esh, esh6, epn0, epm, -⟩ := I.2.2.2.2.2.1.2.2 e he
  have hpm5 := (I.2.2.2.2.1 _ dsh6).2.1
  have hpm5e := (I.2.2.2.2.1 _ esh6).2.1
  refine ct_of (by decide) (Nat.le_of_ble_eq_true rfl) ?_
  refine e_aload dX11_haveLikeParts_0 rfl ?_
  refine x_get dX11_haveLikeParts_1 fg_X11_228 rfl (show dmW S τ 8 d from hd1) cw_8 rfl ?_
  refine e_aload dX11_haveLikeParts_4 rfl ?_
  refine e_inj (fun hinj => ?_)
  refine x_get dX11_haveLikeParts_5 fg_X11_228 rfl (show dmW S τ 8 e from he1) cw_8 rfl ?_
  refine e_acmp_ne (r1 := some (ad 11 (shN S d))) (r2 := some (ad 11 (shN S e))) dX11_haveLikeParts_8 (fun h8 => ?_) (fun h8 => ?_)
  · have e12 : ¬ S.2.1 12 d = S.2.1 12 e := by
      rw [dsh, esh]
      exact fun z => h8 (by rw [(nI_eq (by omega) (by omega)).mp z])
    refine e_push dX11_haveLikeParts_22 ?_
    exact e_iret dX11_haveLikeParts_23 rfl (by rfl) (qi hq (by rw [reB, decide_eq_false e12]; rfl)) (Nat.le_refl 0) (Nat.le_refl 0)
  have ess : shN S d = shN S e := (hinj 11 _ 11 _ dsh6 esh6 (Option.some.inj h8)).2
  refine e_aload dX11_haveLikeParts_11 rfl ?_
  refine x_get dX11_haveLikeParts_12 fg_X11_279 rfl (show dmW S τ 8 d from hd1) cw_8 rfl ?_
  refine e_aload dX11_haveLikeParts_15 rfl ?_
  refine x_get dX11_haveLikeParts_16 fg_X11_279 rfl (show dmW S τ 8 e from he1) cw_8 rfl ?_
  refine e_icmp_eq dX11_haveLikeParts_19 (fun h19 => ?_) (fun h19 => ?_)
  · have epn : pN S d = pN S e := (nI_eq (by omega) (by omega)).mp (by rw [← dpn, ← epn0]; exact h19)
    rw [reB, decide_eq_true (show S.2.1 12 d = S.2.1 12 e by rw [dsh, esh, ess]), decide_eq_true h19, Bool.true_and, Bool.true_and] at hq
    refine e_push dX11_haveLikeParts_24 ?_
    refine e_istore dX11_haveLikeParts_25 ?_
    exact e_lvA (l_X11_haveLikeParts I HA hk0 hd he hd1 he1 dpn (by omega) ess epn (pN S d) 0 (by omega) hq) ⟨rfl, rfl, rfl, rfl, trivial⟩
  · refine e_push dX11_haveLikeParts_22 ?_
    exact e_iret dX11_haveLikeParts_23 rfl (by first | rfl | exact bI_n _) (qi hq (by rw [reB, decide_eq_false h19, Bool.false_and, Bool.and_false]; rfl)) (Nat.le_refl 0) (Nat.le_refl 0)
set_option maxRecDepth 100000 in
set_option maxHeartbeats 4000000 in
theorem fam_no {S : St} {t : Nat} {v : Int32} (I : Inv S t) (hv : okT S v) (h4 : ¬ famF S v = 4) (h5 : ¬ famF S v = 5) : ¬ 3 < famF S v := by
  rcases tcl_k I hv with ⟨-, -, h⟩ | ⟨c, -, -, ⟨-, -, h⟩ | ⟨-, -, h⟩ | ⟨-, -, h⟩⟩ | ⟨r, -, -, -, h⟩ | ⟨d, -, -, -, h⟩
  · rw [h]; decide
  · rw [h]; decide
  · rw [h]; decide
  · rw [h]; decide
  · exact absurd h h4
  · exact absurd h h5

set_option maxRecDepth 100000 in
set_option maxHeartbeats 4000000 in
theorem al_all {b0 : Nat} {D : va_G} {dA : Nat → ClassId} {ad : Nat → Nat → Nat} {Sm S : St} {f τ t : Nat} (I : Inv S t) : ∀ k, k ≤ 5 → AL b0 D dA ad Sm S f τ k := by
  obtain ⟨hC, hR, hD⟩ := bd512 I
  intro k
  induction k with
  | zero =>
    intro _ Q a b ha hb hq
    refine ct_of (by decide) (by rcases tr ad a with _ | _ <;> rcases tr ad b with _ | _ <;> exact Nat.le_of_ble_eq_true rfl) ?_
    refine e_lvA (l := [some (va_rf (tr ad a)), some (va_rf (tr ad b)), some (.int (nI (5 - (0))))]) ?_ (by rcases tr ad a with _ | _ <;> rcases tr ad b with _ | _ <;> exact ⟨rfl, rfl, rfl, trivial⟩)
    refine e_aload dX11_areAlike_0 rfl ?_
    refine e_aload dX11_areAlike_1 rfl ?_
    refine e_inj (fun hinj => ?_)
    refine e_acmp_ne (r1 := tr ad a) (r2 := tr ad b) dX11_areAlike_2 (fun h2 => ?_) (fun h2 => ?_)
    rotate_left
    · have hab := tr_inj I ha hb hinj h2
      subst hab
      refine e_push dX11_areAlike_5 ?_
      exact e_iret dX11_areAlike_6 rfl (by rfl) (qi hq (by rw [likeF_eq]; rfl)) (Nat.le_refl 0) (Nat.le_refl 0)
    have hne : ¬ a = b := fun z => h2 (by rw [z])
    refine e_aload dX11_areAlike_7 rfl ?_
    refine x_inst (P := iP_Row) I ha dX11_areAlike_8 fi_X11_166_3 fi_X11_166_4 fi_X11_166_5 fi_X11_166_6 fi_X11_166_8 ?_
    refine e_if_eqB dX11_areAlike_11 (fun h11 => ?_) (fun h11 => ?_)
    · have hfa := is_rowN I ha h11
      refine e_aload dX11_areAlike_39 rfl ?_
      refine x_inst (P := iP_Made) I ha dX11_areAlike_40 fi_X11_216_3 fi_X11_216_4 fi_X11_216_5 fi_X11_216_6 fi_X11_216_8 ?_
      refine e_if_eqB dX11_areAlike_43 (fun h43 => ?_) (fun h43 => ?_)
      · have hfm := is_madeN I ha h43
        refine e_push dX11_areAlike_85 ?_
        exact e_iret dX11_areAlike_86 rfl (by first | rfl | exact bI_n _) (qi hq (by first | (rw [likeF_n hne (fun z => hfn (z.1 ▸ hfm))]; rfl) | (rw [likeF_n hne (fun z => fam_no I ha hfa hfm z.2)]; rfl))) (Nat.le_refl 0) (Nat.le_refl 0)
      · obtain ⟨hfm, d, hd, rfl⟩ := is_made I ha h43
        rw [tr_d (by omega)]
        have hd1 : d < nD S + τ := Nat.lt_of_lt_of_le hd (Nat.le_add_right _ _)
        refine e_aload dX11_areAlike_46 rfl ?_
        refine x_cast dX11_areAlike_47 fi_X11_216_4 rfl (show dmW S τ 8 d from hd1) cw_8 ?_
        refine e_astore dX11_areAlike_50 ?_
        refine e_aload dX11_areAlike_51 rfl ?_
        refine x_inst (P := iP_Made) I hb dX11_areAlike_52 fi_X11_216_3 fi_X11_216_4 fi_X11_216_5 fi_X11_216_6 fi_X11_216_8 ?_
        refine e_if_eqB dX11_areAlike_55 (fun h55 => ?_) (fun h55 => ?_)
        · have hfn := is_madeN I hb h55
          refine e_push dX11_areAlike_85 ?_
          exact e_iret dX11_areAlike_86 rfl (by first | rfl | exact bI_n _) (qi hq (by first | (rw [likeF_n hne (fun z => hfn (z.1 ▸ hfm))]; rfl) | (rw [likeF_n hne (fun z => fam_no I ha hfa hfm z.2)]; rfl))) (Nat.le_refl 0) (Nat.le_refl 0)
        · obtain ⟨hfn, e, he, rfl⟩ := is_made I hb h55
          rw [tr_d (by omega)]
          have he1 : e < nD S + τ := Nat.lt_of_lt_of_le he (Nat.le_add_right _ _)
          refine e_aload dX11_areAlike_58 rfl ?_
          refine x_cast dX11_areAlike_59 fi_X11_216_4 rfl (show dmW S τ 8 e from he1) cw_8 ?_
          refine e_astore dX11_areAlike_62 ?_
          refine e_iload dX11_areAlike_64 rfl ?_
          refine e_push dX11_areAlike_65 ?_
          refine e_icmp_ge dX11_areAlike_66 (fun h66 => ?_) (fun h66 => ?_)
          · refine e_push dX11_areAlike_83 ?_
            exact e_iret dX11_areAlike_84 rfl (by first | rfl | exact bI_n _) (qi hq (by rw [likeF_50 hne hfa]; rfl)) (Nat.le_refl 0) (Nat.le_refl 0)
          · exact absurd (show (5 : Int32) ≤ nI (5 - 0) by decide) h66
    · obtain ⟨hfa, r, hr, rfl⟩ := is_row I ha h11
      rw [tr_r (by omega)]
      refine e_aload dX11_areAlike_14 rfl ?_
      refine x_cast dX11_areAlike_15 fi_X11_166_6 rfl (show dmW S τ 6 r from hr) cw_6 ?_
      refine e_astore dX11_areAlike_18 ?_
      refine e_aload dX11_areAlike_19 rfl ?_
      refine x_inst (P := iP_Row) I hb dX11_areAlike_20 fi_X11_166_3 fi_X11_166_4 fi_X11_166_5 fi_X11_166_6 fi_X11_166_8 ?_
      refine e_if_eqB dX11_areAlike_23 (fun h23 => ?_) (fun h23 => ?_)
      · refine e_aload dX11_areAlike_39 rfl ?_
        refine e_inst dX11_areAlike_40 fi_X11_216_6 (show dmW S τ 6 r from hr) cw_6 ?_
        refine e_if_eq dX11_areAlike_43 (fun _ => ?_) (fun h => absurd rfl h)
        refine e_push dX11_areAlike_85 ?_
        exact e_iret dX11_areAlike_86 rfl (by rfl) (qi hq (by rw [likeF_n hne (fun z => is_rowN I hb h23 (z.1 ▸ hfa))]; rfl)) (Nat.le_refl 0) (Nat.le_refl 0)
      · obtain ⟨hfb, q, hq0, rfl⟩ := is_row I hb h23
        rw [tr_r (by omega)]
        refine e_aload dX11_areAlike_26 rfl ?_
        refine x_cast dX11_areAlike_27 fi_X11_166_6 rfl (show dmW S τ 6 q from hq0) cw_6 ?_
        refine e_astore dX11_areAlike_30 ?_
        refine e_aload dX11_areAlike_32 rfl ?_
        refine e_aload dX11_areAlike_33 rfl ?_
        refine n_callS2 dX11_areAlike_35 ca_X11_271  (c_X11_haveSameItems I hr hq0 ?_) (by omega)
        exact e_iret dX11_areAlike_38 rfl (by first | rfl | exact bI_n _) (qi hq (by rw [likeF_4 hne ⟨hfa.trans hfb.symm, by rw [hfa]; decide⟩ hfa, tN_n (by omega), tN_n (by omega), Nat.add_sub_cancel_left, Nat.add_sub_cancel_left])) (Nat.le_refl 0) (Nat.le_refl 0)
  | succ k ih =>
    intro hk Q a b ha hb hq
    have ih := ih (by omega)
    refine ct_of (by decide) (by rcases tr ad a with _ | _ <;> rcases tr ad b with _ | _ <;> exact Nat.le_of_ble_eq_true rfl) ?_
    refine e_lvA (l := [some (va_rf (tr ad a)), some (va_rf (tr ad b)), some (.int (nI (5 - (k + 1))))]) ?_ (by rcases tr ad a with _ | _ <;> rcases tr ad b with _ | _ <;> exact ⟨rfl, rfl, rfl, trivial⟩)
    refine e_aload dX11_areAlike_0 rfl ?_
    refine e_aload dX11_areAlike_1 rfl ?_
    refine e_inj (fun hinj => ?_)
    refine e_acmp_ne (r1 := tr ad a) (r2 := tr ad b) dX11_areAlike_2 (fun h2 => ?_) (fun h2 => ?_)
    rotate_left
    · have hab := tr_inj I ha hb hinj h2
      subst hab
      refine e_push dX11_areAlike_5 ?_
      exact e_iret dX11_areAlike_6 rfl (by rfl) (qi hq (by rw [likeF_eq]; rfl)) (Nat.le_refl 0) (Nat.le_refl 0)
    have hne : ¬ a = b := fun z => h2 (by rw [z])
    refine e_aload dX11_areAlike_7 rfl ?_
    refine x_inst (P := iP_Row) I ha dX11_areAlike_8 fi_X11_166_3 fi_X11_166_4 fi_X11_166_5 fi_X11_166_6 fi_X11_166_8 ?_
    refine e_if_eqB dX11_areAlike_11 (fun h11 => ?_) (fun h11 => ?_)
    · have hfa := is_rowN I ha h11
      refine e_aload dX11_areAlike_39 rfl ?_
      refine x_inst (P := iP_Made) I ha dX11_areAlike_40 fi_X11_216_3 fi_X11_216_4 fi_X11_216_5 fi_X11_216_6 fi_X11_216_8 ?_
      refine e_if_eqB dX11_areAlike_43 (fun h43 => ?_) (fun h43 => ?_)
      · have hfm := is_madeN I ha h43
        refine e_push dX11_areAlike_85 ?_
        exact e_iret dX11_areAlike_86 rfl (by first | rfl | exact bI_n _) (qi hq (by first | (rw [likeF_n hne (fun z => hfn (z.1 ▸ hfm))]; rfl) | (rw [likeF_n hne (fun z => fam_no I ha hfa hfm z.2)]; rfl))) (Nat.le_refl 0) (Nat.le_refl 0)
      · obtain ⟨hfm, d, hd, rfl⟩ := is_made I ha h43
        rw [tr_d (by omega)]
        have hd1 : d < nD S + τ := Nat.lt_of_lt_of_le hd (Nat.le_add_right _ _)
        refine e_aload dX11_areAlike_46 rfl ?_
        refine x_cast dX11_areAlike_47 fi_X11_216_4 rfl (show dmW S τ 8 d from hd1) cw_8 ?_
        refine e_astore dX11_areAlike_50 ?_
        refine e_aload dX11_areAlike_51 rfl ?_
        refine x_inst (P := iP_Made) I hb dX11_areAlike_52 fi_X11_216_3 fi_X11_216_4 fi_X11_216_5 fi_X11_216_6 fi_X11_216_8 ?_
        refine e_if_eqB dX11_areAlike_55 (fun h55 => ?_) (fun h55 => ?_)
        · have hfn := is_madeN I hb h55
          refine e_push dX11_areAlike_85 ?_
          exact e_iret dX11_areAlike_86 rfl (by first | rfl | exact bI_n _) (qi hq (by first | (rw [likeF_n hne (fun z => hfn (z.1 ▸ hfm))]; rfl) | (rw [likeF_n hne (fun z => fam_no I ha hfa hfm z.2)]; rfl))) (Nat.le_refl 0) (Nat.le_refl 0)
        · obtain ⟨hfn, e, he, rfl⟩ := is_made I hb h55
          rw [tr_d (by omega)]
          have he1 : e < nD S + τ := Nat.lt_of_lt_of_le he (Nat.le_add_right _ _)
          refine e_aload dX11_areAlike_58 rfl ?_
          refine x_cast dX11_areAlike_59 fi_X11_216_4 rfl (show dmW S τ 8 e from he1) cw_8 ?_
          refine e_astore dX11_areAlike_62 ?_
          refine e_iload dX11_areAlike_64 rfl ?_
          refine e_push dX11_areAlike_65 ?_
          refine e_icmp_ge dX11_areAlike_66 (fun h66 => ?_) (fun h66 => ?_)
          · exact absurd h66 (show ¬ nI 5 ≤ nI (5 - (k + 1)) from nI_ge (by omega) (by decide))
          · refine e_aload dX11_areAlike_69 rfl ?_
            refine e_aload dX11_areAlike_70 rfl ?_
            refine e_iload dX11_areAlike_72 rfl ?_
            refine n_callS3 dX11_areAlike_73 ca_X11_275  (c_X11_haveLikeParts I ih (by omega) hd he ?_) (by omega)
            refine e_if_eqB dX11_areAlike_76 (fun h76 => ?_) (fun h76 => ?_)
            · refine e_push dX11_areAlike_83 ?_
              exact e_iret dX11_areAlike_84 rfl (by first | rfl | exact bI_n _) (qi hq (by rw [likeF_5 hne ⟨hfm.trans hfn.symm, by rw [hfm]; decide⟩ hfa, rc_n (by omega), rc_n (by omega), h76]; rfl)) (Nat.le_refl 0) (Nat.le_refl 0)
            · refine e_push dX11_areAlike_79 ?_
              refine e_goto dX11_areAlike_80 ?_
              exact e_iret dX11_areAlike_84 rfl (by first | rfl | exact bI_n _) (qi hq (by rw [likeF_5 hne ⟨hfm.trans hfn.symm, by rw [hfm]; decide⟩ hfa, rc_n (by omega), rc_n (by omega), h76]; rfl)) (Nat.le_refl 0) (Nat.le_refl 0)
    · obtain ⟨hfa, r, hr, rfl⟩ := is_row I ha h11
      rw [tr_r (by omega)]
      refine e_aload dX11_areAlike_14 rfl ?_
      refine x_cast dX11_areAlike_15 fi_X11_166_6 rfl (show dmW S τ 6 r from hr) cw_6 ?_
      refine e_astore dX11_areAlike_18 ?_
      refine e_aload dX11_areAlike_19 rfl ?_
      refine x_inst (P := iP_Row) I hb dX11_areAlike_20 fi_X11_166_3 fi_X11_166_4 fi_X11_166_5 fi_X11_166_6 fi_X11_166_8 ?_
      refine e_if_eqB dX11_areAlike_23 (fun h23 => ?_) (fun h23 => ?_)
      · refine e_aload dX11_areAlike_39 rfl ?_
        refine e_inst dX11_areAlike_40 fi_X11_216_6 (show dmW S τ 6 r from hr) cw_6 ?_
        refine e_if_eq dX11_areAlike_43 (fun _ => ?_) (fun h => absurd rfl h)
        refine e_push dX11_areAlike_85 ?_
        exact e_iret dX11_areAlike_86 rfl (by rfl) (qi hq (by rw [likeF_n hne (fun z => is_rowN I hb h23 (z.1 ▸ hfa))]; rfl)) (Nat.le_refl 0) (Nat.le_refl 0)
      · obtain ⟨hfb, q, hq0, rfl⟩ := is_row I hb h23
        rw [tr_r (by omega)]
        refine e_aload dX11_areAlike_26 rfl ?_
        refine x_cast dX11_areAlike_27 fi_X11_166_6 rfl (show dmW S τ 6 q from hq0) cw_6 ?_
        refine e_astore dX11_areAlike_30 ?_
        refine e_aload dX11_areAlike_32 rfl ?_
        refine e_aload dX11_areAlike_33 rfl ?_
        refine n_callS2 dX11_areAlike_35 ca_X11_271  (c_X11_haveSameItems I hr hq0 ?_) (by omega)
        exact e_iret dX11_areAlike_38 rfl (by first | rfl | exact bI_n _) (qi hq (by rw [likeF_4 hne ⟨hfa.trans hfb.symm, by rw [hfa]; decide⟩ hfa, tN_n (by omega), tN_n (by omega), Nat.add_sub_cancel_left, Nat.add_sub_cancel_left])) (Nat.le_refl 0) (Nat.le_refl 0)
set_option maxRecDepth 100000 in
set_option maxHeartbeats 4000000 in
theorem c_X11_like {b0 : Nat} {D : va_G} {dA : Nat → ClassId} {ad : Nat → Nat → Nat} {Q : PQ} {Sm S : St} {f τ : Nat} {t : Nat} (I : Inv S t) (p q : Int32) (hq : Q (some (.int (F_like S p q))) (dmW S τ) ad (cw dA ad Sm S f)) : Ct b0 D dA yX11_like cX11_like 3 (some .int) (Rm 14) [.ref (ad 0 0), .int p, .int q] (dmW S τ) ad (cw dA ad Sm S f) Q := by
  refine ct_of (by decide) (Nat.le_of_ble_eq_true rfl) ?_
  refine e_iload dX11_like_0 rfl ?_
  refine n_callS1 dX11_like_1 ca_X11_162  (c_X11_isPlace _ ?_) 
  refine e_if_eqB dX11_like_4 (fun h4 => ?_) (fun h4 => ?_)
  · refine e_push dX11_like_14 ?_
    exact e_iretI dX11_like_15 rfl (qi hq (by first | (simp [F_like, h4]; done) | (simp [F_like, h11]; done))) (by decide) (by decide)
  · obtain ⟨p, p1, p2, rfl⟩ := inB_l (a := 0) (b := 9) rfl rfl (by decide) (by decide) h4
    have tp : tN (nI p) = p := tN_n (by omega)
    refine e_iload dX11_like_7 rfl ?_
    refine n_callS1 dX11_like_8 ca_X11_162  (c_X11_isPlace _ ?_) 
    refine e_if_neB dX11_like_11 (fun h11 => ?_) (fun h11 => ?_)
    · obtain ⟨q, q1, q2, rfl⟩ := inB_l (a := 0) (b := 9) rfl rfl (by decide) (by decide) h11
      have tq : tN (nI q) = q := tN_n (by omega)
      rw [F_like, if_pos (by rw [h4, h11]; rfl), tp, tq] at hq
      refine e_aload dX11_like_16 rfl ?_
      refine x_get dX11_like_17 fg_X11_37 rfl (show dmW S τ 0 0 from rfl) cw_0 rfl ?_
      refine e_iload dX11_like_20 rfl ?_
      refine x_ald (p) dX11_like_21 rfl (show dmW S τ 1 6 by rw [dmW_1]; decide) rfl rfl rfl (by omega) (by first | decide | omega) (pl_t (by omega)) ?_
      refine e_aload dX11_like_22 rfl ?_
      refine x_get dX11_like_23 fg_X11_37 rfl (show dmW S τ 0 0 from rfl) cw_0 rfl ?_
      refine e_iload dX11_like_26 rfl ?_
      refine x_ald (q) dX11_like_27 rfl (show dmW S τ 1 6 by rw [dmW_1]; decide) rfl rfl rfl (by omega) (by first | decide | omega) (pl_t (by omega)) ?_
      refine e_push dX11_like_28 ?_
      refine n_callS3 dX11_like_29 ca_X11_187  (al_all I 5 (by decide) _ _ _ (I.2.2.2.2.2.2.1.1 p (by omega)) (I.2.2.2.2.2.2.1.1 q (by omega)) ?_) 
      refine e_if_eqB dX11_like_32 (fun h32 => ?_) (fun h32 => ?_)
      · refine e_push dX11_like_39 ?_
        exact e_iretI dX11_like_40 rfl (qi hq (by rw [h32]; rfl)) (by decide) (by decide)
      · refine e_push dX11_like_35 ?_
        refine e_goto dX11_like_36 ?_
        exact e_iretI dX11_like_40 rfl (qi hq (by rw [h32]; rfl)) (by decide) (by decide)
    · refine e_push dX11_like_14 ?_
      exact e_iretI dX11_like_15 rfl (qi hq (by first | (simp [F_like, h4]; done) | (simp [F_like, h11]; done))) (by decide) (by decide)
