set_option maxRecDepth 100000 in
set_option maxHeartbeats 4000000 in
theorem c_X11_familyOf {b0 : Nat} {D : va_G} {dA : Nat → ClassId} {ad : Nat → Nat → Nat} {Q : PQ} {Sm S : St} {f τ : Nat} (v : Int32) (hv : okT S v) (hC : nC S ≤ 60) (hR : nR S ≤ 512) (hD : nD S ≤ 512) (hb : ∀ c, c < nC S → S.2.1 3 c = 0 ∨ S.2.1 3 c = 1 ∨ S.2.1 3 c = 2) (hq : Q (some (.int (famF S v))) (dmW S τ) ad (cw dA ad Sm S f)) : Ct b0 D dA yX11_familyOf cX11_familyOf 1 (some .int) (Rm 2) [va_rf (tr ad v)] (dmW S τ) ad (cw dA ad Sm S f) Q := by
  rcases hv with rfl | ⟨c, hc, rfl⟩ | ⟨r, hr, rfl⟩ | ⟨d, hd, rfl⟩
  · rw [tr_0]
    refine ct_of (by decide) (Nat.le_of_ble_eq_true rfl) ?_
    refine e_aload dX11_familyOf_0 rfl ?_
    refine e_ifnonnull_0 dX11_familyOf_1 ?_
    refine e_push dX11_familyOf_4 ?_
    refine e_goto dX11_familyOf_5 ?_
    exact e_iretI dX11_familyOf_12 rfl (qi hq fam_0.symm) (by decide) (by decide)
  · rw [tr_c (by omega)]
    refine ct_of (by decide) (Nat.le_of_ble_eq_true rfl) ?_
    refine e_aload dX11_familyOf_0 rfl ?_
    refine e_ifnonnull_r dX11_familyOf_1 ?_
    refine e_aload dX11_familyOf_8 rfl ?_
    have h4 : dmW S τ 4 c := hc
    have he := cw_4 (dA := dA) (ad := ad) (Sm := Sm) (S := S) (f := f) (i := c)
    rcases hb c hc with z | z | z
    · rw [z, show cb 0 = 5 from rfl] at he
      refine n_callU0 dX11_familyOf_9 ca_X11_268_5 h4 he (c_X6_familyNumber ?_)
      exact e_iretI dX11_familyOf_12 rfl (qi hq (by rw [fam_c (by omega), z]; rfl)) (by decide) (by decide)
    · rw [z, show cb 1 = 8 from rfl] at he
      refine n_callU0 dX11_familyOf_9 ca_X11_268_8 h4 he (c_X10_familyNumber ?_)
      exact e_iretI dX11_familyOf_12 rfl (qi hq (by rw [fam_c (by omega), z]; rfl)) (by decide) (by decide)
    · rw [z, show cb 2 = 3 from rfl] at he
      refine n_callU0 dX11_familyOf_9 ca_X11_268_3 h4 he (c_X4_familyNumber ?_)
      exact e_iretI dX11_familyOf_12 rfl (qi hq (by rw [fam_c (by omega), z]; rfl)) (by decide) (by decide)
  · rw [tr_r (by omega)]
    refine ct_of (by decide) (Nat.le_of_ble_eq_true rfl) ?_
    refine e_aload dX11_familyOf_0 rfl ?_
    refine e_ifnonnull_r dX11_familyOf_1 ?_
    refine e_aload dX11_familyOf_8 rfl ?_
    refine n_callU0 dX11_familyOf_9 ca_X11_268_6 (show dmW S τ 6 r from hr) cw_6 (c_X7_familyNumber ?_)
    exact e_iretI dX11_familyOf_12 rfl (qi hq (fam_r (by omega)).symm) (by decide) (by decide)
  · rw [tr_d (by omega)]
    refine ct_of (by decide) (Nat.le_of_ble_eq_true rfl) ?_
    refine e_aload dX11_familyOf_0 rfl ?_
    refine e_ifnonnull_r dX11_familyOf_1 ?_
    refine e_aload dX11_familyOf_8 rfl ?_
    refine n_callU0 dX11_familyOf_9 ca_X11_268_4 (show dmW S τ 8 d from Nat.lt_of_lt_of_le hd (Nat.le_add_right _ _)) cw_8 (c_X5_familyNumber ?_)
    exact e_iretI dX11_familyOf_12 rfl (qi hq (fam_d (by omega)).symm) (by decide) (by decide)
set_option maxRecDepth 100000 in
set_option maxHeartbeats 4000000 in
theorem l_X0_firstWithoutWeight {b0 : Nat} {D : va_G} {dA : Nat → ClassId} {ad : Nat → Nat → Nat} {Q : PQ} {Sm S : St} {f τ : Nat} {b : Nat} (hb : b < 18) (hm : S.2.1 6 b = nI (mb S b)) (hm60 : mb S b ≤ 60) (hbi : ∀ i, i < mb S b → bc S b i < nC S ∧ S.2.1 4 (bc S b i) = nI (wN S (bc S b i)) ∧ wN S (bc S b i) ≤ 1000 ∧ S.2.1 7 (60 * b + i) = nI (bc S b i)) : ∀ k i, i + k = mb S b → Q (some (va_rf ((fnd (laP S b) k i).bind (lnF ad S b)))) (dmW S τ) ad (cw dA ad Sm S f) → E b0 D dA yX0_firstWithoutWeight cX0_firstWithoutWeight 2 (some (.object "ConstantKinds$Constant")) (Rm 0) E0 (QFm b0 D dA (Rm 0) Q) 2 (lfA [some (.ref (ad 2 b)), some (.int (nI i))]) [] (dmW S τ) ad (cw dA ad Sm S f) 0 0 := by
  intro k
  induction k with
  | zero =>
    intro i hi hq
    refine e_iload dX0_firstWithoutWeight_2 rfl ?_
    refine e_aload dX0_firstWithoutWeight_3 rfl ?_
    refine x_get dX0_firstWithoutWeight_4 fg_X0_17 rfl (show dmW S τ 2 b from hb) cw_2 rfl ?_
    refine e_topi hm ?_
    refine e_icmp_ge dX0_firstWithoutWeight_7 (fun h7 => ?_) (fun h7 => ?_)
    · refine e_null dX0_firstWithoutWeight_35 ?_
      exact e_aret dX0_firstWithoutWeight_36 rfl hq (by decide) (by decide)
    · exact absurd (nI_le (by omega) (by omega)) h7
  | succ k ih =>
    intro i hi hq
    refine e_iload dX0_firstWithoutWeight_2 rfl ?_
    refine e_aload dX0_firstWithoutWeight_3 rfl ?_
    refine x_get dX0_firstWithoutWeight_4 fg_X0_17 rfl (show dmW S τ 2 b from hb) cw_2 rfl ?_
    refine e_topi hm ?_
    refine e_icmp_ge dX0_firstWithoutWeight_7 (fun h7 => ?_) (fun h7 => ?_)
    · exact absurd h7 (nI_ge (by omega) (by omega))
    · have hc := hbi i (by omega)
      refine e_aload dX0_firstWithoutWeight_10 rfl ?_
      refine x_get dX0_firstWithoutWeight_11 fg_X0_11 rfl (show dmW S τ 2 b from hb) cw_2 rfl ?_
      refine e_iload dX0_firstWithoutWeight_14 rfl ?_
      refine x_ald (i) dX0_firstWithoutWeight_15 rfl (show dmW S τ 3 b from hb) cw_3 rfl rfl (by omega) (by first | decide | omega) (ln_t (by omega)) ?_
      refine x_get dX0_firstWithoutWeight_16 (fg_X0_35 (cb_or _)) rfl (show dmW S τ 4 (bc S b i) from hc.1) cw_4 rfl ?_
      refine e_if_gt dX0_firstWithoutWeight_19 (fun h19 => ?_) (fun h19 => ?_)
      · have hz : laP S b i = false := decide_eq_false (fun z => absurd (show (0 : Int32) < 0 from z ▸ h19) (by decide))
        refine e_iinc dX0_firstWithoutWeight_29 rfl (inc1 i) ?_
        refine e_goto dX0_firstWithoutWeight_32 ?_
        exact e_lvA (ih (i + 1) (by omega) (by rw [fnd_f hz] at hq; exact hq)) ⟨rfl, rfl, trivial⟩
      · have hz : laP S b i = true := decide_eq_true (by
          show S.2.1 4 (bc S b i) = 0
          rw [hc.2.1] at h19 ⊢
          rcases Nat.eq_zero_or_pos (wN S (bc S b i)) with z | z
          · rw [z]; rfl
          · exact absurd (show nI 0 < _ from (nI_ltI (by decide) (by omega)).mpr z) h19)
        refine e_aload dX0_firstWithoutWeight_22 rfl ?_
        refine x_get dX0_firstWithoutWeight_23 fg_X0_11 rfl (show dmW S τ 2 b from hb) cw_2 rfl ?_
        refine e_iload dX0_firstWithoutWeight_26 rfl ?_
        refine x_ald (i) dX0_firstWithoutWeight_27 rfl (show dmW S τ 3 b from hb) cw_3 rfl rfl (by omega) (by first | decide | omega) (ln_t (by omega)) ?_
        exact e_aret dX0_firstWithoutWeight_28 rfl (by rw [fnd_t hz] at hq; exact qa hq (by rw [show (some i : Option Nat).bind (lnF ad S b) = lnF ad S b i from rfl, ln_t (by omega)])) (by decide) (by decide)
set_option maxRecDepth 100000 in
set_option maxHeartbeats 4000000 in
theorem c_X0_firstWithoutWeight {b0 : Nat} {D : va_G} {dA : Nat → ClassId} {ad : Nat → Nat → Nat} {Q : PQ} {Sm S : St} {f τ : Nat} {b : Nat} (hb : b < 18) (hm : S.2.1 6 b = nI (mb S b)) (hm60 : mb S b ≤ 60) (hbi : ∀ i, i < mb S b → bc S b i < nC S ∧ S.2.1 4 (bc S b i) = nI (wN S (bc S b i)) ∧ wN S (bc S b i) ≤ 1000 ∧ S.2.1 7 (60 * b + i) = nI (bc S b i)) (hq : Q (some (va_rf ((fnd (laP S b) (mb S b) 0).bind (lnF ad S b)))) (dmW S τ) ad (cw dA ad Sm S f)) : Ct b0 D dA yX0_firstWithoutWeight cX0_firstWithoutWeight 2 (some (.object "ConstantKinds$Constant")) (Rm 0) [.ref (ad 2 b)] (dmW S τ) ad (cw dA ad Sm S f) Q := by
  refine ct_of (by decide) (Nat.le_of_ble_eq_true rfl) ?_
  refine e_push dX0_firstWithoutWeight_0 ?_
  refine e_istore dX0_firstWithoutWeight_1 ?_
  exact e_lvA (l_X0_firstWithoutWeight hb hm hm60 hbi (mb S b) 0 (by omega) hq) ⟨rfl, rfl, trivial⟩
set_option maxRecDepth 100000 in
set_option maxHeartbeats 4000000 in
theorem c_X0_isWhole {b0 : Nat} {D : va_G} {dA : Nat → ClassId} {ad : Nat → Nat → Nat} {Q : PQ} {Sm S : St} {f τ : Nat} {b : Nat} (hb : b < 18) (hm : S.2.1 6 b = nI (mb S b)) (hm60 : mb S b ≤ 60) (hbi : ∀ i, i < mb S b → bc S b i < nC S ∧ S.2.1 4 (bc S b i) = nI (wN S (bc S b i)) ∧ wN S (bc S b i) ≤ 1000 ∧ S.2.1 7 (60 * b + i) = nI (bc S b i)) (hC6 : nC S ≤ 60) (hq : Q (some (.int (bI (decide (lackF S b = 0))))) (dmW S τ) ad (cw dA ad Sm S f)) : Ct b0 D dA yX0_isWhole cX0_isWhole 1 (some .boolean) (Rm 1) [.ref (ad 2 b)] (dmW S τ) ad (cw dA ad Sm S f) Q := by
  refine ct_of (by decide) (Nat.le_of_ble_eq_true rfl) ?_
  refine e_aload dX0_isWhole_0 rfl ?_
  refine x_get dX0_isWhole_1 fg_X0_17 rfl (show dmW S τ 2 b from hb) cw_2 rfl ?_
  refine e_topi hm ?_
  refine e_if_le dX0_isWhole_4 (fun h4 => ?_) (fun h4 => ?_)
  · have hl : ¬ lackF S b = 0 := lack_e (hbz := hm) (by rcases Nat.eq_zero_or_pos (mb S b) with z | z; exact z; exact absurd h4 (nI_nle z (by omega)))
    refine e_push dX0_isWhole_18 ?_
    exact e_iret dX0_isWhole_19 rfl (by first | rfl | exact bI_n _) (qi hq (by first | (rw [decide_eq_false hl]; rfl) | (rw [decide_eq_true hl]; rfl))) (by decide) (by decide)
  · have hpos : 0 < mb S b := by
      rcases Nat.eq_zero_or_pos (mb S b) with z | z
      · rw [z] at h4; exact absurd (by decide) h4
      · exact z
    refine e_aload dX0_isWhole_7 rfl ?_
    refine n_callV0 dX0_isWhole_8 ca_X0_38 (show dmW S τ 2 b from hb) cw_2 (c_X0_firstWithoutWeight hb hm hm60 hbi ?_)
    · skip
      refine e_ifnonnull dX0_isWhole_11 (fun a11 h11 => ?_) (fun h11 => ?_)
      · have hl : ¬ lackF S b = 0 := lack_s (fun i hi => ⟨(hbi i hi).2.2.2, Nat.lt_of_lt_of_le (hbi i hi).1 hC6⟩) (show (fnd (laP S b) (mb S b) 0).bind (lnF ad S b) ≠ none by rw [h11]; exact fun z => by cases z)
        refine e_push dX0_isWhole_18 ?_
        exact e_iret dX0_isWhole_19 rfl (by first | rfl | exact bI_n _) (qi hq (by first | (rw [decide_eq_false hl]; rfl) | (rw [decide_eq_true hl]; rfl))) (by decide) (by decide)
      · have hl : lackF S b = 0 := lack_n hm hpos (bind_n (fun i hi => ln_t hi) h11)
        refine e_push dX0_isWhole_14 ?_
        refine e_goto dX0_isWhole_15 ?_
        exact e_iret dX0_isWhole_19 rfl (by first | rfl | exact bI_n _) (qi hq (by first | (rw [decide_eq_false hl]; rfl) | (rw [decide_eq_true hl]; rfl))) (by decide) (by decide)
set_option maxRecDepth 100000 in
set_option maxHeartbeats 4000000 in
theorem l_X0_weightSum {b0 : Nat} {D : va_G} {dA : Nat → ClassId} {ad : Nat → Nat → Nat} {Q : PQ} {Sm S : St} {f τ : Nat} {b : Nat} (hb : b < 18) (hm : S.2.1 6 b = nI (mb S b)) (hm60 : mb S b ≤ 60) (hbi : ∀ i, i < mb S b → bc S b i < nC S ∧ S.2.1 4 (bc S b i) = nI (wN S (bc S b i)) ∧ wN S (bc S b i) ≤ 1000 ∧ S.2.1 7 (60 * b + i) = nI (bc S b i)) (hq : Q (some (.int (nI (sumW S b (mb S b))))) (dmW S τ) ad (cw dA ad Sm S f)) : ∀ k i, i + k = mb S b → E b0 D dA yX0_weightSum cX0_weightSum 3 (some .int) (Rm 0) E0 (QFm b0 D dA (Rm 0) Q) 4 (lfA [some (.ref (ad 2 b)), some (.int (nI (sumW S b i))), some (.int (nI i))]) [] (dmW S τ) ad (cw dA ad Sm S f) 0 0 := by
  intro k
  induction k with
  | zero =>
    intro i hi
    refine e_iload dX0_weightSum_4 rfl ?_
    refine e_aload dX0_weightSum_5 rfl ?_
    refine x_get dX0_weightSum_6 fg_X0_17 rfl (show dmW S τ 2 b from hb) cw_2 rfl ?_
    refine e_topi hm ?_
    refine e_icmp_ge dX0_weightSum_9 (fun h9 => ?_) (fun h9 => ?_)
    · have e0 : i = mb S b := by omega
      subst e0
      refine e_iload dX0_weightSum_30 rfl ?_
      exact e_iretI dX0_weightSum_31 rfl hq (by decide) (by decide)
    · exact absurd (nI_le (by omega) (by omega)) h9
  | succ k ih =>
    intro i hi
    refine e_iload dX0_weightSum_4 rfl ?_
    refine e_aload dX0_weightSum_5 rfl ?_
    refine x_get dX0_weightSum_6 fg_X0_17 rfl (show dmW S τ 2 b from hb) cw_2 rfl ?_
    refine e_topi hm ?_
    refine e_icmp_ge dX0_weightSum_9 (fun h9 => ?_) (fun h9 => ?_)
    · exact absurd h9 (nI_ge (by omega) (by omega))
    · have hc := hbi i (by omega)
      refine e_iload dX0_weightSum_12 rfl ?_
      refine e_aload dX0_weightSum_13 rfl ?_
      refine x_get dX0_weightSum_14 fg_X0_11 rfl (show dmW S τ 2 b from hb) cw_2 rfl ?_
      refine e_iload dX0_weightSum_17 rfl ?_
      refine x_ald (i) dX0_weightSum_18 rfl (show dmW S τ 3 b from hb) cw_3 rfl rfl (by omega) (by first | decide | omega) (ln_t (by omega)) ?_
      refine x_get dX0_weightSum_19 (fg_X0_35 (cb_or _)) rfl (show dmW S τ 4 (bc S b i) from hc.1) cw_4 rfl ?_
      refine e_topi hc.2.1 ?_
      refine e_iadd dX0_weightSum_22 ?_
      refine e_topi (show _ = nI (sumW S b (i + 1)) from nI_add _ _) ?_
      refine e_istore dX0_weightSum_23 ?_
      refine e_iinc dX0_weightSum_24 rfl (inc1 i) ?_
      refine e_goto dX0_weightSum_27 ?_
      exact e_lvA (ih (i + 1) (by omega)) ⟨rfl, rfl, rfl, trivial⟩
set_option maxRecDepth 100000 in
set_option maxHeartbeats 4000000 in
theorem c_X0_weightSum {b0 : Nat} {D : va_G} {dA : Nat → ClassId} {ad : Nat → Nat → Nat} {Q : PQ} {Sm S : St} {f τ : Nat} {b : Nat} (hb : b < 18) (hm : S.2.1 6 b = nI (mb S b)) (hm60 : mb S b ≤ 60) (hbi : ∀ i, i < mb S b → bc S b i < nC S ∧ S.2.1 4 (bc S b i) = nI (wN S (bc S b i)) ∧ wN S (bc S b i) ≤ 1000 ∧ S.2.1 7 (60 * b + i) = nI (bc S b i)) (hq : Q (some (.int (nI (sumW S b (mb S b))))) (dmW S τ) ad (cw dA ad Sm S f)) : Ct b0 D dA yX0_weightSum cX0_weightSum 3 (some .int) (Rm 0) [.ref (ad 2 b)] (dmW S τ) ad (cw dA ad Sm S f) Q := by
  refine ct_of (by decide) (Nat.le_of_ble_eq_true rfl) ?_
  refine e_push dX0_weightSum_0 ?_
  refine e_istore dX0_weightSum_1 ?_
  refine e_push dX0_weightSum_2 ?_
  refine e_istore dX0_weightSum_3 ?_
  exact e_lvA (l_X0_weightSum hb hm hm60 hbi hq (mb S b) 0 (by omega)) ⟨rfl, rfl, rfl, trivial⟩
set_option maxRecDepth 100000 in
set_option maxHeartbeats 4000000 in
theorem l_X0_reaching {b0 : Nat} {D : va_G} {dA : Nat → ClassId} {ad : Nat → Nat → Nat} {Q : PQ} {Sm S : St} {f τ : Nat} {l : Nat} {b : Nat} (hb : b < 18) (hm : S.2.1 6 b = nI (mb S b)) (hm60 : mb S b ≤ 60) (hbi : ∀ i, i < mb S b → bc S b i < nC S ∧ S.2.1 4 (bc S b i) = nI (wN S (bc S b i)) ∧ wN S (bc S b i) ≤ 1000 ∧ S.2.1 7 (60 * b + i) = nI (bc S b i)) (hl : l < sumW S b (mb S b)) : ∀ k i, i + k = mb S b → sumW S b i ≤ l → Q (some (.ref (ad 4 (bc S b (pick S b k (l - sumW S b i) i))))) (dmW S τ) ad (cw dA ad Sm S f) → E b0 D dA yX0_reaching cX0_reaching 4 (some (.object "ConstantKinds$Constant")) (Rm 0) E0 (QFm b0 D dA (Rm 0) Q) 4 (lfA [some (.ref (ad 2 b)), some (.int (nI l)), some (.int (nI (sumW S b i))), some (.int (nI i))]) [] (dmW S τ) ad (cw dA ad Sm S f) 0 0 := by
  have hsw : sumW S b (mb S b) ≤ 60000 := sumW_le hm60 (fun i hi => (hbi i hi).2.2.1)
  have hsw2 : ∀ i, i < mb S b → sumW S b (i + 1) ≤ 60000 := fun i hi => sumW_le (by omega) (fun j hj => (hbi j (by omega)).2.2.1)
  intro k
  induction k with
  | zero =>
    intro i hi hs
    rw [Nat.add_zero] at hi
    subst hi
    omega
  | succ k ih =>
    intro i hi hs hq
    have hs2 := hsw2 i (by omega)
    refine e_iload dX0_reaching_4 rfl ?_
    refine e_aload dX0_reaching_5 rfl ?_
    refine x_get dX0_reaching_6 fg_X0_17 rfl (show dmW S τ 2 b from hb) cw_2 rfl ?_
    refine e_topi hm ?_
    refine e_icmp_ge dX0_reaching_9 (fun h9 => ?_) (fun h9 => ?_)
    · exact absurd h9 (nI_ge (by omega) (by omega))
    · have hc := hbi i (by omega)
      refine e_iload dX0_reaching_12 rfl ?_
      refine e_aload dX0_reaching_13 rfl ?_
      refine x_get dX0_reaching_14 fg_X0_11 rfl (show dmW S τ 2 b from hb) cw_2 rfl ?_
      refine e_iload dX0_reaching_17 rfl ?_
      refine x_ald (i) dX0_reaching_18 rfl (show dmW S τ 3 b from hb) cw_3 rfl rfl (by omega) (by first | decide | omega) (ln_t (by omega)) ?_
      refine x_get dX0_reaching_19 (fg_X0_35 (cb_or _)) rfl (show dmW S τ 4 (bc S b i) from hc.1) cw_4 rfl ?_
      refine e_topi hc.2.1 ?_
      refine e_iadd dX0_reaching_22 ?_
      refine e_topi (show _ = nI (sumW S b (i + 1)) from nI_add _ _) ?_
      refine e_istore dX0_reaching_23 ?_
      refine e_iload dX0_reaching_24 rfl ?_
      refine e_iload dX0_reaching_25 rfl ?_
      refine e_icmp_le dX0_reaching_26 (fun h26 => ?_) (fun h26 => ?_)
      · have hle : sumW S b (i + 1) ≤ l := (nI_leI (by omega) (by omega)).mp h26
        rw [pick, if_pos (by rw [sumW] at hle; omega), show l - sumW S b i - wN S (bc S b i) = l - sumW S b (i + 1) by rw [sumW]; omega] at hq
        refine e_iinc dX0_reaching_36 rfl (inc1 i) ?_
        refine e_goto dX0_reaching_39 ?_
        exact e_lvA (ih (i + 1) (by omega) hle hq) ⟨rfl, rfl, rfl, rfl, trivial⟩
      · have hlt : l < sumW S b (i + 1) := Nat.lt_of_not_le (fun z => h26 ((nI_leI (by omega) (by omega)).mpr z))
        rw [pick, if_neg (by rw [sumW] at hlt; omega)] at hq
        refine e_aload dX0_reaching_29 rfl ?_
        refine x_get dX0_reaching_30 fg_X0_11 rfl (show dmW S τ 2 b from hb) cw_2 rfl ?_
        refine e_iload dX0_reaching_33 rfl ?_
        refine x_ald (i) dX0_reaching_34 rfl (show dmW S τ 3 b from hb) cw_3 rfl rfl (by omega) (by first | decide | omega) (ln_t (by omega)) ?_
        exact e_aret dX0_reaching_35 rfl hq (by decide) (by decide)
set_option maxRecDepth 100000 in
set_option maxHeartbeats 4000000 in
theorem c_X0_reaching {b0 : Nat} {D : va_G} {dA : Nat → ClassId} {ad : Nat → Nat → Nat} {Q : PQ} {Sm S : St} {f τ : Nat} {l : Nat} {b : Nat} (hb : b < 18) (hm : S.2.1 6 b = nI (mb S b)) (hm60 : mb S b ≤ 60) (hbi : ∀ i, i < mb S b → bc S b i < nC S ∧ S.2.1 4 (bc S b i) = nI (wN S (bc S b i)) ∧ wN S (bc S b i) ≤ 1000 ∧ S.2.1 7 (60 * b + i) = nI (bc S b i)) (hl : l < sumW S b (mb S b)) (hq : Q (some (.ref (ad 4 (bc S b (pick S b (mb S b) l 0))))) (dmW S τ) ad (cw dA ad Sm S f)) : Ct b0 D dA yX0_reaching cX0_reaching 4 (some (.object "ConstantKinds$Constant")) (Rm 0) [.ref (ad 2 b), .int (nI l)] (dmW S τ) ad (cw dA ad Sm S f) Q := by
  refine ct_of (by decide) (Nat.le_of_ble_eq_true rfl) ?_
  refine e_push dX0_reaching_0 ?_
  refine e_istore dX0_reaching_1 ?_
  refine e_push dX0_reaching_2 ?_
  refine e_istore dX0_reaching_3 ?_
  exact e_lvA (l_X0_reaching hb hm hm60 hbi hl (mb S b) 0 (by omega) (Nat.zero_le _) hq) ⟨rfl, rfl, rfl, rfl, trivial⟩
