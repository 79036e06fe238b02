set_option maxRecDepth 100000 in
set_option maxHeartbeats 4000000 in
theorem c_X12_familyOf {b0 : Nat} {D : va_G} {dA : Nat → ClassId} {dm : Nat → Nat → Prop} {ad : Nat → Nat → Nat} {Q : PQ} {ct0 : Nat → Nat → va_E} {S : St} (hM : dmM dm) (v : Int32) (hv : okT S v) (hR : nR S ≤ 512) (hC : nC S ≤ 60) (hq : Q (some (.int (famF S v))) dm ad (ctM dA ad ct0 S)) : Ct b0 D dA yX12_familyOf cX12_familyOf 2 (some .int) (Rm 0) [.ref (ad 16 0), .int v] dm ad (ctM dA ad ct0 S) Q := by
  refine ct_of (by decide) (Nat.le_of_ble_eq_true rfl) ?_
  refine e_iload dX12_familyOf_0 rfl ?_
  refine e_push dX12_familyOf_1 ?_
  refine e_icmp_ne dX12_familyOf_2 (fun h2 => ?_) (fun h2 => ?_)
  · refine e_iload dX12_familyOf_9 rfl ?_
    refine e_push dX12_familyOf_10 ?_
    refine e_icmp_ge dX12_familyOf_12 (fun h12 => ?_) (fun h12 => ?_)
    · refine e_iload dX12_familyOf_26 rfl ?_
      refine e_ldc dX12_familyOf_27 kw_X12_152 ?_
      refine e_icmp_ge dX12_familyOf_29 (fun h29 => ?_) (fun h29 => ?_)
      · refine e_push dX12_familyOf_36 ?_
        exact e_iretI dX12_familyOf_37 rfl (qi hq (by first | (simp [famF, h2]; done) | (simp only [famF, if_neg h2, if_pos (Int32.not_le.mp h12), tN_n (show c < 2 ^ 31 by omega)]; done) | (simp only [famF, if_neg h2, if_neg (Int32.not_lt.mpr h12), if_pos (Int32.not_le.mp h29)]; done) | (simp only [famF, if_neg h2, if_neg (Int32.not_lt.mpr h12), if_neg (Int32.not_lt.mpr h29)]; done))) (by decide) (by decide)
      · refine e_push dX12_familyOf_32 ?_
        refine e_goto dX12_familyOf_33 ?_
        exact e_iretI dX12_familyOf_37 rfl (qi hq (by first | (simp [famF, h2]; done) | (simp only [famF, if_neg h2, if_pos (Int32.not_le.mp h12), tN_n (show c < 2 ^ 31 by omega)]; done) | (simp only [famF, if_neg h2, if_neg (Int32.not_lt.mpr h12), if_pos (Int32.not_le.mp h29)]; done) | (simp only [famF, if_neg h2, if_neg (Int32.not_lt.mpr h12), if_neg (Int32.not_lt.mpr h29)]; done))) (by decide) (by decide)
    · obtain ⟨c, hc, rfl⟩ : ∃ c, c < nC S ∧ v = nI c := by
        rcases okT_fam hv hR hC with h | ⟨-, -, h⟩ | ⟨-, h, -⟩ | ⟨-, h, -⟩
        · exact absurd h h2
        · exact h
        · exact absurd (Int32.not_le.mp h12) h
        · exact absurd (Int32.not_le.mp h12) h
      refine e_push dX12_familyOf_15 ?_
      refine e_aload dX12_familyOf_16 rfl ?_
      refine m_geta dX12_familyOf_17 fg_X12_17 hM (by decide) rfl ?_
      refine e_iload dX12_familyOf_20 rfl ?_
      refine m_aldN (c) dX12_familyOf_21 hM rfl (by decide) (by first | rfl | simp only [li_1, li_2, li_3, li_4, li_5, li_12, li_60, pk_mul, nI_add]) (by first | omega | (simp only [mLen]; omega)) (by decide) ?_
      refine e_iadd dX12_familyOf_22 ?_
      refine e_goto dX12_familyOf_23 ?_
      exact e_iretI dX12_familyOf_37 rfl (qi hq (by first | (simp [famF, h2]; done) | (simp only [famF, if_neg h2, if_pos (Int32.not_le.mp h12), tN_n (show c < 2 ^ 31 by omega)]; done) | (simp only [famF, if_neg h2, if_neg (Int32.not_lt.mpr h12), if_pos (Int32.not_le.mp h29)]; done) | (simp only [famF, if_neg h2, if_neg (Int32.not_lt.mpr h12), if_neg (Int32.not_lt.mpr h29)]; done))) (by decide) (by decide)
  · refine e_push dX12_familyOf_5 ?_
    refine e_goto dX12_familyOf_6 ?_
    exact e_iretI dX12_familyOf_37 rfl (qi hq (by first | (simp [famF, h2]; done) | (simp only [famF, if_neg h2, if_pos (Int32.not_le.mp h12), tN_n (show c < 2 ^ 31 by omega)]; done) | (simp only [famF, if_neg h2, if_neg (Int32.not_lt.mpr h12), if_pos (Int32.not_le.mp h29)]; done) | (simp only [famF, if_neg h2, if_neg (Int32.not_lt.mpr h12), if_neg (Int32.not_lt.mpr h29)]; done))) (by decide) (by decide)
set_option maxRecDepth 100000 in
set_option maxHeartbeats 4000000 in
theorem c_X12_hold {b0 : Nat} {D : va_G} {dA : Nat → ClassId} {dm : Nat → Nat → Prop} {ad : Nat → Nat → Nat} {Q : PQ} {ct0 : Nat → Nat → va_E} {S : St} (hM : dmM dm) {t : Nat} (I : Inv S t) (p c : Int32) (hq : Q (some (.int (F_hold S p c).1)) dm ad (ctM dA ad ct0 (F_hold S p c).2)) : Ct b0 D dA yX12_hold cX12_hold 3 (some .int) (Rm 2) [.ref (ad 16 0), .int p, .int c] dm ad (ctM dA ad ct0 S) Q := by
  refine ct_of (by decide) (Nat.le_of_ble_eq_true rfl) ?_
  refine e_iload dX12_hold_0 rfl ?_
  refine n_callS1 dX12_hold_1 ca_X12_153  (c_X12_isPlace _ ?_) 
  refine e_if_eqB dX12_hold_4 (fun h4 => ?_) (fun h4 => ?_)
  · refine e_push dX12_hold_15 ?_
    exact e_iretI dX12_hold_16 rfl (qs hq (by first | (simp [F_hold, h4]; done) | (simp [F_hold, isC, h12]; done))) (by decide) (by decide)
  · obtain ⟨p, p1, p2, rfl⟩ := inB_l (a := 0) (b := 9) rfl rfl (by decide) (by decide) h4
    have tp : tN (nI p) = p := tN_n (by omega)
    refine e_aload dX12_hold_7 rfl ?_
    refine e_iload dX12_hold_8 rfl ?_
    refine n_callV1 dX12_hold_9 ca_X12_116 hM.1 ctM_o (c_X12_isConstant hM _ ?_) 
    refine e_if_neB dX12_hold_12 (fun h12 => ?_) (fun h12 => ?_)
    · have h60 := I.1.2.1
      have e0 := I.1.1
      obtain ⟨c, hc, rfl⟩ := inB_n (N := nC S) (by omega) (by rw [← e0]; exact h12)
      have tc : tN (nI c) = c := tN_n (by omega)
      obtain ⟨hk, hk6, hbo, hw, hw1⟩ := I.1.2.2.1 c hc
      refine e_aload dX12_hold_17 rfl ?_
      refine m_geta dX12_hold_18 fg_X12_47 hM (by decide) rfl ?_
      refine e_iload dX12_hold_21 rfl ?_
      refine e_iload dX12_hold_22 rfl ?_
      refine m_astN (p) dX12_hold_23 hM rfl (by decide) (by first | rfl | simp only [li_1, li_2, li_3, li_4, li_5, li_12, li_60, pk_mul, nI_add]) (by first | omega | (simp only [mLen]; omega)) (by decide) ?_
      refine e_aload dX12_hold_24 rfl ?_
      refine e_iload dX12_hold_25 rfl ?_
      refine n_callV1 dX12_hold_26 ca_X12_141 hM.1 ctM_o (c_X12_starts hM (by omega) hk hk6 ?_) 
      refine e_aload dX12_hold_29 rfl ?_
      refine e_dup dX12_hold_30 ?_
      refine m_geti dX12_hold_31 fg_X12_138 hM (by decide) rfl ?_
      refine e_push dX12_hold_34 ?_
      refine e_iadd dX12_hold_35 ?_
      refine m_put dX12_hold_36 fp_X12_138 hM (by decide) rfl ?_
      refine e_aload dX12_hold_39 rfl ?_
      refine m_geta dX12_hold_40 fg_X12_7 hM (by decide) rfl ?_
      refine e_iload dX12_hold_43 rfl ?_
      refine m_aldN (c) dX12_hold_44 hM rfl (by decide) (by first | rfl | simp only [li_1, li_2, li_3, li_4, li_5, li_12, li_60, pk_mul, nI_add]) (by first | omega | (simp only [mLen]; omega)) (by decide) ?_
      exact e_iretI dX12_hold_45 rfl (qs hq (by simp only [F_hold, isC, h4, h12, Bool.and_self, if_true, tp, tc]; rfl)) (by decide) (by decide)
    · refine e_push dX12_hold_15 ?_
      exact e_iretI dX12_hold_16 rfl (qs hq (by first | (simp [F_hold, h4]; done) | (simp [F_hold, isC, h12]; done))) (by decide) (by decide)
set_option maxRecDepth 100000 in
set_option maxHeartbeats 4000000 in
theorem l2_X12_isName {b0 : Nat} {D : va_G} {dA : Nat → ClassId} {dm : Nat → Nat → Prop} {ad : Nat → Nat → Nat} {Q : PQ} {ct : Nat → Nat → va_E} {name : Int64} {is e2 : Bool} {n i : Nat} {ch : Int32} (kk : ∀ z, z = bI (is && (decide (ch = 0) || (!e2 && letB ch))) → E b0 D dA yX12_isName cX12_isName 7 (some .boolean) (Rm 0) E0 (QFm b0 D dA (Rm 0) Q) 74 (lfA [some (.long name), none, some (.int (bI is)), some (.int (bI e2)), some (.int (nI n)), some (.int (nI i)), some (.int ch)]) [.int z] dm ad ct 0 0) : E b0 D dA yX12_isName cX12_isName 7 (some .boolean) (Rm 0) E0 (QFm b0 D dA (Rm 0) Q) 44 (lfA [some (.long name), none, some (.int (bI is)), some (.int (bI e2)), some (.int (nI n)), some (.int (nI i)), some (.int ch)]) [] dm ad ct 0 0 := by
  refine e_iload dX12_isName_44 rfl ?_
  refine e_iload dX12_isName_45 rfl ?_
  refine e_if_eq dX12_isName_47 (fun h47 => ?_) (fun h47 => ?_)
  · refine e_push dX12_isName_68 ?_
    refine e_goto dX12_isName_69 ?_
    refine e_iand dX12_isName_73 ?_
    exact kk _ (show _ = bI (is && (decide (ch = 0) || (!e2 && letB ch))) by first | (rw [decide_eq_true h47]; exact bI_and is true) | (rw [h51, decide_eq_false h47]; exact bI_and is false) | (rw [decide_eq_false h47, letB_f1 h58, Bool.and_false]; exact bI_and is false) | (rw [decide_eq_false h47, letB_f2 h65, Bool.and_false]; exact bI_and is false) | (rw [decide_eq_false h47, h51, letB_t h58 h65]; exact bI_and is true))
  · refine e_iload dX12_isName_50 rfl ?_
    refine e_if_neB dX12_isName_51 (fun h51 => ?_) (fun h51 => ?_)
    · refine e_push dX12_isName_72 ?_
      refine e_iand dX12_isName_73 ?_
      exact kk _ (show _ = bI (is && (decide (ch = 0) || (!e2 && letB ch))) by first | (rw [decide_eq_true h47]; exact bI_and is true) | (rw [h51, decide_eq_false h47]; exact bI_and is false) | (rw [decide_eq_false h47, letB_f1 h58, Bool.and_false]; exact bI_and is false) | (rw [decide_eq_false h47, letB_f2 h65, Bool.and_false]; exact bI_and is false) | (rw [decide_eq_false h47, h51, letB_t h58 h65]; exact bI_and is true))
    · refine e_iload dX12_isName_54 rfl ?_
      refine e_push dX12_isName_56 ?_
      refine e_icmp_lt dX12_isName_58 (fun h58 => ?_) (fun h58 => ?_)
      · refine e_push dX12_isName_72 ?_
        refine e_iand dX12_isName_73 ?_
        exact kk _ (show _ = bI (is && (decide (ch = 0) || (!e2 && letB ch))) by first | (rw [decide_eq_true h47]; exact bI_and is true) | (rw [h51, decide_eq_false h47]; exact bI_and is false) | (rw [decide_eq_false h47, letB_f1 h58, Bool.and_false]; exact bI_and is false) | (rw [decide_eq_false h47, letB_f2 h65, Bool.and_false]; exact bI_and is false) | (rw [decide_eq_false h47, h51, letB_t h58 h65]; exact bI_and is true))
      · refine e_iload dX12_isName_61 rfl ?_
        refine e_push dX12_isName_63 ?_
        refine e_icmp_gt dX12_isName_65 (fun h65 => ?_) (fun h65 => ?_)
        · refine e_push dX12_isName_72 ?_
          refine e_iand dX12_isName_73 ?_
          exact kk _ (show _ = bI (is && (decide (ch = 0) || (!e2 && letB ch))) by first | (rw [decide_eq_true h47]; exact bI_and is true) | (rw [h51, decide_eq_false h47]; exact bI_and is false) | (rw [decide_eq_false h47, letB_f1 h58, Bool.and_false]; exact bI_and is false) | (rw [decide_eq_false h47, letB_f2 h65, Bool.and_false]; exact bI_and is false) | (rw [decide_eq_false h47, h51, letB_t h58 h65]; exact bI_and is true))
        · refine e_push dX12_isName_68 ?_
          refine e_goto dX12_isName_69 ?_
          refine e_iand dX12_isName_73 ?_
          exact kk _ (show _ = bI (is && (decide (ch = 0) || (!e2 && letB ch))) by first | (rw [decide_eq_true h47]; exact bI_and is true) | (rw [h51, decide_eq_false h47]; exact bI_and is false) | (rw [decide_eq_false h47, letB_f1 h58, Bool.and_false]; exact bI_and is false) | (rw [decide_eq_false h47, letB_f2 h65, Bool.and_false]; exact bI_and is false) | (rw [decide_eq_false h47, h51, letB_t h58 h65]; exact bI_and is true))
set_option maxRecDepth 100000 in
set_option maxHeartbeats 4000000 in
theorem l3_X12_isName {b0 : Nat} {D : va_G} {dA : Nat → ClassId} {dm : Nat → Nat → Prop} {ad : Nat → Nat → Nat} {Q : PQ} {ct : Nat → Nat → va_E} {name : Int64} {is e2 i2 : Bool} {n i : Nat} {ch : Int32} (kk : E b0 D dA yX12_isName cX12_isName 7 (some .boolean) (Rm 0) E0 (QFm b0 D dA (Rm 0) Q) 10 (lfA [some (.long name), none, some (.int (bI i2)), some (.int (bI e2)), some (.int (nI (n + if ch = 0 then 0 else 1))), some (.int (nI (i + 1)))]) [] dm ad ct 0 0) : E b0 D dA yX12_isName cX12_isName 7 (some .boolean) (Rm 0) E0 (QFm b0 D dA (Rm 0) Q) 74 (lfA [some (.long name), none, some (.int (bI is)), some (.int (bI e2)), some (.int (nI n)), some (.int (nI i)), some (.int ch)]) [.int (bI i2)] dm ad ct 0 0 := by
  refine e_istore dX12_isName_74 ?_
  refine e_iload dX12_isName_75 rfl ?_
  refine e_iload dX12_isName_77 rfl ?_
  refine e_if_eq dX12_isName_79 (fun h79 => ?_) (fun h79 => ?_)
  · refine e_push dX12_isName_86 ?_
    refine e_iadd dX12_isName_87 ?_
    refine e_topi (show _ = nI (n + if ch = 0 then 0 else 1) by first | (rw [if_pos (by assumption)]; exact Int32.add_zero _) | (rw [if_neg (by assumption)]; exact nI_1 n)) ?_
    refine e_istore dX12_isName_88 ?_
    refine e_iinc dX12_isName_90 rfl (inc1 i) ?_
    refine e_goto dX12_isName_93 ?_
    exact e_lvA kk ⟨rfl, rfl, rfl, rfl, rfl, trivial⟩
  · refine e_push dX12_isName_82 ?_
    refine e_goto dX12_isName_83 ?_
    refine e_iadd dX12_isName_87 ?_
    refine e_topi (show _ = nI (n + if ch = 0 then 0 else 1) by first | (rw [if_pos (by assumption)]; exact Int32.add_zero _) | (rw [if_neg (by assumption)]; exact nI_1 n)) ?_
    refine e_istore dX12_isName_88 ?_
    refine e_iinc dX12_isName_90 rfl (inc1 i) ?_
    refine e_goto dX12_isName_93 ?_
    exact e_lvA kk ⟨rfl, rfl, rfl, rfl, rfl, trivial⟩
set_option maxRecDepth 100000 in
set_option maxHeartbeats 4000000 in
theorem l_X12_isName {b0 : Nat} {D : va_G} {dA : Nat → ClassId} {dm : Nat → Nat → Prop} {ad : Nat → Nat → Nat} {Q : PQ} {ct : Nat → Nat → va_E} {name : Int64} : ∀ k i is en n, i + k = 8 → n ≤ i → Q (some (.int (bI (nmL name k i is en n)))) dm ad ct → E b0 D dA yX12_isName cX12_isName 7 (some .boolean) (Rm 0) E0 (QFm b0 D dA (Rm 0) Q) 10 (lfA [some (.long name), none, some (.int (bI is)), some (.int (bI en)), some (.int (nI n)), some (.int (nI i))]) [] dm ad ct 0 0 := by
  intro k
  induction k with
  | zero =>
    intro i is en n hi hn hq
    refine e_iload dX12_isName_10 rfl ?_
    refine e_push dX12_isName_12 ?_
    refine e_icmp_ge dX12_isName_14 (fun h14 => ?_) (fun h14 => ?_)
    · refine e_iload dX12_isName_96 rfl ?_
      refine e_if_eqB dX12_isName_97 (fun h97 => ?_) (fun h97 => ?_)
      · refine e_push dX12_isName_109 ?_
        exact e_iret dX12_isName_110 rfl (by first | rfl | exact bI_n _) (qi hq (by first | (rw [h97]; rfl) | (rw [h97, hn0]; rfl) | (rw [h97, nmL, decide_eq_true hn0]; rfl))) (by decide) (by decide)
      · refine e_iload dX12_isName_100 rfl ?_
        refine e_if_le dX12_isName_102 (fun h102 => ?_) (fun h102 => ?_)
        · have hn0 : n = 0 := by
            rcases Nat.eq_zero_or_pos n with z | z
            · exact z
            · exact absurd h102 (nI_nle z (by omega))
          refine e_push dX12_isName_109 ?_
          exact e_iret dX12_isName_110 rfl (by first | rfl | exact bI_n _) (qi hq (by first | (rw [h97]; rfl) | (rw [h97, hn0]; rfl) | (rw [h97, nmL, decide_eq_true hn0]; rfl))) (by decide) (by decide)
        · have hn0 : 0 < n := by
            rcases Nat.eq_zero_or_pos n with z | z
            · subst z; exact absurd (by decide) h102
            · exact z
          refine e_push dX12_isName_105 ?_
          refine e_goto dX12_isName_106 ?_
          exact e_iret dX12_isName_110 rfl (by first | rfl | exact bI_n _) (qi hq (by first | (rw [h97]; rfl) | (rw [h97, hn0]; rfl) | (rw [h97, nmL, decide_eq_true hn0]; rfl))) (by decide) (by decide)
    · exact absurd (show (8 : Int32) ≤ nI i by rw [show i = 8 by omega]; decide) h14
  | succ k ih =>
    intro i is en n hi hn hq
    refine e_iload dX12_isName_10 rfl ?_
    refine e_push dX12_isName_12 ?_
    refine e_icmp_ge dX12_isName_14 (fun h14 => ?_) (fun h14 => ?_)
    · exact absurd h14 (by show ¬ nI 8 ≤ nI i; exact nI_ge (by omega) (by decide))
    · obtain ⟨ch, hch⟩ : ∃ ch, chN name i = ch := ⟨_, rfl⟩
      rw [nmL, hch] at hq
      refine e_lload dX12_isName_17 rfl ?_
      refine e_push dX12_isName_18 ?_
      refine e_iload dX12_isName_20 rfl ?_
      refine e_imul dX12_isName_22 ?_
      refine e_lushr dX12_isName_23 ?_
      refine e_l2i dX12_isName_24 ?_
      refine e_push dX12_isName_25 ?_
      refine e_iand dX12_isName_28 ?_
      refine e_topi (show _ = ch from hch) ?_
      refine e_istore dX12_isName_29 ?_
      refine e_iload dX12_isName_31 rfl ?_
      refine e_iload dX12_isName_32 rfl ?_
      refine e_if_ne dX12_isName_34 (fun h34 => ?_) (fun h34 => ?_)
      · refine e_push dX12_isName_41 ?_
        refine e_ior dX12_isName_42 ?_
        refine e_topi (show _ = bI (en || decide (ch = 0)) by first | (rw [decide_eq_true (by first | assumption | exact Decidable.not_not.mp (by assumption))]; exact bI_or en true) | (rw [decide_eq_false (by assumption)]; exact bI_or en false)) ?_
        refine e_istore dX12_isName_43 ?_
        exact e_lvA (l2_X12_isName (fun z hz => by
          subst hz
          exact l3_X12_isName (ih (i + 1) _ _ _ (by omega) (by split <;> omega) hq))) ⟨rfl, rfl, rfl, rfl, rfl, rfl, trivial⟩
      · refine e_push dX12_isName_37 ?_
        refine e_goto dX12_isName_38 ?_
        refine e_ior dX12_isName_42 ?_
        refine e_topi (show _ = bI (en || decide (ch = 0)) by first | (rw [decide_eq_true (by first | assumption | exact Decidable.not_not.mp (by assumption))]; exact bI_or en true) | (rw [decide_eq_false (by assumption)]; exact bI_or en false)) ?_
        refine e_istore dX12_isName_43 ?_
        exact e_lvA (l2_X12_isName (fun z hz => by
          subst hz
          exact l3_X12_isName (ih (i + 1) _ _ _ (by omega) (by split <;> omega) hq))) ⟨rfl, rfl, rfl, rfl, rfl, rfl, trivial⟩
set_option maxRecDepth 100000 in
set_option maxHeartbeats 4000000 in
theorem c_X12_isName {b0 : Nat} {D : va_G} {dA : Nat → ClassId} {dm : Nat → Nat → Prop} {ad : Nat → Nat → Nat} {Q : PQ} {ct : Nat → Nat → va_E} (name : Int64) (hq : Q (some (.int (bI (nameB name)))) dm ad ct) : Ct b0 D dA yX12_isName cX12_isName 7 (some .boolean) (Rm 0) [.long name] dm ad ct Q := by
  refine ct_of (by decide) (Nat.le_of_ble_eq_true rfl) ?_
  refine e_push dX12_isName_0 ?_
  refine e_istore dX12_isName_1 ?_
  refine e_push dX12_isName_2 ?_
  refine e_istore dX12_isName_3 ?_
  refine e_push dX12_isName_4 ?_
  refine e_istore dX12_isName_5 ?_
  refine e_push dX12_isName_7 ?_
  refine e_istore dX12_isName_8 ?_
  exact e_lvA (l_X12_isName 8 0 true false 0 (by omega) (by omega) hq) ⟨rfl, rfl, rfl, rfl, rfl, trivial⟩
set_option maxRecDepth 100000 in
set_option maxHeartbeats 4000000 in
theorem c_X12_constant {b0 : Nat} {D : va_G} {dA : Nat → ClassId} {dm : Nat → Nat → Prop} {ad : Nat → Nat → Nat} {Q : PQ} {ct0 : Nat → Nat → va_E} {S : St} (hM : dmM dm) {t : Nat} (I : Inv S t) (kind : Int32) (name : Int64) (body : Int32) (hq : Q (some (.int (F_constant S kind name body).1)) dm ad (ctM dA ad ct0 (F_constant S kind name body).2)) : Ct b0 D dA yX12_constant cX12_constant 6 (some .int) (Rm 2) [.ref (ad 16 0), .int kind, .long name, .int body] dm ad (ctM dA ad ct0 S) Q := by
  refine ct_of (by decide) (Nat.le_of_ble_eq_true rfl) ?_
  refine e_iload dX12_constant_0 rfl ?_
  refine n_callS1 dX12_constant_1 ca_X12_100  (c_X12_isKind _ ?_) 
  refine e_if_eqB dX12_constant_4 (fun h4 => ?_) (fun h4 => ?_)
  · refine e_push dX12_constant_33 ?_
    exact e_iretI dX12_constant_34 rfl (qs hq (by first | (simp [F_constant, h4]; done) | (simp [F_constant, h11]; done) | (simp [F_constant, hf]; done) | (simp [F_constant, h30]; done))) (by decide) (by decide)
  · obtain ⟨kind, kind1, kind2, rfl⟩ := inB_l (a := 0) (b := 5) rfl rfl (by decide) (by decide) h4
    have tkind : tN (nI kind) = kind := tN_n (by omega)
    refine e_lload dX12_constant_7 rfl ?_
    refine n_callS1 dX12_constant_8 ca_X12_104  (c_X12_isName _ ?_) 
    refine e_if_eqB dX12_constant_11 (fun h11 => ?_) (fun h11 => ?_)
    · refine e_push dX12_constant_33 ?_
      exact e_iretI dX12_constant_34 rfl (qs hq (by first | (simp [F_constant, h4]; done) | (simp [F_constant, h11]; done) | (simp [F_constant, hf]; done) | (simp [F_constant, h30]; done))) (by decide) (by decide)
    · refine e_aload dX12_constant_14 rfl ?_
      refine e_iload dX12_constant_15 rfl ?_
      refine e_lload dX12_constant_16 rfl ?_
      refine n_callV2 dX12_constant_17 ca_X12_108 hM.1 ctM_o (c_X12_byName hM _ _ I.1.1 I.1.2.1 ?_) 
      refine e_if_ge dX12_constant_20 (fun h20 => ?_) (fun h20 => ?_)
      · have hf : decide (fnd (byP S (nI kind) name) (nC S) 0 = none) = false := by
          cases hf : fnd (byP S (nI kind) name) (nC S) 0 with
          | none => rw [hf] at h20; exact absurd h20 (by decide)
          | some j => rfl
        refine e_push dX12_constant_33 ?_
        exact e_iretI dX12_constant_34 rfl (qs hq (by first | (simp [F_constant, h4]; done) | (simp [F_constant, h11]; done) | (simp [F_constant, hf]; done) | (simp [F_constant, h30]; done))) (by decide) (by decide)
      · have hf : decide (fnd (byP S (nI kind) name) (nC S) 0 = none) = true := by
          cases hf : fnd (byP S (nI kind) name) (nC S) 0 with
          | none => rfl
          | some j => rw [hf] at h20; exact absurd (nI_pos' (by have := fnd_lt hf; have := I.1.2.1; omega)) h20
        refine e_iload dX12_constant_23 rfl ?_
        refine e_push dX12_constant_25 ?_
        refine e_push dX12_constant_26 ?_
        refine n_callS3 dX12_constant_27 ca_X12_96  (c_X12_in _ _ _ ?_) 
        refine e_if_neB dX12_constant_30 (fun h30 => ?_) (fun h30 => ?_)
        · refine e_aload dX12_constant_35 rfl ?_
          refine m_geti dX12_constant_36 fg_X12_93 hM (by decide) rfl ?_
          refine e_push dX12_constant_39 ?_
          refine e_icmp_ne dX12_constant_41 (fun h41 => ?_) (fun h41 => ?_)
          · have h60 : nC S < 60 := by
              rcases Nat.lt_or_ge (nC S) 60 with z | z
              · exact z
              · exact absurd (I.1.1.trans (by rw [show nC S = 60 by have := I.1.2.1; omega]; rfl)) h41
            obtain ⟨hm, hmC, hbi, hbj⟩ := I.2.1 (3 * kind) (by omega)
            refine e_aload dX12_constant_47 rfl ?_
            refine m_geti dX12_constant_48 fg_X12_93 hM (by decide) rfl ?_
            refine e_topi I.1.1 ?_
            refine e_istore dX12_constant_51 ?_
            refine e_aload dX12_constant_53 rfl ?_
            refine m_geta dX12_constant_54 fg_X12_7 hM (by decide) rfl ?_
            refine e_iload dX12_constant_57 rfl ?_
            refine e_iload dX12_constant_59 rfl ?_
            refine m_astN (nC S) dX12_constant_60 hM rfl (by decide) (by first | rfl | simp only [li_1, li_2, li_3, li_4, li_5, li_12, li_60, pk_mul, nI_add]) (by first | omega | (simp only [mLen]; omega)) (by decide) ?_
            refine e_aload dX12_constant_61 rfl ?_
            refine m_geta dX12_constant_62 fg_X12_13 hM (by decide) rfl ?_
            refine e_iload dX12_constant_65 rfl ?_
            refine e_lload dX12_constant_67 rfl ?_
            refine m_lstN (nC S) dX12_constant_68 hM (by first | rfl | simp only [li_1, li_2, li_3, li_4, li_5, li_12, li_60, pk_mul, nI_add]) (by first | omega | (simp only [mLen]; omega)) ?_
            refine e_aload dX12_constant_69 rfl ?_
            refine m_geta dX12_constant_70 fg_X12_17 hM (by decide) rfl ?_
            refine e_iload dX12_constant_73 rfl ?_
            refine e_iload dX12_constant_75 rfl ?_
            refine m_astN (nC S) dX12_constant_77 hM rfl (by decide) (by first | rfl | simp only [li_1, li_2, li_3, li_4, li_5, li_12, li_60, pk_mul, nI_add]) (by first | omega | (simp only [mLen]; omega)) (by decide) ?_
            refine e_aload dX12_constant_78 rfl ?_
            refine e_dup dX12_constant_79 ?_
            refine m_geti dX12_constant_80 fg_X12_93 hM (by decide) rfl ?_
            refine e_push dX12_constant_83 ?_
            refine e_iadd dX12_constant_84 ?_
            refine m_put dX12_constant_85 fp_X12_93 hM (by decide) rfl ?_
            refine e_aload dX12_constant_88 rfl ?_
            refine e_iload dX12_constant_89 rfl ?_
            refine e_push dX12_constant_91 ?_
            refine n_callV2 dX12_constant_92 ca_X12_112 hM.1 ctM_o (c_X12_append (S := coS S (nI kind) name body) (b := 3 * kind) (m := mb S (3 * kind)) (k := kind) (bd := 0) hM h60 (show u2 S.2.1 1 (nC S) (nI kind) 1 (nC S) = nI kind from u2_s) rfl (by omega) hm (by omega) ?_) 
            refine e_pop dX12_constant_95 ?_
            refine e_iload dX12_constant_96 rfl ?_
            exact e_iretI dX12_constant_98 rfl (qs hq (by simp only [F_constant, h4, h11, hf, h30, Bool.and_self, if_true, tkind]; rw [if_neg h41])) (by decide) (by decide)
          · refine e_push dX12_constant_44 ?_
            exact e_iretI dX12_constant_46 rfl (qs hq (by simp only [F_constant, h4, h11, hf, h30, Bool.and_self, if_true]; rw [if_pos h41])) (by decide) (by decide)
        · refine e_push dX12_constant_33 ?_
          exact e_iretI dX12_constant_34 rfl (qs hq (by first | (simp [F_constant, h4]; done) | (simp [F_constant, h11]; done) | (simp [F_constant, hf]; done) | (simp [F_constant, h30]; done))) (by decide) (by decide)
set_option maxRecDepth 100000 in
set_option maxHeartbeats 4000000 in
theorem l_X12_row {b0 : Nat} {D : va_G} {dA : Nat → ClassId} {dm : Nat → Nat → Prop} {ad : Nat → Nat → Nat} {Q : PQ} {ct0 : Nat → Nat → va_E} {S : St} (hM : dmM dm) {p : Nat} {n : Int32} {a : Nat → Nat → Int32} (hp : p < 10) (hr : S.1 8 = nI (nR S)) (hr5 : nR S < 520) (hq : Q (some (.int 1)) dm ad (ctM dA ad ct0 (u1 S.1 8 (S.1 8 + 1), u2 (zerA (nR S) 12 a) 15 p (nI (100 + nR S)), S.2.2))) : ∀ k i, i + k = 12 → E b0 D dA yX12_row cX12_row 4 (some .int) (Rm 2) E0 (QFm b0 D dA (Rm 2) Q) 52 (lfA [some (.ref (ad 16 0)), some (.int (nI p)), some (.int n), some (.int (nI i))]) [] dm ad (ctM dA ad ct0 (S.1, zerA (nR S) i a, S.2.2)) 0 0 := by
  intro k
  induction k with
  | zero =>
    intro i hi
    refine e_iload dX12_row_52 rfl ?_
    refine e_push dX12_row_53 ?_
    refine e_icmp_ge dX12_row_55 (fun h55 => ?_) (fun h55 => ?_)
    · have e12 : i = 12 := by omega
      subst e12
      refine e_aload dX12_row_79 rfl ?_
      refine m_geta dX12_row_80 fg_X12_47 hM (by decide) rfl ?_
      refine e_iload dX12_row_83 rfl ?_
      refine e_push dX12_row_84 ?_
      refine e_aload dX12_row_86 rfl ?_
      refine m_geti dX12_row_87 fg_X12_156 hM (by decide) rfl ?_
      refine e_iadd dX12_row_90 ?_
      refine e_topi (show _ = nI (100 + nR S) by rw [hr]; exact nI_add 100 (nR S)) ?_
      refine m_astN (p) dX12_row_91 hM rfl (by decide) (by first | rfl | simp only [li_1, li_2, li_3, li_4, li_5, li_12, li_60, pk_mul, nI_add]) (by first | omega | (simp only [mLen]; omega)) (by decide) ?_
      refine e_aload dX12_row_92 rfl ?_
      refine e_dup dX12_row_93 ?_
      refine m_geti dX12_row_94 fg_X12_156 hM (by decide) rfl ?_
      refine e_push dX12_row_97 ?_
      refine e_iadd dX12_row_98 ?_
      refine m_put dX12_row_99 fp_X12_156 hM (by decide) rfl ?_
      refine e_push dX12_row_102 ?_
      exact e_iretI dX12_row_103 rfl hq (by decide) (by decide)
    · exact absurd (show (12 : Int32) ≤ nI i by rw [show i = 12 by omega]; decide) h55
  | succ k ih =>
    intro i hi
    refine e_iload dX12_row_52 rfl ?_
    refine e_push dX12_row_53 ?_
    refine e_icmp_ge dX12_row_55 (fun h55 => ?_) (fun h55 => ?_)
    · exact absurd h55 (by show ¬ nI 12 ≤ nI i; exact nI_ge (by omega) (by decide))
    · refine e_aload dX12_row_58 rfl ?_
      refine m_geta dX12_row_59 fg_X12_35 hM (by decide) rfl ?_
      refine e_push dX12_row_62 ?_
      refine e_aload dX12_row_64 rfl ?_
      refine m_geti dX12_row_65 fg_X12_156 hM (by decide) rfl ?_
      refine e_topi hr ?_
      refine e_imul dX12_row_68 ?_
      refine e_iload dX12_row_69 rfl ?_
      refine e_iadd dX12_row_70 ?_
      refine e_push dX12_row_71 ?_
      refine m_astN (12 * nR S + i) dX12_row_72 hM rfl (by decide) (by first | rfl | simp only [li_1, li_2, li_3, li_4, li_5, li_12, li_60, pk_mul, nI_add]) (by first | omega | (simp only [mLen]; omega)) (by decide) ?_
      refine e_iinc dX12_row_73 rfl (inc1 i) ?_
      refine e_goto dX12_row_76 ?_
      exact e_lvA (ih (i + 1) (by omega)) ⟨rfl, rfl, rfl, rfl, trivial⟩
set_option maxRecDepth 100000 in
set_option maxHeartbeats 4000000 in
theorem c_X12_row {b0 : Nat} {D : va_G} {dA : Nat → ClassId} {dm : Nat → Nat → Prop} {ad : Nat → Nat → Nat} {Q : PQ} {ct0 : Nat → Nat → va_E} {S : St} (hM : dmM dm) {t : Nat} (I : Inv S t) (p n : Int32) (ht : t < 512) (hq : Q (some (.int (F_row S p n).1)) dm ad (ctM dA ad ct0 (F_row S p n).2)) : Ct b0 D dA yX12_row cX12_row 4 (some .int) (Rm 2) [.ref (ad 16 0), .int p, .int n] dm ad (ctM dA ad ct0 S) Q := by
  refine ct_of (by decide) (Nat.le_of_ble_eq_true rfl) ?_
  refine e_iload dX12_row_0 rfl ?_
  refine n_callS1 dX12_row_1 ca_X12_153  (c_X12_isPlace _ ?_) 
  refine e_if_eqB dX12_row_4 (fun h4 => ?_) (fun h4 => ?_)
  · refine e_push dX12_row_23 ?_
    exact e_iretI dX12_row_24 rfl (qs hq (by first | (simp [F_row, h4]; done) | (simp [F_row, h10, h20]; done))) (by decide) (by decide)
  · obtain ⟨p, p1, p2, rfl⟩ := inB_l (a := 0) (b := 9) rfl rfl (by decide) (by decide) h4
    have tp : tN (nI p) = p := tN_n (by omega)
    refine e_iload dX12_row_7 rfl ?_
    refine e_push dX12_row_8 ?_
    refine e_icmp_eq dX12_row_10 (fun h10 => ?_) (fun h10 => ?_)
    · refine e_iload dX12_row_25 rfl ?_
      refine e_push dX12_row_26 ?_
      refine e_icmp_ne dX12_row_28 (fun h28 => ?_) (fun h28 => ?_)
      · refine e_aload dX12_row_40 rfl ?_
        refine m_geta dX12_row_41 fg_X12_32 hM (by decide) rfl ?_
        refine e_aload dX12_row_44 rfl ?_
        refine m_geti dX12_row_45 fg_X12_156 hM (by decide) rfl ?_
        have hrI := I.2.2.2.1
        refine e_topi hrI.1 ?_
        refine e_iload dX12_row_48 rfl ?_
        refine m_astN (nR S) dX12_row_49 hM rfl (by decide) rfl (by have := hrI.2.1; simp only [mLen]; omega) (by decide) ?_
        refine e_push dX12_row_50 ?_
        refine e_istore dX12_row_51 ?_
        exact e_lvA (l_X12_row (n := n) (a := u2 S.2.1 9 (nR S) n) hM (by omega) hrI.1 (by have := hrI.2.1; omega) (qs hq (by
          rw [F_row, if_pos (by first | (rw [h4, decide_eq_true h10]; rfl) | (rw [h4, h20]; simp)), if_neg h28, tp])) 12 0 (by omega)) ⟨rfl, rfl, rfl, rfl, trivial⟩
      · refine e_aload dX12_row_31 rfl ?_
        refine m_geta dX12_row_32 fg_X12_47 hM (by decide) rfl ?_
        refine e_iload dX12_row_35 rfl ?_
        refine e_push dX12_row_36 ?_
        refine m_astN (p) dX12_row_37 hM rfl (by decide) (by first | rfl | simp only [li_1, li_2, li_3, li_4, li_5, li_12, li_60, pk_mul, nI_add]) (by first | omega | (simp only [mLen]; omega)) (by decide) ?_
        refine e_push dX12_row_38 ?_
        exact e_iretI dX12_row_39 rfl (qs hq (by simp [F_row, h4, h28, tp])) (by decide) (by decide)
    · refine e_iload dX12_row_13 rfl ?_
      refine e_push dX12_row_14 ?_
      refine e_push dX12_row_15 ?_
      refine n_callS3 dX12_row_17 ca_X12_96  (c_X12_in _ _ _ ?_) 
      refine e_if_neB dX12_row_20 (fun h20 => ?_) (fun h20 => ?_)
      · refine e_iload dX12_row_25 rfl ?_
        refine e_push dX12_row_26 ?_
        refine e_icmp_ne dX12_row_28 (fun h28 => ?_) (fun h28 => ?_)
        · refine e_aload dX12_row_40 rfl ?_
          refine m_geta dX12_row_41 fg_X12_32 hM (by decide) rfl ?_
          refine e_aload dX12_row_44 rfl ?_
          refine m_geti dX12_row_45 fg_X12_156 hM (by decide) rfl ?_
          have hrI := I.2.2.2.1
          refine e_topi hrI.1 ?_
          refine e_iload dX12_row_48 rfl ?_
          refine m_astN (nR S) dX12_row_49 hM rfl (by decide) rfl (by have := hrI.2.1; simp only [mLen]; omega) (by decide) ?_
          refine e_push dX12_row_50 ?_
          refine e_istore dX12_row_51 ?_
          exact e_lvA (l_X12_row (n := n) (a := u2 S.2.1 9 (nR S) n) hM (by omega) hrI.1 (by have := hrI.2.1; omega) (qs hq (by
            rw [F_row, if_pos (by first | (rw [h4, decide_eq_true h10]; rfl) | (rw [h4, h20]; simp)), if_neg h28, tp])) 12 0 (by omega)) ⟨rfl, rfl, rfl, rfl, trivial⟩
        · refine e_aload dX12_row_31 rfl ?_
          refine m_geta dX12_row_32 fg_X12_47 hM (by decide) rfl ?_
          refine e_iload dX12_row_35 rfl ?_
          refine e_push dX12_row_36 ?_
          refine m_astN (p) dX12_row_37 hM rfl (by decide) (by first | rfl | simp only [li_1, li_2, li_3, li_4, li_5, li_12, li_60, pk_mul, nI_add]) (by first | omega | (simp only [mLen]; omega)) (by decide) ?_
          refine e_push dX12_row_38 ?_
          exact e_iretI dX12_row_39 rfl (qs hq (by simp [F_row, h4, h28, tp])) (by decide) (by decide)
      · refine e_push dX12_row_23 ?_
        exact e_iretI dX12_row_24 rfl (qs hq (by first | (simp [F_row, h4]; done) | (simp [F_row, h10, h20]; done))) (by decide) (by decide)
set_option maxRecDepth 100000 in
set_option maxHeartbeats 4000000 in
theorem c_X12_share {b0 : Nat} {D : va_G} {dA : Nat → ClassId} {dm : Nat → Nat → Prop} {ad : Nat → Nat → Nat} {Q : PQ} {ct0 : Nat → Nat → va_E} {S : St} (hM : dmM dm) {t : Nat} (I : Inv S t) (p q : Int32) (hq : Q (some (.int (F_share S p q).1)) dm ad (ctM dA ad ct0 (F_share S p q).2)) : Ct b0 D dA yX12_share cX12_share 3 (some .int) (Rm 2) [.ref (ad 16 0), .int p, .int q] dm ad (ctM dA ad ct0 S) Q := by
  refine ct_of (by decide) (Nat.le_of_ble_eq_true rfl) ?_
  refine e_iload dX12_share_0 rfl ?_
  refine n_callS1 dX12_share_1 ca_X12_153  (c_X12_isPlace _ ?_) 
  refine e_if_eqB dX12_share_4 (fun h4 => ?_) (fun h4 => ?_)
  · refine e_push dX12_share_14 ?_
    exact e_iretI dX12_share_15 rfl (qs hq (by first | (simp [F_share, h4]; done) | (simp [F_share, h11]; done))) (by decide) (by decide)
  · obtain ⟨p, p1, p2, rfl⟩ := inB_l (a := 0) (b := 9) rfl rfl (by decide) (by decide) h4
    have tp : tN (nI p) = p := tN_n (by omega)
    refine e_iload dX12_share_7 rfl ?_
    refine n_callS1 dX12_share_8 ca_X12_153  (c_X12_isPlace _ ?_) 
    refine e_if_neB dX12_share_11 (fun h11 => ?_) (fun h11 => ?_)
    · obtain ⟨q, q1, q2, rfl⟩ := inB_l (a := 0) (b := 9) rfl rfl (by decide) (by decide) h11
      have tq : tN (nI q) = q := tN_n (by omega)
      refine e_aload dX12_share_16 rfl ?_
      refine m_geta dX12_share_17 fg_X12_47 hM (by decide) rfl ?_
      refine e_iload dX12_share_20 rfl ?_
      refine e_aload dX12_share_21 rfl ?_
      refine m_geta dX12_share_22 fg_X12_47 hM (by decide) rfl ?_
      refine e_iload dX12_share_25 rfl ?_
      refine m_aldN (q) dX12_share_26 hM rfl (by decide) (by first | rfl | simp only [li_1, li_2, li_3, li_4, li_5, li_12, li_60, pk_mul, nI_add]) (by first | omega | (simp only [mLen]; omega)) (by decide) ?_
      refine m_astN (p) dX12_share_27 hM rfl (by decide) (by first | rfl | simp only [li_1, li_2, li_3, li_4, li_5, li_12, li_60, pk_mul, nI_add]) (by first | omega | (simp only [mLen]; omega)) (by decide) ?_
      refine e_aload dX12_share_28 rfl ?_
      refine e_aload dX12_share_29 rfl ?_
      refine m_geta dX12_share_30 fg_X12_47 hM (by decide) rfl ?_
      refine e_iload dX12_share_33 rfl ?_
      refine m_aldN (p) dX12_share_34 hM rfl (by decide) (by first | rfl | simp only [li_1, li_2, li_3, li_4, li_5, li_12, li_60, pk_mul, nI_add]) (by first | omega | (simp only [mLen]; omega)) (by decide) ?_
      refine e_topi (u2_s (f := S.2.1) (k := 15) (i := p)) ?_
      refine n_callV1 dX12_share_35 ca_X12_159 hM.1 ctM_o (c_X12_familyOf (S := (S.1, u2 S.2.1 15 p (S.2.1 15 q), S.2.2)) hM _ (I.2.2.2.2.2.2.1.1 q (by omega)) (Nat.le_trans I.2.2.2.1.2.1 I.2.2.2.2.2.2.2.1) I.1.2.1 ?_) 
      exact e_iretI dX12_share_38 rfl (qs hq (by simp only [F_share, h4, h11, Bool.and_self, if_true, tp, tq]; rfl)) (by decide) (by decide)
    · refine e_push dX12_share_14 ?_
      exact e_iretI dX12_share_15 rfl (qs hq (by first | (simp [F_share, h4]; done) | (simp [F_share, h11]; done))) (by decide) (by decide)
set_option maxRecDepth 100000 in
set_option maxHeartbeats 4000000 in
theorem c_X12_family {b0 : Nat} {D : va_G} {dA : Nat → ClassId} {dm : Nat → Nat → Prop} {ad : Nat → Nat → Nat} {Q : PQ} {ct0 : Nat → Nat → va_E} {S : St} (hM : dmM dm) {t : Nat} (I : Inv S t) (p : Int32) (hq : Q (some (.int (F_family S p))) dm ad (ctM dA ad ct0 S)) : Ct b0 D dA yX12_family cX12_family 2 (some .int) (Rm 2) [.ref (ad 16 0), .int p] dm ad (ctM dA ad ct0 S) Q := by
  refine ct_of (by decide) (Nat.le_of_ble_eq_true rfl) ?_
  refine e_iload dX12_family_0 rfl ?_
  refine n_callS1 dX12_family_1 ca_X12_153  (c_X12_isPlace _ ?_) 
  refine e_if_eqB dX12_family_4 (fun h4 => ?_) (fun h4 => ?_)
  · refine e_push dX12_family_20 ?_
    exact e_iretI dX12_family_21 rfl (qi hq (by first | (simp [F_family, h4]; done) | (simp [F_family, h4, tp]; done))) (by decide) (by decide)
  · obtain ⟨p, p1, p2, rfl⟩ := inB_l (a := 0) (b := 9) rfl rfl (by decide) (by decide) h4
    have tp : tN (nI p) = p := tN_n (by omega)
    refine e_aload dX12_family_7 rfl ?_
    refine e_aload dX12_family_8 rfl ?_
    refine m_geta dX12_family_9 fg_X12_47 hM (by decide) rfl ?_
    refine e_iload dX12_family_12 rfl ?_
    refine m_aldN (p) dX12_family_13 hM rfl (by decide) (by first | rfl | simp only [li_1, li_2, li_3, li_4, li_5, li_12, li_60, pk_mul, nI_add]) (by first | omega | (simp only [mLen]; omega)) (by decide) ?_
    refine n_callV1 dX12_family_14 ca_X12_159 hM.1 ctM_o (c_X12_familyOf hM _ (I.2.2.2.2.2.2.1.1 _ (by omega)) (by have := I.2.2.2.1.2.1; have := I.2.2.2.2.2.2.2.1; omega) I.1.2.1 ?_) 
    refine e_goto dX12_family_17 ?_
    exact e_iretI dX12_family_21 rfl (qi hq (by first | (simp [F_family, h4]; done) | (simp [F_family, h4, tp]; done))) (by decide) (by decide)
set_option maxRecDepth 100000 in
set_option maxHeartbeats 4000000 in
theorem c_X12_is {b0 : Nat} {D : va_G} {dA : Nat → ClassId} {dm : Nat → Nat → Prop} {ad : Nat → Nat → Nat} {Q : PQ} {ct0 : Nat → Nat → va_E} {S : St} (hM : dmM dm) {t : Nat} (I : Inv S t) (p f : Int32) (hq : Q (some (.int (F_is S p f))) dm ad (ctM dA ad ct0 S)) : Ct b0 D dA yX12_is cX12_is 4 (some .int) (Rm 2) [.ref (ad 16 0), .int p, .int f] dm ad (ctM dA ad ct0 S) Q := by
  refine ct_of (by decide) (Nat.le_of_ble_eq_true rfl) ?_
  refine e_iload dX12_is_0 rfl ?_
  refine n_callS1 dX12_is_1 ca_X12_153  (c_X12_isPlace _ ?_) 
  refine e_if_eqB dX12_is_4 (fun h4 => ?_) (fun h4 => ?_)
  · refine e_push dX12_is_16 ?_
    exact e_iretI dX12_is_17 rfl (qi hq (by first | (simp [F_is, h4]; done) | (simp [F_is, h13]; done))) (by decide) (by decide)
  · obtain ⟨p, p1, p2, rfl⟩ := inB_l (a := 0) (b := 9) rfl rfl (by decide) (by decide) h4
    have tp : tN (nI p) = p := tN_n (by omega)
    refine e_iload dX12_is_7 rfl ?_
    refine e_push dX12_is_8 ?_
    refine e_push dX12_is_9 ?_
    refine n_callS3 dX12_is_10 ca_X12_96  (c_X12_in _ _ _ ?_) 
    refine e_if_neB dX12_is_13 (fun h13 => ?_) (fun h13 => ?_)
    · refine e_aload dX12_is_18 rfl ?_
      refine e_aload dX12_is_19 rfl ?_
      refine m_geta dX12_is_20 fg_X12_47 hM (by decide) rfl ?_
      refine e_iload dX12_is_23 rfl ?_
      refine m_aldN (p) dX12_is_24 hM rfl (by decide) (by first | rfl | simp only [li_1, li_2, li_3, li_4, li_5, li_12, li_60, pk_mul, nI_add]) (by first | omega | (simp only [mLen]; omega)) (by decide) ?_
      refine n_callV1 dX12_is_25 ca_X12_159 hM.1 ctM_o (c_X12_familyOf hM _ (I.2.2.2.2.2.2.1.1 _ (by omega)) (by have := I.2.2.2.1.2.1; have := I.2.2.2.2.2.2.2.1; omega) I.1.2.1 ?_) 
      refine e_istore dX12_is_28 ?_
      refine e_iload dX12_is_29 rfl ?_
      refine e_iload dX12_is_30 rfl ?_
      refine e_icmp_eq dX12_is_31 (fun h31 => ?_) (fun h31 => ?_)
      · refine e_push dX12_is_44 ?_
        refine e_goto dX12_is_45 ?_
        exact e_iretI dX12_is_49 rfl (qi hq (by simp only [F_is, h4, h13, Bool.and_self, if_true, tp]; first | (rw [decide_eq_true h31]; rfl) | (rw [decide_eq_false h31, decide_eq_false h36]; rfl) | (rw [decide_eq_false h31, decide_eq_true (Decidable.not_not.mp h36), decide_eq_true (Decidable.not_not.mp h41)]; rfl) | (rw [decide_eq_false h31, decide_eq_true h36, decide_eq_true h41]; rfl) | (rw [decide_eq_false h31, decide_eq_false h41, Bool.and_false]; rfl))) (by decide) (by decide)
      · refine e_iload dX12_is_34 rfl ?_
        refine e_push dX12_is_35 ?_
        refine e_icmp_ne dX12_is_36 (fun h36 => ?_) (fun h36 => ?_)
        · refine e_push dX12_is_48 ?_
          exact e_iretI dX12_is_49 rfl (qi hq (by simp only [F_is, h4, h13, Bool.and_self, if_true, tp]; first | (rw [decide_eq_true h31]; rfl) | (rw [decide_eq_false h31, decide_eq_false h36]; rfl) | (rw [decide_eq_false h31, decide_eq_true (Decidable.not_not.mp h36), decide_eq_true (Decidable.not_not.mp h41)]; rfl) | (rw [decide_eq_false h31, decide_eq_true h36, decide_eq_true h41]; rfl) | (rw [decide_eq_false h31, decide_eq_false h41, Bool.and_false]; rfl))) (by decide) (by decide)
        · refine e_iload dX12_is_39 rfl ?_
          refine e_push dX12_is_40 ?_
          refine e_icmp_ne dX12_is_41 (fun h41 => ?_) (fun h41 => ?_)
          · refine e_push dX12_is_48 ?_
            exact e_iretI dX12_is_49 rfl (qi hq (by simp only [F_is, h4, h13, Bool.and_self, if_true, tp]; first | (rw [decide_eq_true h31]; rfl) | (rw [decide_eq_false h31, decide_eq_false h36]; rfl) | (rw [decide_eq_false h31, decide_eq_true (Decidable.not_not.mp h36), decide_eq_true (Decidable.not_not.mp h41)]; rfl) | (rw [decide_eq_false h31, decide_eq_true h36, decide_eq_true h41]; rfl) | (rw [decide_eq_false h31, decide_eq_false h41, Bool.and_false]; rfl))) (by decide) (by decide)
          · refine e_push dX12_is_44 ?_
            refine e_goto dX12_is_45 ?_
            exact e_iretI dX12_is_49 rfl (qi hq (by simp only [F_is, h4, h13, Bool.and_self, if_true, tp]; first | (rw [decide_eq_true h31]; rfl) | (rw [decide_eq_false h31, decide_eq_false h36]; rfl) | (rw [decide_eq_false h31, decide_eq_true (Decidable.not_not.mp h36), decide_eq_true (Decidable.not_not.mp h41)]; rfl) | (rw [decide_eq_false h31, decide_eq_true h36, decide_eq_true h41]; rfl) | (rw [decide_eq_false h31, decide_eq_false h41, Bool.and_false]; rfl))) (by decide) (by decide)
    · refine e_push dX12_is_16 ?_
      exact e_iretI dX12_is_17 rfl (qi hq (by first | (simp [F_is, h4]; done) | (simp [F_is, h13]; done))) (by decide) (by decide)
set_option maxRecDepth 100000 in
set_option maxHeartbeats 4000000 in
theorem c_X12_item {b0 : Nat} {D : va_G} {dA : Nat → ClassId} {dm : Nat → Nat → Prop} {ad : Nat → Nat → Nat} {Q : PQ} {ct0 : Nat → Nat → va_E} {S : St} (hM : dmM dm) {t : Nat} (I : Inv S t) (p i v : Int32) (hq : Q (some (.int (F_item S p i v).1)) dm ad (ctM dA ad ct0 (F_item S p i v).2)) : Ct b0 D dA yX12_item cX12_item 6 (some .int) (Rm 2) [.ref (ad 16 0), .int p, .int i, .int v] dm ad (ctM dA ad ct0 S) Q := by
  refine ct_of (by decide) (Nat.le_of_ble_eq_true rfl) ?_
  refine e_iload dX12_item_0 rfl ?_
  refine n_callS1 dX12_item_1 ca_X12_153  (c_X12_isPlace _ ?_) 
  refine e_if_eqB dX12_item_4 (fun h4 => ?_) (fun h4 => ?_)
  · refine e_push dX12_item_21 ?_
    exact e_iretI dX12_item_22 rfl (qs hq (by first | (simp [F_item, h4]; done) | (simp [F_item, h4, tp, h18]; done))) (by decide) (by decide)
  · obtain ⟨p, p1, p2, rfl⟩ := inB_l (a := 0) (b := 9) rfl rfl (by decide) (by decide) h4
    have tp : tN (nI p) = p := tN_n (by omega)
    refine e_aload dX12_item_7 rfl ?_
    refine e_aload dX12_item_8 rfl ?_
    refine m_geta dX12_item_9 fg_X12_47 hM (by decide) rfl ?_
    refine e_iload dX12_item_12 rfl ?_
    refine m_aldN (p) dX12_item_13 hM rfl (by decide) (by first | rfl | simp only [li_1, li_2, li_3, li_4, li_5, li_12, li_60, pk_mul, nI_add]) (by first | omega | (simp only [mLen]; omega)) (by decide) ?_
    refine n_callV1 dX12_item_14 ca_X12_159 hM.1 ctM_o (c_X12_familyOf hM _ (I.2.2.2.2.2.2.1.1 _ (by omega)) (by have := I.2.2.2.1.2.1; have := I.2.2.2.2.2.2.2.1; omega) I.1.2.1 ?_) 
    refine e_push dX12_item_17 ?_
    refine e_icmp_eq dX12_item_18 (fun h18 => ?_) (fun h18 => ?_)
    · have hR := I.2.2.2.1
      have hR1 := hR.2.1
      have ht5 := I.2.2.2.2.2.2.2.1
      obtain ⟨r, hr, hv⟩ := fam4 (I.2.2.2.2.2.2.1.1 p (by omega)) (by omega) I.1.2.1 I.1.2.2.1 h18
      obtain ⟨hs, hs12⟩ := hR.2.2 r hr
      have tr : tN (S.2.1 15 p) - 100 = r := by rw [hv, tN_n (by omega)]; omega
      refine e_aload dX12_item_23 rfl ?_
      refine m_geta dX12_item_24 fg_X12_47 hM (by decide) rfl ?_
      refine e_iload dX12_item_27 rfl ?_
      refine m_aldN (p) dX12_item_28 hM rfl (by decide) (by first | rfl | simp only [li_1, li_2, li_3, li_4, li_5, li_12, li_60, pk_mul, nI_add]) (by first | omega | (simp only [mLen]; omega)) (by decide) ?_
      refine e_topi hv ?_
      refine e_push dX12_item_29 ?_
      refine e_isub dX12_item_31 ?_
      refine e_topi (show _ = nI r by rw [show (100 : Int32) = nI 100 from rfl, pk_sub (by omega)]; congr 1; omega) ?_
      refine e_istore dX12_item_32 ?_
      refine e_iload dX12_item_34 rfl ?_
      refine e_push dX12_item_35 ?_
      refine e_aload dX12_item_36 rfl ?_
      refine m_geta dX12_item_37 fg_X12_32 hM (by decide) rfl ?_
      refine e_iload dX12_item_40 rfl ?_
      refine m_aldN (r) dX12_item_42 hM rfl (by decide) (by first | rfl | simp only [li_1, li_2, li_3, li_4, li_5, li_12, li_60, pk_mul, nI_add]) (by first | omega | (simp only [mLen]; omega)) (by decide) ?_
      refine e_push dX12_item_43 ?_
      refine e_isub dX12_item_44 ?_
      refine n_callS3 dX12_item_45 ca_X12_96  (c_X12_in _ _ _ ?_) 
      refine e_if_neB dX12_item_48 (fun h48 => ?_) (fun h48 => ?_)
      · have h48b := h48
        rw [hs] at h48b
        obtain ⟨i, hi, rfl⟩ := inB_n (by omega) h48b
        have ti : tN (nI i) = i := tN_n (by omega)
        refine e_aload dX12_item_53 rfl ?_
        refine m_geta dX12_item_54 fg_X12_35 hM (by decide) rfl ?_
        refine e_push dX12_item_57 ?_
        refine e_iload dX12_item_59 rfl ?_
        refine e_imul dX12_item_61 ?_
        refine e_iload dX12_item_62 rfl ?_
        refine e_iadd dX12_item_63 ?_
        refine m_aldN (12 * r + i) dX12_item_64 hM rfl (by decide) (by first | rfl | simp only [li_1, li_2, li_3, li_4, li_5, li_12, li_60, pk_mul, nI_add]) (by first | omega | (simp only [mLen]; omega)) (by decide) ?_
        refine e_istore dX12_item_65 ?_
        refine e_aload dX12_item_67 rfl ?_
        refine m_geta dX12_item_68 fg_X12_35 hM (by decide) rfl ?_
        refine e_push dX12_item_71 ?_
        refine e_iload dX12_item_73 rfl ?_
        refine e_imul dX12_item_75 ?_
        refine e_iload dX12_item_76 rfl ?_
        refine e_iadd dX12_item_77 ?_
        refine e_iload dX12_item_78 rfl ?_
        refine m_astN (12 * r + i) dX12_item_79 hM rfl (by decide) (by first | rfl | simp only [li_1, li_2, li_3, li_4, li_5, li_12, li_60, pk_mul, nI_add]) (by first | omega | (simp only [mLen]; omega)) (by decide) ?_
        refine e_iload dX12_item_80 rfl ?_
        exact e_iretI dX12_item_82 rfl (qs hq (by simp only [F_item, h4, tp, h18, decide_true, Bool.and_self, if_true, tr, h48, ti])) (by decide) (by decide)
      · refine e_push dX12_item_51 ?_
        exact e_iretI dX12_item_52 rfl (qs hq (by simp only [F_item, h4, tp, h18, decide_true, Bool.and_self, if_true, tr]; simp [h48])) (by decide) (by decide)
    · refine e_push dX12_item_21 ?_
      exact e_iretI dX12_item_22 rfl (qs hq (by first | (simp [F_item, h4]; done) | (simp [F_item, h4, tp, h18]; done))) (by decide) (by decide)
