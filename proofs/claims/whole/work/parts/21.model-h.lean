set_option maxRecDepth 100000 in
set_option maxHeartbeats 4000000 in
theorem l_X12_rowsLike {b0 : Nat} {D : va_G} {dA : Nat → ClassId} {dm : Nat → Nat → Prop} {ad : Nat → Nat → Nat} {Q : PQ} {ct0 : Nat → Nat → va_E} {S : St} (hM : dmM dm) {a b : Nat} (ha : a < 520) (hb : b < 520) (hs : S.2.1 9 a = nI (sz S a)) (hs12 : sz S a ≤ 12) : ∀ k i lk, i + k = sz S a → Q (some (.int (bI (lk && allB (riP S a b) k i)))) dm ad (ctM dA ad ct0 S) → E b0 D dA yX12_rowsLike cX12_rowsLike 5 (some .boolean) (Rm 0) E0 (QFm b0 D dA (Rm 0) Q) 24 (lfA [some (.ref (ad 16 0)), some (.int (nI a)), some (.int (nI b)), some (.int (bI lk)), some (.int (nI i))]) [] dm ad (ctM dA ad ct0 S) 0 0 := by
  intro k
  induction k with
  | zero =>
    intro i lk hi hq
    refine e_iload dX12_rowsLike_24 rfl ?_
    refine e_aload dX12_rowsLike_26 rfl ?_
    refine m_geta dX12_rowsLike_27 fg_X12_32 hM (by decide) rfl ?_
    refine e_iload dX12_rowsLike_30 rfl ?_
    refine m_aldN (a) dX12_rowsLike_31 hM rfl (by decide) (by first | rfl | simp only [li_1, li_2, li_3, li_4, li_5, li_12, li_60, pk_mul, nI_add]) (by first | omega | (simp only [mLen]; omega)) (by decide) ?_
    refine e_topi hs ?_
    refine e_icmp_ge dX12_rowsLike_32 (fun h32 => ?_) (fun h32 => ?_)
    · refine e_iload dX12_rowsLike_78 rfl ?_
      exact e_iret dX12_rowsLike_79 rfl (by first | rfl | exact bI_n _) (qi hq (by simp [allB])) (by decide) (by decide)
    · exact absurd (nI_le (by omega) (by omega)) h32
  | succ k ih =>
    intro i lk hi hq
    refine e_iload dX12_rowsLike_24 rfl ?_
    refine e_aload dX12_rowsLike_26 rfl ?_
    refine m_geta dX12_rowsLike_27 fg_X12_32 hM (by decide) rfl ?_
    refine e_iload dX12_rowsLike_30 rfl ?_
    refine m_aldN (a) dX12_rowsLike_31 hM rfl (by decide) (by first | rfl | simp only [li_1, li_2, li_3, li_4, li_5, li_12, li_60, pk_mul, nI_add]) (by first | omega | (simp only [mLen]; omega)) (by decide) ?_
    refine e_topi hs ?_
    refine e_icmp_ge dX12_rowsLike_32 (fun h32 => ?_) (fun h32 => ?_)
    · exact absurd h32 (nI_ge (by omega) (by omega))
    · refine e_iload dX12_rowsLike_35 rfl ?_
      refine e_if_eqB dX12_rowsLike_36 (fun h36 => ?_) (fun h36 => ?_)
      · subst h36
        refine e_iload dX12_rowsLike_78 rfl ?_
        exact e_iret dX12_rowsLike_79 rfl (by first | rfl | exact bI_n _) (qi hq (by simp)) (by decide) (by decide)
      · subst h36
        refine e_aload dX12_rowsLike_39 rfl ?_
        refine m_geta dX12_rowsLike_40 fg_X12_35 hM (by decide) rfl ?_
        refine e_push dX12_rowsLike_43 ?_
        refine e_iload dX12_rowsLike_45 rfl ?_
        refine e_imul dX12_rowsLike_46 ?_
        refine e_iload dX12_rowsLike_47 rfl ?_
        refine e_iadd dX12_rowsLike_49 ?_
        refine m_aldN (12 * a + i) dX12_rowsLike_50 hM rfl (by decide) (by first | rfl | simp only [li_1, li_2, li_3, li_4, li_5, li_12, li_60, pk_mul, nI_add]) (by first | omega | (simp only [mLen]; omega)) (by decide) ?_
        refine e_aload dX12_rowsLike_51 rfl ?_
        refine m_geta dX12_rowsLike_52 fg_X12_35 hM (by decide) rfl ?_
        refine e_push dX12_rowsLike_55 ?_
        refine e_iload dX12_rowsLike_57 rfl ?_
        refine e_imul dX12_rowsLike_58 ?_
        refine e_iload dX12_rowsLike_59 rfl ?_
        refine e_iadd dX12_rowsLike_61 ?_
        refine m_aldN (12 * b + i) dX12_rowsLike_62 hM rfl (by decide) (by first | rfl | simp only [li_1, li_2, li_3, li_4, li_5, li_12, li_60, pk_mul, nI_add]) (by first | omega | (simp only [mLen]; omega)) (by decide) ?_
        refine e_icmp_ne dX12_rowsLike_63 (fun h63 => ?_) (fun h63 => ?_)
        · refine e_push dX12_rowsLike_70 ?_
          refine e_topi (show _ = bI (riP S a b i) by unfold riP; first | (rw [decide_eq_true h63]; rfl) | (rw [decide_eq_false h63]; rfl)) ?_
          refine e_istore dX12_rowsLike_71 ?_
          refine e_iinc dX12_rowsLike_72 rfl (inc1 i) ?_
          refine e_goto dX12_rowsLike_75 ?_
          exact e_lvA (ih (i + 1) (riP S a b i) (by omega) (by simpa [allB] using hq)) ⟨rfl, rfl, rfl, rfl, rfl, trivial⟩
        · refine e_push dX12_rowsLike_66 ?_
          refine e_goto dX12_rowsLike_67 ?_
          refine e_topi (show _ = bI (riP S a b i) by unfold riP; first | (rw [decide_eq_true h63]; rfl) | (rw [decide_eq_false h63]; rfl)) ?_
          refine e_istore dX12_rowsLike_71 ?_
          refine e_iinc dX12_rowsLike_72 rfl (inc1 i) ?_
          refine e_goto dX12_rowsLike_75 ?_
          exact e_lvA (ih (i + 1) (riP S a b i) (by omega) (by simpa [allB] using hq)) ⟨rfl, rfl, rfl, rfl, rfl, trivial⟩
set_option maxRecDepth 100000 in
set_option maxHeartbeats 4000000 in
theorem c_X12_rowsLike {b0 : Nat} {D : va_G} {dA : Nat → ClassId} {dm : Nat → Nat → Prop} {ad : Nat → Nat → Nat} {Q : PQ} {ct0 : Nat → Nat → va_E} {S : St} (hM : dmM dm) {a b : Nat} (ha : a < 520) (hb : b < 520) (hs : S.2.1 9 a = nI (sz S a)) (hs12 : sz S a ≤ 12) (hq : Q (some (.int (bI (rlB S a b)))) dm ad (ctM dA ad ct0 S)) : Ct b0 D dA yX12_rowsLike cX12_rowsLike 5 (some .boolean) (Rm 0) [.ref (ad 16 0), .int (nI a), .int (nI b)] dm ad (ctM dA ad ct0 S) Q := by
  refine ct_of (by decide) (Nat.le_of_ble_eq_true rfl) ?_
  refine e_aload dX12_rowsLike_0 rfl ?_
  refine m_geta dX12_rowsLike_1 fg_X12_32 hM (by decide) rfl ?_
  refine e_iload dX12_rowsLike_4 rfl ?_
  refine m_aldN (a) dX12_rowsLike_5 hM rfl (by decide) (by first | rfl | simp only [li_1, li_2, li_3, li_4, li_5, li_12, li_60, pk_mul, nI_add]) (by first | omega | (simp only [mLen]; omega)) (by decide) ?_
  refine e_aload dX12_rowsLike_6 rfl ?_
  refine m_geta dX12_rowsLike_7 fg_X12_32 hM (by decide) rfl ?_
  refine e_iload dX12_rowsLike_10 rfl ?_
  refine m_aldN (b) dX12_rowsLike_11 hM rfl (by decide) (by first | rfl | simp only [li_1, li_2, li_3, li_4, li_5, li_12, li_60, pk_mul, nI_add]) (by first | omega | (simp only [mLen]; omega)) (by decide) ?_
  refine e_icmp_ne dX12_rowsLike_12 (fun h12 => ?_) (fun h12 => ?_)
  · refine e_push dX12_rowsLike_19 ?_
    refine e_topi (show _ = bI (decide (S.2.1 9 a = S.2.1 9 b)) by first | (rw [decide_eq_true h12]; rfl) | (rw [decide_eq_false h12]; rfl)) ?_
    refine e_istore dX12_rowsLike_20 ?_
    refine e_push dX12_rowsLike_21 ?_
    refine e_istore dX12_rowsLike_22 ?_
    exact e_lvA (l_X12_rowsLike hM ha hb hs hs12 (sz S a) 0 _ (by omega) hq) ⟨rfl, rfl, rfl, rfl, rfl, trivial⟩
  · refine e_push dX12_rowsLike_15 ?_
    refine e_goto dX12_rowsLike_16 ?_
    refine e_topi (show _ = bI (decide (S.2.1 9 a = S.2.1 9 b)) by first | (rw [decide_eq_true h12]; rfl) | (rw [decide_eq_false h12]; rfl)) ?_
    refine e_istore dX12_rowsLike_20 ?_
    refine e_push dX12_rowsLike_21 ?_
    refine e_istore dX12_rowsLike_22 ?_
    exact e_lvA (l_X12_rowsLike hM ha hb hs hs12 (sz S a) 0 _ (by omega) hq) ⟨rfl, rfl, rfl, rfl, rfl, trivial⟩
set_option maxRecDepth 100000 in
set_option maxHeartbeats 4000000 in
theorem c_X12_pair {b0 : Nat} {D : va_G} {dA : Nat → ClassId} {dm : Nat → Nat → Prop} {ad : Nat → Nat → Nat} {Q : PQ} {ct0 : Nat → Nat → va_E} {S : St} (hM : dmM dm) {n : Nat} (hn : n < 32) (hp : S.1 30 = nI n) (a b d : Int32) (hq : Q none dm ad (ctM dA ad ct0 (puS S n a b d))) : Ct b0 D dA yX12_pair cX12_pair 4 none (Rm 0) [.ref (ad 16 0), .int a, .int b, .int d] dm ad (ctM dA ad ct0 S) Q := by
  refine ct_of (by decide) (Nat.le_of_ble_eq_true rfl) ?_
  refine e_aload dX12_pair_0 rfl ?_
  refine m_geta dX12_pair_1 fg_X12_84 hM (by decide) rfl ?_
  refine e_aload dX12_pair_4 rfl ?_
  refine m_geti dX12_pair_5 fg_X12_162 hM (by decide) rfl ?_
  refine e_topi hp ?_
  refine e_iload dX12_pair_8 rfl ?_
  refine m_astN (n) dX12_pair_9 hM rfl (by decide) (by first | rfl | simp only [li_1, li_2, li_3, li_4, li_5, li_12, li_60, pk_mul, nI_add]) (by first | omega | (simp only [mLen]; omega)) (by decide) ?_
  refine e_aload dX12_pair_10 rfl ?_
  refine m_geta dX12_pair_11 fg_X12_87 hM (by decide) rfl ?_
  refine e_aload dX12_pair_14 rfl ?_
  refine m_geti dX12_pair_15 fg_X12_162 hM (by decide) rfl ?_
  refine e_topi hp ?_
  refine e_iload dX12_pair_18 rfl ?_
  refine m_astN (n) dX12_pair_19 hM rfl (by decide) (by first | rfl | simp only [li_1, li_2, li_3, li_4, li_5, li_12, li_60, pk_mul, nI_add]) (by first | omega | (simp only [mLen]; omega)) (by decide) ?_
  refine e_aload dX12_pair_20 rfl ?_
  refine m_geta dX12_pair_21 fg_X12_90 hM (by decide) rfl ?_
  refine e_aload dX12_pair_24 rfl ?_
  refine m_geti dX12_pair_25 fg_X12_162 hM (by decide) rfl ?_
  refine e_topi hp ?_
  refine e_iload dX12_pair_28 rfl ?_
  refine m_astN (n) dX12_pair_29 hM rfl (by decide) (by first | rfl | simp only [li_1, li_2, li_3, li_4, li_5, li_12, li_60, pk_mul, nI_add]) (by first | omega | (simp only [mLen]; omega)) (by decide) ?_
  refine e_aload dX12_pair_30 rfl ?_
  refine e_dup dX12_pair_31 ?_
  refine m_geti dX12_pair_32 fg_X12_162 hM (by decide) rfl ?_
  refine e_topi hp ?_
  refine e_push dX12_pair_35 ?_
  refine e_iadd dX12_pair_36 ?_
  refine e_topi (nI_1 n) ?_
  refine m_put dX12_pair_37 fp_X12_162 hM (by decide) rfl ?_
  exact e_vret dX12_pair_40 rfl hq (by decide) (by decide)
set_option maxRecDepth 100000 in
set_option maxHeartbeats 4000000 in
theorem l_X12_opens {b0 : Nat} {D : va_G} {dA : Nat → ClassId} {dm : Nat → Nat → Prop} {ad : Nat → Nat → Nat} {Q : PQ} {ct0 : Nat → Nat → va_E} {S0 : St} (hM : dmM dm) {a b d : Nat} (hd : d < 5) (ha : a < 520) (hb : b < 520) (hsh : S0.2.1 12 a = nI (shN S0 a)) (hsh6 : shN S0 a < 6) (hpn : S0.2.1 13 a = nI (pN S0 a)) (hp5 : pN S0 a ≤ 5) : ∀ k p l S lk, p + k = pN S0 a → l.length + k ≤ 31 → Sc S0 S → Stk S l → S.1 30 = nI l.length → (∀ S2, Sc S0 S2 → Stk S2 (opl S0 a b d k p l) → S2.1 30 = nI (opl S0 a b d k p l).length → Q (some (.int (bI (lk && allB (nuP S0 a b) k p)))) dm ad (ctM dA ad ct0 S2)) → E b0 D dA yX12_opens cX12_opens 6 (some .boolean) (Rm 1) E0 (QFm b0 D dA (Rm 1) Q) 38 (lfA [some (.ref (ad 16 0)), some (.int (nI a)), some (.int (nI b)), some (.int (nI d)), some (.int (bI lk)), some (.int (nI p))]) [] dm ad (ctM dA ad ct0 S) 0 0 := by
  intro k
  induction k with
  | zero =>
    intro p l S lk hp hl hS hK hN hq
    have e12 : S.2.1 12 = S0.2.1 12 := hS.2.1 12 (by decide) (by decide) (by decide)
    have e13 : S.2.1 13 = S0.2.1 13 := hS.2.1 13 (by decide) (by decide) (by decide)
    have e14 : S.2.1 14 = S0.2.1 14 := hS.2.1 14 (by decide) (by decide) (by decide)
    have e17 : S.2.1 17 = S0.2.1 17 := hS.2.1 17 (by decide) (by decide) (by decide)
    have hsh' : S.2.1 12 a = nI (shN S0 a) := by rw [e12]; exact hsh
    have hpn' : S.2.1 13 a = nI (pN S0 a) := by rw [e13]; exact hpn
    refine e_iload dX12_opens_38 rfl ?_
    refine e_aload dX12_opens_40 rfl ?_
    refine m_geta dX12_opens_41 fg_X12_41 hM (by decide) rfl ?_
    refine e_iload dX12_opens_44 rfl ?_
    refine m_aldN (a) dX12_opens_45 hM rfl (by decide) (by first | rfl | simp only [li_1, li_2, li_3, li_4, li_5, li_12, li_60, pk_mul, nI_add]) (by first | omega | (simp only [mLen]; omega)) (by decide) ?_
    refine e_topi hpn' ?_
    refine e_icmp_ge dX12_opens_46 (fun h46 => ?_) (fun h46 => ?_)
    · refine e_iload dX12_opens_141 rfl ?_
      exact e_iret dX12_opens_143 rfl (by first | rfl | exact bI_n _) (qi (hq S hS hK hN) (by simp [allB])) (by decide) (by decide)
    · exact absurd (nI_le (by omega) (by omega)) h46
  | succ k ih =>
    intro p l S lk hp hl hS hK hN hq
    have e12 : S.2.1 12 = S0.2.1 12 := hS.2.1 12 (by decide) (by decide) (by decide)
    have e13 : S.2.1 13 = S0.2.1 13 := hS.2.1 13 (by decide) (by decide) (by decide)
    have e14 : S.2.1 14 = S0.2.1 14 := hS.2.1 14 (by decide) (by decide) (by decide)
    have e17 : S.2.1 17 = S0.2.1 17 := hS.2.1 17 (by decide) (by decide) (by decide)
    have hsh' : S.2.1 12 a = nI (shN S0 a) := by rw [e12]; exact hsh
    have hpn' : S.2.1 13 a = nI (pN S0 a) := by rw [e13]; exact hpn
    refine e_iload dX12_opens_38 rfl ?_
    refine e_aload dX12_opens_40 rfl ?_
    refine m_geta dX12_opens_41 fg_X12_41 hM (by decide) rfl ?_
    refine e_iload dX12_opens_44 rfl ?_
    refine m_aldN (a) dX12_opens_45 hM rfl (by decide) (by first | rfl | simp only [li_1, li_2, li_3, li_4, li_5, li_12, li_60, pk_mul, nI_add]) (by first | omega | (simp only [mLen]; omega)) (by decide) ?_
    refine e_topi hpn' ?_
    refine e_icmp_ge dX12_opens_46 (fun h46 => ?_) (fun h46 => ?_)
    · exact absurd h46 (nI_ge (by omega) (by omega))
    · refine e_aload dX12_opens_49 rfl ?_
      refine m_geta dX12_opens_50 fg_X12_53 hM (by decide) rfl ?_
      refine e_push dX12_opens_53 ?_
      refine e_aload dX12_opens_54 rfl ?_
      refine m_geta dX12_opens_55 fg_X12_38 hM (by decide) rfl ?_
      refine e_iload dX12_opens_58 rfl ?_
      refine m_aldN (a) dX12_opens_59 hM rfl (by decide) (by first | rfl | simp only [li_1, li_2, li_3, li_4, li_5, li_12, li_60, pk_mul, nI_add]) (by first | omega | (simp only [mLen]; omega)) (by decide) ?_
      refine e_topi hsh' ?_
      refine e_imul dX12_opens_60 ?_
      refine e_iload dX12_opens_61 rfl ?_
      refine e_iadd dX12_opens_63 ?_
      refine m_aldN (5 * shN S0 a + p) dX12_opens_64 hM rfl (by decide) (by first | rfl | simp only [li_1, li_2, li_3, li_4, li_5, li_12, li_60, pk_mul, nI_add]) (by first | omega | (simp only [mLen]; omega)) (by decide) ?_
      refine e_if_ne dX12_opens_65 (fun h65 => ?_) (fun h65 => ?_)
      · have h65 : ¬ S0.2.1 17 (5 * shN S0 a + p) = 0 := by rw [← e17]; exact h65
        refine e_aload dX12_opens_106 rfl ?_
        refine e_aload dX12_opens_107 rfl ?_
        refine m_geta dX12_opens_108 fg_X12_44 hM (by decide) rfl ?_
        refine e_push dX12_opens_111 ?_
        refine e_iload dX12_opens_112 rfl ?_
        refine e_imul dX12_opens_113 ?_
        refine e_iload dX12_opens_114 rfl ?_
        refine e_iadd dX12_opens_116 ?_
        refine m_aldN (5 * a + p) dX12_opens_117 hM rfl (by decide) (by first | rfl | simp only [li_1, li_2, li_3, li_4, li_5, li_12, li_60, pk_mul, nI_add]) (by first | omega | (simp only [mLen]; omega)) (by decide) ?_
        refine e_topi (congrFun e14 _) ?_
        refine e_aload dX12_opens_118 rfl ?_
        refine m_geta dX12_opens_119 fg_X12_44 hM (by decide) rfl ?_
        refine e_push dX12_opens_122 ?_
        refine e_iload dX12_opens_123 rfl ?_
        refine e_imul dX12_opens_124 ?_
        refine e_iload dX12_opens_125 rfl ?_
        refine e_iadd dX12_opens_127 ?_
        refine m_aldN (5 * b + p) dX12_opens_128 hM rfl (by decide) (by first | rfl | simp only [li_1, li_2, li_3, li_4, li_5, li_12, li_60, pk_mul, nI_add]) (by first | omega | (simp only [mLen]; omega)) (by decide) ?_
        refine e_topi (congrFun e14 _) ?_
        refine e_iload dX12_opens_129 rfl ?_
        refine e_push dX12_opens_130 ?_
        refine e_iadd dX12_opens_131 ?_
        refine e_topi (nI_1 d) ?_
        refine n_callV3 dX12_opens_132 ca_X12_165 hM.1 ctM_o (c_X12_pair hM (n := l.length) (by omega) hN _ _ _ ?_) 
        refine e_iinc dX12_opens_135 rfl (inc1 p) ?_
        refine e_goto dX12_opens_138 ?_
        exact e_lvA (ih (p + 1) ((S0.2.1 14 (5 * a + p), S0.2.1 14 (5 * b + p), d + 1) :: l) _ lk (by omega) (by first | omega | (simp only [List.length_cons] at *; omega)) (hS.tr pu_sc) hK.push (show u1 S.1 30 (nI (l.length + 1)) 30 = nI (l.length + 1) from u1_s) (fun S2 g1 g2 g3 => qi (hq S2 g1 (by rw [opl, if_neg h65]; exact g2) (by rw [opl, if_neg h65]; exact g3)) (by rw [allB]; simp [nuP, h65]))) ⟨rfl, rfl, rfl, rfl, rfl, rfl, trivial⟩
      · have h65 : S0.2.1 17 (5 * shN S0 a + p) = 0 := by rw [← e17]; exact h65
        refine e_iload dX12_opens_68 rfl ?_
        refine e_aload dX12_opens_70 rfl ?_
        refine m_geta dX12_opens_71 fg_X12_44 hM (by decide) rfl ?_
        refine e_push dX12_opens_74 ?_
        refine e_iload dX12_opens_75 rfl ?_
        refine e_imul dX12_opens_76 ?_
        refine e_iload dX12_opens_77 rfl ?_
        refine e_iadd dX12_opens_79 ?_
        refine m_aldN (5 * a + p) dX12_opens_80 hM rfl (by decide) (by first | rfl | simp only [li_1, li_2, li_3, li_4, li_5, li_12, li_60, pk_mul, nI_add]) (by first | omega | (simp only [mLen]; omega)) (by decide) ?_
        refine e_topi (congrFun e14 _) ?_
        refine e_aload dX12_opens_81 rfl ?_
        refine m_geta dX12_opens_82 fg_X12_44 hM (by decide) rfl ?_
        refine e_push dX12_opens_85 ?_
        refine e_iload dX12_opens_86 rfl ?_
        refine e_imul dX12_opens_87 ?_
        refine e_iload dX12_opens_88 rfl ?_
        refine e_iadd dX12_opens_90 ?_
        refine m_aldN (5 * b + p) dX12_opens_91 hM rfl (by decide) (by first | rfl | simp only [li_1, li_2, li_3, li_4, li_5, li_12, li_60, pk_mul, nI_add]) (by first | omega | (simp only [mLen]; omega)) (by decide) ?_
        refine e_topi (congrFun e14 _) ?_
        refine e_icmp_ne dX12_opens_92 (fun h92 => ?_) (fun h92 => ?_)
        · refine e_push dX12_opens_99 ?_
          refine e_iand dX12_opens_100 ?_
          refine e_topi (show _ = bI (lk && decide (S0.2.1 14 (5 * a + p) = S0.2.1 14 (5 * b + p))) by first | (rw [decide_eq_true h92]; exact bI_and lk true) | (rw [decide_eq_false h92]; exact bI_and lk false)) ?_
          refine e_istore dX12_opens_101 ?_
          refine e_goto dX12_opens_103 ?_
          refine e_iinc dX12_opens_135 rfl (inc1 p) ?_
          refine e_goto dX12_opens_138 ?_
          exact e_lvA (ih (p + 1) l S _ (by omega) (by first | omega | (simp only [List.length_cons] at *; omega)) hS hK hN (fun S2 g1 g2 g3 => qi (hq S2 g1 (by rw [opl, if_pos h65]; exact g2) (by rw [opl, if_pos h65]; exact g3)) (by rw [allB]; simp [nuP, h65, Bool.and_assoc]))) ⟨rfl, rfl, rfl, rfl, rfl, rfl, trivial⟩
        · refine e_push dX12_opens_95 ?_
          refine e_goto dX12_opens_96 ?_
          refine e_iand dX12_opens_100 ?_
          refine e_topi (show _ = bI (lk && decide (S0.2.1 14 (5 * a + p) = S0.2.1 14 (5 * b + p))) by first | (rw [decide_eq_true h92]; exact bI_and lk true) | (rw [decide_eq_false h92]; exact bI_and lk false)) ?_
          refine e_istore dX12_opens_101 ?_
          refine e_goto dX12_opens_103 ?_
          refine e_iinc dX12_opens_135 rfl (inc1 p) ?_
          refine e_goto dX12_opens_138 ?_
          exact e_lvA (ih (p + 1) l S _ (by omega) (by first | omega | (simp only [List.length_cons] at *; omega)) hS hK hN (fun S2 g1 g2 g3 => qi (hq S2 g1 (by rw [opl, if_pos h65]; exact g2) (by rw [opl, if_pos h65]; exact g3)) (by rw [allB]; simp [nuP, h65, Bool.and_assoc]))) ⟨rfl, rfl, rfl, rfl, rfl, rfl, trivial⟩
set_option maxRecDepth 100000 in
set_option maxHeartbeats 4000000 in
theorem c_X12_opens {b0 : Nat} {D : va_G} {dA : Nat → ClassId} {dm : Nat → Nat → Prop} {ad : Nat → Nat → Nat} {Q : PQ} {ct0 : Nat → Nat → va_E} {S0 S : St} (hM : dmM dm) {a b d : Nat} {l : List Pr} (hd : d < 5) (ha : a < 520) (hb : b < 520) (hsh : S0.2.1 12 a = nI (shN S0 a)) (hsh6 : shN S0 a < 6) (hpn : S0.2.1 13 a = nI (pN S0 a)) (hp5 : pN S0 a ≤ 5) (hl : l.length + pN S0 a ≤ 31) (hS : Sc S0 S) (hK : Stk S l) (hN : S.1 30 = nI l.length) (hq1 : ¬ (S0.2.1 12 a = S0.2.1 12 b ∧ S0.2.1 13 a = S0.2.1 13 b) → Q (some (.int (bI false))) dm ad (ctM dA ad ct0 S)) (hq2 : S0.2.1 12 a = S0.2.1 12 b → S0.2.1 13 a = S0.2.1 13 b → ∀ S2, Sc S0 S2 → Stk S2 (opl S0 a b d (pN S0 a) 0 l) → S2.1 30 = nI (opl S0 a b d (pN S0 a) 0 l).length → Q (some (.int (bI (allB (nuP S0 a b) (pN S0 a) 0)))) dm ad (ctM dA ad ct0 S2)) : Ct b0 D dA yX12_opens cX12_opens 6 (some .boolean) (Rm 1) [.ref (ad 16 0), .int (nI a), .int (nI b), .int (nI d)] dm ad (ctM dA ad ct0 S) Q := by
  refine ct_of (by decide) (Nat.le_of_ble_eq_true rfl) ?_
  have e12 : S.2.1 12 = S0.2.1 12 := hS.2.1 12 (by decide) (by decide) (by decide)
  have e13 : S.2.1 13 = S0.2.1 13 := hS.2.1 13 (by decide) (by decide) (by decide)
  have e14 : S.2.1 14 = S0.2.1 14 := hS.2.1 14 (by decide) (by decide) (by decide)
  have e17 : S.2.1 17 = S0.2.1 17 := hS.2.1 17 (by decide) (by decide) (by decide)
  have hsh' : S.2.1 12 a = nI (shN S0 a) := by rw [e12]; exact hsh
  have hpn' : S.2.1 13 a = nI (pN S0 a) := by rw [e13]; exact hpn
  refine e_aload dX12_opens_0 rfl ?_
  refine m_geta dX12_opens_1 fg_X12_38 hM (by decide) rfl ?_
  refine e_iload dX12_opens_4 rfl ?_
  refine m_aldN (a) dX12_opens_5 hM rfl (by decide) (by first | rfl | simp only [li_1, li_2, li_3, li_4, li_5, li_12, li_60, pk_mul, nI_add]) (by first | omega | (simp only [mLen]; omega)) (by decide) ?_
  refine e_aload dX12_opens_6 rfl ?_
  refine m_geta dX12_opens_7 fg_X12_38 hM (by decide) rfl ?_
  refine e_iload dX12_opens_10 rfl ?_
  refine m_aldN (b) dX12_opens_11 hM rfl (by decide) (by first | rfl | simp only [li_1, li_2, li_3, li_4, li_5, li_12, li_60, pk_mul, nI_add]) (by first | omega | (simp only [mLen]; omega)) (by decide) ?_
  refine e_icmp_ne dX12_opens_12 (fun h12 => ?_) (fun h12 => ?_)
  · refine e_push dX12_opens_30 ?_
    exact e_iret dX12_opens_31 rfl (by first | rfl | exact bI_n _) (hq1 (by rw [← e12, ← e13]; first | exact fun z => h12 z.1 | exact fun z => h27 z.2)) (by decide) (by decide)
  · refine e_aload dX12_opens_15 rfl ?_
    refine m_geta dX12_opens_16 fg_X12_41 hM (by decide) rfl ?_
    refine e_iload dX12_opens_19 rfl ?_
    refine m_aldN (a) dX12_opens_20 hM rfl (by decide) (by first | rfl | simp only [li_1, li_2, li_3, li_4, li_5, li_12, li_60, pk_mul, nI_add]) (by first | omega | (simp only [mLen]; omega)) (by decide) ?_
    refine e_aload dX12_opens_21 rfl ?_
    refine m_geta dX12_opens_22 fg_X12_41 hM (by decide) rfl ?_
    refine e_iload dX12_opens_25 rfl ?_
    refine m_aldN (b) dX12_opens_26 hM rfl (by decide) (by first | rfl | simp only [li_1, li_2, li_3, li_4, li_5, li_12, li_60, pk_mul, nI_add]) (by first | omega | (simp only [mLen]; omega)) (by decide) ?_
    refine e_icmp_eq dX12_opens_27 (fun h27 => ?_) (fun h27 => ?_)
    · refine e_push dX12_opens_32 ?_
      refine e_istore dX12_opens_33 ?_
      refine e_push dX12_opens_35 ?_
      refine e_istore dX12_opens_36 ?_
      exact e_lvA (l_X12_opens hM hd ha hb hsh hsh6 hpn hp5 (pN S0 a) 0 l S true (by omega) hl hS hK hN (fun S2 g1 g2 g3 => by rw [Bool.true_and]; exact hq2 (by rw [← e12]; exact h12) (by rw [← e13]; exact h27) S2 g1 g2 g3)) ⟨rfl, rfl, rfl, rfl, rfl, rfl, trivial⟩
    · refine e_push dX12_opens_30 ?_
      exact e_iret dX12_opens_31 rfl (by first | rfl | exact bI_n _) (hq1 (by rw [← e12, ← e13]; first | exact fun z => h12 z.1 | exact fun z => h27 z.2)) (by decide) (by decide)
set_option maxRecDepth 100000 in
set_option maxHeartbeats 4000000 in
theorem l_X12_areLike {b0 : Nat} {D : va_G} {dA : Nat → ClassId} {dm : Nat → Nat → Prop} {ad : Nat → Nat → Nat} {Q : PQ} {ct0 : Nat → Nat → va_E} {S0 : St} (hM : dmM dm) {t : Nat} {x y : Int32} (I : Inv S0 t) : ∀ n l S lk, mu l < n → Sc S0 S → Stk S l → S.1 30 = nI l.length → BKs S0 l → (∀ S2, Sc S0 S2 → Q (some (.int (bI (lk && allL S0 l)))) dm ad (ctM dA ad ct0 S2)) → E b0 D dA yX12_areLike cX12_areLike 8 (some .boolean) (Rm 2) E0 (QFm b0 D dA (Rm 2) Q) 14 (lfA [some (.ref (ad 16 0)), some (.int x), some (.int y), some (.int (bI lk))]) [] dm ad (ctM dA ad ct0 S) 0 0 := by
  have ht5 := I.2.2.2.2.2.2.2.1
  have hR5 : nR S0 ≤ 512 := Nat.le_trans I.2.2.2.1.2.1 ht5
  have hD5 : nD S0 ≤ 512 := Nat.le_trans I.2.2.2.2.2.1.2.1 ht5
  intro n
  induction n with
  | zero =>
    intro l S lk hmu
    omega
  | succ n ih =>
    intro l S lk hmu hS hK hN hB hq
    have hnR : nR S = nR S0 := congrArg Int32.toNatClampNeg (hS.1 8 (by decide))
    have hnC : nC S = nC S0 := congrArg Int32.toNatClampNeg (hS.1 0 (by decide))
    refine e_aload dX12_areLike_14 rfl ?_
    refine m_geti dX12_areLike_15 fg_X12_162 hM (by decide) rfl ?_
    refine e_topi hN ?_
    refine e_if_le dX12_areLike_18 (fun h18 => ?_) (fun h18 => ?_)
    · have hl0 : l = [] := by
        cases l with
        | nil => rfl
        | cons q l2 => exact absurd h18 (nI_nle (by simp) (by have := hB.1; have := hB.2.1; simp only [List.length_cons]; omega))
      subst hl0
      refine e_iload dX12_areLike_172 rfl ?_
      exact e_iret dX12_areLike_173 rfl (by first | rfl | exact bI_n _) (qi (hq S hS) (by first | (simp [allL]; done) | simp)) (by decide) (by decide)
    · obtain ⟨⟨a, b, d⟩, l, rfl⟩ : ∃ q l2, l = q :: l2 := by
        cases l with
        | nil => exact absurd (by decide) h18
        | cons q l2 => exact ⟨q, l2, rfl⟩
      have ka : S.2.1 31 l.length = a := hK.1
      have kb : S.2.1 32 l.length = b := hK.2.1
      have kd : S.2.1 33 l.length = nI d := hK.2.2.1
      have hKl := hK.2.2.2
      have hS1 : Sc S0 (u1 S.1 30 (nI l.length), S.2) := ⟨fun j hj => (u1_n hj).trans (hS.1 j hj), hS.2.1, hS.2.2⟩
      have hK1 : Stk (u1 S.1 30 (nI l.length), S.2) l := Stk.same (S := S) (S' := (u1 S.1 30 (nI l.length), S.2)) rfl rfl rfl l hKl
      have hb20 : l.length ≤ 20 := by have h1 := hB.1; have h2 := hB.2.1; simp only at h1 h2; omega
      refine e_iload dX12_areLike_21 rfl ?_
      refine e_if_eqB dX12_areLike_22 (fun h22 => ?_) (fun h22 => ?_)
      · subst h22
        refine e_iload dX12_areLike_172 rfl ?_
        exact e_iret dX12_areLike_173 rfl (by first | rfl | exact bI_n _) (qi (hq S hS) (by first | (simp [allL]; done) | simp)) (by decide) (by decide)
      · subst h22
        refine e_aload dX12_areLike_25 rfl ?_
        refine e_dup dX12_areLike_26 ?_
        refine m_geti dX12_areLike_27 fg_X12_162 hM (by decide) rfl ?_
        refine e_topi hN ?_
        refine e_push dX12_areLike_30 ?_
        refine e_isub dX12_areLike_31 ?_
        refine e_topi (show nI (l.length + 1) - 1 = nI l.length from nI_pred _) ?_
        refine m_put dX12_areLike_32 fp_X12_162 hM (by decide) rfl ?_
        refine e_aload dX12_areLike_35 rfl ?_
        refine m_geta dX12_areLike_36 fg_X12_84 hM (by decide) rfl ?_
        refine e_aload dX12_areLike_39 rfl ?_
        refine m_geti dX12_areLike_40 fg_X12_162 hM (by decide) rfl ?_
        refine e_topi (u1_s (f := S.1) (k := 30)) ?_
        refine m_aldN (l.length) dX12_areLike_43 hM rfl (by decide) (by first | rfl | simp only [li_1, li_2, li_3, li_4, li_5, li_12, li_60, pk_mul, nI_add]) (by first | omega | (simp only [mLen]; omega)) (by decide) ?_
        refine e_topi ka ?_
        refine e_istore dX12_areLike_44 ?_
        refine e_aload dX12_areLike_46 rfl ?_
        refine m_geta dX12_areLike_47 fg_X12_87 hM (by decide) rfl ?_
        refine e_aload dX12_areLike_50 rfl ?_
        refine m_geti dX12_areLike_51 fg_X12_162 hM (by decide) rfl ?_
        refine e_topi (u1_s (f := S.1) (k := 30)) ?_
        refine m_aldN (l.length) dX12_areLike_54 hM rfl (by decide) (by first | rfl | simp only [li_1, li_2, li_3, li_4, li_5, li_12, li_60, pk_mul, nI_add]) (by first | omega | (simp only [mLen]; omega)) (by decide) ?_
        refine e_topi kb ?_
        refine e_istore dX12_areLike_55 ?_
        refine e_aload dX12_areLike_57 rfl ?_
        refine m_geta dX12_areLike_58 fg_X12_90 hM (by decide) rfl ?_
        refine e_aload dX12_areLike_61 rfl ?_
        refine m_geti dX12_areLike_62 fg_X12_162 hM (by decide) rfl ?_
        refine e_topi (u1_s (f := S.1) (k := 30)) ?_
        refine m_aldN (l.length) dX12_areLike_65 hM rfl (by decide) (by first | rfl | simp only [li_1, li_2, li_3, li_4, li_5, li_12, li_60, pk_mul, nI_add]) (by first | omega | (simp only [mLen]; omega)) (by decide) ?_
        refine e_topi kd ?_
        refine e_istore dX12_areLike_66 ?_
        refine e_iload dX12_areLike_68 rfl ?_
        refine e_iload dX12_areLike_70 rfl ?_
        refine e_icmp_eq dX12_areLike_72 (fun h72 => ?_) (fun h72 => ?_)
        · refine e_goto dX12_areLike_169 ?_
          subst h72
          exact e_lvA (ih l (u1 S.1 30 (nI l.length), S.2) true (by rw [mu_c] at hmu; have := Nat.pow_pos (n := 5 - d) (show 0 < 6 by decide); omega) (hS1) (hK1) (show u1 S.1 30 (nI l.length) 30 = nI l.length from u1_s) (hB.2.2.2.2) (fun S2 g => qi (hq S2 g) (by rw [allL_c, likeF_eq]; simp))) ⟨rfl, rfl, rfl, rfl, trivial⟩
        · refine e_aload dX12_areLike_75 rfl ?_
          refine e_iload dX12_areLike_76 rfl ?_
          refine n_callV1 dX12_areLike_78 ca_X12_159 hM.1 ctM_o (c_X12_familyOf hM _ (hS1.ok_T hB.2.2.1) (by show nR S ≤ 512; rw [hnR]; exact hR5) (by show nC S ≤ 60; rw [hnC]; exact I.1.2.1) ?_) 
          refine e_topi (hS1.fam a) ?_
          refine e_istore dX12_areLike_81 ?_
          refine e_iload dX12_areLike_83 rfl ?_
          refine e_aload dX12_areLike_85 rfl ?_
          refine e_iload dX12_areLike_86 rfl ?_
          refine n_callV1 dX12_areLike_88 ca_X12_159 hM.1 ctM_o (c_X12_familyOf hM _ (hS1.ok_T hB.2.2.2.1) (by show nR S ≤ 512; rw [hnR]; exact hR5) (by show nC S ≤ 60; rw [hnC]; exact I.1.2.1) ?_) 
          refine e_topi (hS1.fam b) ?_
          refine e_icmp_ne dX12_areLike_91 (fun h91 => ?_) (fun h91 => ?_)
          · refine e_push dX12_areLike_104 ?_
            refine e_istore dX12_areLike_105 ?_
            refine e_iload dX12_areLike_106 rfl ?_
            refine e_if_eq dX12_areLike_107 (fun _ => ?_) (fun h => absurd rfl h)
            refine e_iload dX12_areLike_134 rfl ?_
            refine e_if_eq dX12_areLike_135 (fun _ => ?_) (fun h => absurd rfl h)
            refine e_goto dX12_areLike_169 ?_
            have hlf : likeF S0 (5 - d) a b = false := likeF_n h72 (by first | exact fun z => h91 z.1 | exact fun z => absurd z.2 (Int32.not_lt.mpr h97))
            exact e_lvA (ih l (u1 S.1 30 (nI l.length), S.2) false (by rw [mu_c] at hmu; have := Nat.pow_pos (n := 5 - d) (show 0 < 6 by decide); omega) (hS1) (hK1) (show u1 S.1 30 (nI l.length) 30 = nI l.length from u1_s) (hB.2.2.2.2) (fun S2 g => qi (hq S2 g) (by rw [allL_c, hlf]; simp))) ⟨rfl, rfl, rfl, rfl, trivial⟩
          · refine e_iload dX12_areLike_94 rfl ?_
            refine e_push dX12_areLike_96 ?_
            refine e_icmp_le dX12_areLike_97 (fun h97 => ?_) (fun h97 => ?_)
            · refine e_push dX12_areLike_104 ?_
              refine e_istore dX12_areLike_105 ?_
              refine e_iload dX12_areLike_106 rfl ?_
              refine e_if_eq dX12_areLike_107 (fun _ => ?_) (fun h => absurd rfl h)
              refine e_iload dX12_areLike_134 rfl ?_
              refine e_if_eq dX12_areLike_135 (fun _ => ?_) (fun h => absurd rfl h)
              refine e_goto dX12_areLike_169 ?_
              have hlf : likeF S0 (5 - d) a b = false := likeF_n h72 (by first | exact fun z => h91 z.1 | exact fun z => absurd z.2 (Int32.not_lt.mpr h97))
              exact e_lvA (ih l (u1 S.1 30 (nI l.length), S.2) false (by rw [mu_c] at hmu; have := Nat.pow_pos (n := 5 - d) (show 0 < 6 by decide); omega) (hS1) (hK1) (show u1 S.1 30 (nI l.length) 30 = nI l.length from u1_s) (hB.2.2.2.2) (fun S2 g => qi (hq S2 g) (by rw [allL_c, hlf]; simp))) ⟨rfl, rfl, rfl, rfl, trivial⟩
            · refine e_push dX12_areLike_100 ?_
              refine e_goto dX12_areLike_101 ?_
              refine e_istore dX12_areLike_105 ?_
              refine e_iload dX12_areLike_106 rfl ?_
              refine e_if_eq dX12_areLike_107 (fun h107 => ?_) (fun h107 => ?_)
              · exact absurd h107 (by decide)
              · refine e_iload dX12_areLike_110 rfl ?_
                refine e_push dX12_areLike_112 ?_
                refine e_icmp_ne dX12_areLike_113 (fun h113 => ?_) (fun h113 => ?_)
                · refine e_iload dX12_areLike_134 rfl ?_
                  refine e_if_eq dX12_areLike_135 (fun h135 => ?_) (fun h135 => ?_)
                  · exact absurd h135 (by decide)
                  · refine e_iload dX12_areLike_138 rfl ?_
                    refine e_push dX12_areLike_140 ?_
                    refine e_icmp_ge dX12_areLike_141 (fun h141 => ?_) (fun h141 => ?_)
                    · have hd5 : d = 5 := by
                        have h2 := hB.2.1
                        simp only at h2
                        have := (nI_leI (a := 5) (by decide) (show d < 2 ^ 31 by omega)).mp h141
                        omega
                      refine e_push dX12_areLike_167 ?_
                      refine e_istore dX12_areLike_168 ?_
                      refine e_goto dX12_areLike_169 ?_
                      have hlf : likeF S0 (5 - d) a b = false := by rw [hd5]; exact likeF_50 h72 h113
                      exact e_lvA (ih l (u1 S.1 30 (nI l.length), S.2) false (by rw [mu_c] at hmu; have := Nat.pow_pos (n := 5 - d) (show 0 < 6 by decide); omega) (hS1) (hK1) (show u1 S.1 30 (nI l.length) 30 = nI l.length from u1_s) (hB.2.2.2.2) (fun S2 g => qi (hq S2 g) (by rw [allL_c, hlf]; simp))) ⟨rfl, rfl, rfl, rfl, trivial⟩
                    · refine e_aload dX12_areLike_144 rfl ?_
                      refine e_iload dX12_areLike_145 rfl ?_
                      refine e_ldc dX12_areLike_147 kw_X12_152 ?_
                      refine e_isub dX12_areLike_149 ?_
                      refine e_iload dX12_areLike_150 rfl ?_
                      refine e_ldc dX12_areLike_152 kw_X12_152 ?_
                      refine e_isub dX12_areLike_154 ?_
                      refine e_iload dX12_areLike_155 rfl ?_
                      obtain ⟨da, hda, rfl⟩ := fam5' hB.2.2.1 hR5 I.1.2.1 I.1.2.2.1 (Int32.not_le.mp h97) h113
                      obtain ⟨db, hdb, rfl⟩ := fam5' hB.2.2.2.1 hR5 I.1.2.1 I.1.2.2.1 (by rw [← h91]; exact Int32.not_le.mp h97) (by rw [← h91]; exact h113)
                      have hd5 : d < 5 := by
                        rcases Nat.lt_or_ge d 5 with z | z
                        · exact z
                        · exact absurd (show (5 : Int32) ≤ nI d from (nI_leI (a := 5) (by decide) (by have := hB.2.1; simp only at this; omega)).mpr z) h141
                      obtain ⟨hsh, hsh6, hpn, hpm, hpv⟩ := I.2.2.2.2.2.1.2.2 da hda
                      obtain ⟨hshb, hshb6, hpnb, hpmb, hpvb⟩ := I.2.2.2.2.2.1.2.2 db hdb
                      have hp5 : pN S0 da ≤ 5 := Nat.le_trans hpm (I.2.2.2.2.1 _ hsh6).2.1
                      have hlf : likeF S0 (5 - d) (nI (100000 + da)) (nI (100000 + db)) = reB S0 (likeF S0 (4 - d)) da db := by
                        rw [show 5 - d = (4 - d) + 1 by omega, likeF_5 h72 ⟨h91, Int32.not_le.mp h97⟩ h113, rc_n (by omega), rc_n (by omega)]
                      have hokA : ∀ q, q < pN S0 da → S0.2.1 17 (5 * shN S0 da + q) ≠ 0 → okT S0 (S0.2.1 14 (5 * da + q)) := fun q hq1 hz => by rcases hpv q hq1 with z | z; exact absurd z.1 hz; exact okV_T z.1 z.2
                      have hokB : ∀ q, q < pN S0 db → S0.2.1 17 (5 * shN S0 db + q) ≠ 0 → okT S0 (S0.2.1 14 (5 * db + q)) := fun q hq1 hz => by rcases hpvb q hq1 with z | z; exact absurd z.1 hz; exact okV_T z.1 z.2
                      refine e_st (show _ = [.int (nI d), .int (nI db), .int (nI da), .ref (ad 16 0)] by rw [sub_h, sub_h]) ?_
                      refine n_callV3 dX12_areLike_157 ca_X12_173 hM.1 ctM_o (c_X12_opens (S0 := S0) (a := da) (b := db) (l := l) hM hd5 (by omega) (by omega) hsh hsh6 hpn hp5 (by have := hB.1; simp only at this; omega) hS1 hK1 (show u1 S.1 30 (nI l.length) 30 = nI l.length from u1_s) (fun hne => ?_) (fun e1 e2 S2 g1 g2 g3 => ?_))
                      · refine e_if_eqB dX12_areLike_160 (fun _ => ?_) (fun h => absurd h (by decide))
                        refine e_push dX12_areLike_167 ?_
                        refine e_istore dX12_areLike_168 ?_
                        refine e_goto dX12_areLike_169 ?_
                        have hre : reB S0 (likeF S0 (4 - d)) da db = false := by
                          unfold reB
                          cases z1 : decide (S0.2.1 12 da = S0.2.1 12 db)
                          · rfl
                          · cases z2 : decide (S0.2.1 13 da = S0.2.1 13 db)
                            · rfl
                            · exact absurd ⟨of_decide_eq_true z1, of_decide_eq_true z2⟩ hne
                        exact e_lvA (ih l (u1 S.1 30 (nI l.length), S.2) false (by rw [mu_c] at hmu; have := Nat.pow_pos (n := 5 - d) (show 0 < 6 by decide); omega) (hS1) (hK1) (show u1 S.1 30 (nI l.length) 30 = nI l.length from u1_s) (hB.2.2.2.2) (fun S2 g => qi (hq S2 g) (by rw [allL_c, hlf, hre]; simp))) ⟨rfl, rfl, rfl, rfl, trivial⟩
                      · have hshe : shN S0 db = shN S0 da := by unfold shN; rw [e1]
                        have hpne : pN S0 db = pN S0 da := by unfold pN; rw [e2]
                        have hbk := opl_bk (S := S0) (a := da) (b := db) hd5 (fun p hp hz hpn1 => ⟨hokA p hpn1 hz, hokB p (by rw [hpne]; exact hpn1) (by rw [hshe]; exact hz)⟩) (pN S0 da) 0 l (by omega) hp5 hB.2.2.2.2 (by have := hB.1; simp only at this; omega)
                        have hmu2 := mu_opl (S := S0) (a := da) (b := db) (x := nI (100000 + da)) (y := nI (100000 + db)) hd5 hp5 l
                        have hall : (true && allL S0 ((nI (100000 + da), nI (100000 + db), d) :: l)) = (allB (nuP S0 da db) (pN S0 da) 0 && allL S0 (opl S0 da db d (pN S0 da) 0 l)) := by
                          rw [opl_all hd5, allL_c, hlf, Bool.true_and]
                          unfold reB
                          rw [decide_eq_true e1, decide_eq_true e2]; rfl
                        refine e_if_eqB dX12_areLike_160 (fun h => ?_) (fun h => ?_)
                        · refine e_push dX12_areLike_167 ?_
                          refine e_istore dX12_areLike_168 ?_
                          refine e_goto dX12_areLike_169 ?_
                          exact e_lvA (ih _ S2 false (by omega) g1 g2 g3 hbk (fun S3 g => qi (hq S3 g) (by rw [hall, h]))) ⟨rfl, rfl, rfl, rfl, trivial⟩
                        · refine e_push dX12_areLike_163 ?_
                          refine e_goto dX12_areLike_164 ?_
                          refine e_istore dX12_areLike_168 ?_
                          refine e_goto dX12_areLike_169 ?_
                          exact e_lvA (ih _ S2 true (by omega) g1 g2 g3 hbk (fun S3 g => qi (hq S3 g) (by rw [hall, h]))) ⟨rfl, rfl, rfl, rfl, trivial⟩
                · refine e_aload dX12_areLike_116 rfl ?_
                  refine e_iload dX12_areLike_117 rfl ?_
                  refine e_push dX12_areLike_119 ?_
                  refine e_isub dX12_areLike_121 ?_
                  refine e_iload dX12_areLike_122 rfl ?_
                  refine e_push dX12_areLike_124 ?_
                  refine e_isub dX12_areLike_126 ?_
                  obtain ⟨ra, hra, rfl⟩ := fam4 hB.2.2.1 hR5 I.1.2.1 I.1.2.2.1 h113
                  obtain ⟨rb, hrb, rfl⟩ := fam4 hB.2.2.2.1 hR5 I.1.2.1 I.1.2.2.1 (by rw [← h91]; exact h113)
                  refine e_st (show _ = [.int (nI rb), .int (nI ra), .ref (ad 16 0)] by rw [sub_100, sub_100]) ?_
                  have e9 : S.2.1 9 = S0.2.1 9 := hS.2.1 9 (by decide) (by decide) (by decide)
                  have e10 : S.2.1 10 = S0.2.1 10 := hS.2.1 10 (by decide) (by decide) (by decide)
                  obtain ⟨hsa, hsa12⟩ := I.2.2.2.1.2.2 ra hra
                  refine n_callV2 dX12_areLike_127 ca_X12_169 hM.1 ctM_o (c_X12_rowsLike (S := (u1 S.1 30 (nI l.length), S.2)) hM (by omega) (by omega) (show S.2.1 9 ra = nI (S.2.1 9 ra).toNatClampNeg by rw [e9]; exact hsa) (show (S.2.1 9 ra).toNatClampNeg ≤ 12 by rw [e9]; exact hsa12) ?_)
                  refine e_istore dX12_areLike_130 ?_
                  refine e_goto dX12_areLike_131 ?_
                  refine e_goto dX12_areLike_169 ?_
                  have hlf : likeF S0 (5 - d) (nI (100 + ra)) (nI (100 + rb)) = rlB (u1 S.1 30 (nI l.length), S.2) ra rb := by
                    rw [likeF_4 h72 ⟨h91, Int32.not_le.mp h97⟩ h113, show tN (nI (100 + ra)) - 100 = ra by rw [tN_n (by omega)]; omega, show tN (nI (100 + rb)) - 100 = rb by rw [tN_n (by omega)]; omega]
                    unfold rlB riP sz
                    rw [e9, e10]
                  exact e_lvA (ih l (u1 S.1 30 (nI l.length), S.2) _ (by rw [mu_c] at hmu; have := Nat.pow_pos (n := 5 - d) (show 0 < 6 by decide); omega) (hS1) (hK1) (show u1 S.1 30 (nI l.length) 30 = nI l.length from u1_s) (hB.2.2.2.2) (fun S2 g => qi (hq S2 g) (by rw [allL_c, hlf]; simp))) ⟨rfl, rfl, rfl, rfl, trivial⟩
set_option maxRecDepth 100000 in
set_option maxHeartbeats 4000000 in
theorem c_X12_areLike {b0 : Nat} {D : va_G} {dA : Nat → ClassId} {dm : Nat → Nat → Prop} {ad : Nat → Nat → Nat} {Q : PQ} {ct0 : Nat → Nat → va_E} {S : St} (hM : dmM dm) {t : Nat} (I : Inv S t) {x y : Int32} (hx : okT S x) (hy : okT S y) (hq : ∀ S2, Sc S S2 → Q (some (.int (bI (likeF S 5 x y)))) dm ad (ctM dA ad ct0 S2)) : Ct b0 D dA yX12_areLike cX12_areLike 8 (some .boolean) (Rm 2) [.ref (ad 16 0), .int x, .int y] dm ad (ctM dA ad ct0 S) Q := by
  refine ct_of (by decide) (Nat.le_of_ble_eq_true rfl) ?_
  refine e_aload dX12_areLike_0 rfl ?_
  refine e_push dX12_areLike_1 ?_
  refine m_put dX12_areLike_2 fp_X12_162 hM (by decide) rfl ?_
  refine e_aload dX12_areLike_5 rfl ?_
  refine e_iload dX12_areLike_6 rfl ?_
  refine e_iload dX12_areLike_7 rfl ?_
  refine e_push dX12_areLike_8 ?_
  refine n_callV3 dX12_areLike_9 ca_X12_165 hM.1 ctM_o (c_X12_pair (n := 0) hM (by decide) (u1_s (f := S.1) (k := 30)) _ _ _ ?_) 
  refine e_push dX12_areLike_12 ?_
  refine e_istore dX12_areLike_13 ?_
  exact e_lvA (l_X12_areLike hM I (mu [(x, y, 0)] + 1) [(x, y, 0)] (puS (u1 S.1 30 0, S.2) 0 x y (nI 0)) true (by omega) (Sc.tr (S' := (u1 S.1 30 0, S.2)) ⟨fun j hj => u1_n hj, fun _ _ _ _ => rfl, rfl⟩ pu_sc) ⟨rfl, rfl, rfl, trivial⟩ rfl ⟨Nat.le_refl _, Nat.zero_le _, hx, hy, trivial⟩ (fun S2 g => qi (hq S2 g) (by rw [allL_c]; simp [allL]))) ⟨rfl, rfl, rfl, rfl, trivial⟩
set_option maxRecDepth 100000 in
set_option maxHeartbeats 4000000 in
theorem c_X12_like {b0 : Nat} {D : va_G} {dA : Nat → ClassId} {dm : Nat → Nat → Prop} {ad : Nat → Nat → Nat} {Q : PQ} {ct0 : Nat → Nat → va_E} {S : St} (hM : dmM dm) {t : Nat} (I : Inv S t) (p q : Int32) (hq : ∀ S2, Sc S S2 → Q (some (.int (F_like S p q))) dm ad (ctM dA ad ct0 S2)) : Ct b0 D dA yX12_like cX12_like 3 (some .int) (Rm 3) [.ref (ad 16 0), .int p, .int q] dm ad (ctM dA ad ct0 S) Q := by
  refine ct_of (by decide) (Nat.le_of_ble_eq_true rfl) ?_
  refine e_iload dX12_like_0 rfl ?_
  refine n_callS1 dX12_like_1 ca_X12_153  (c_X12_isPlace _ ?_) 
  refine e_if_eqB dX12_like_4 (fun h4 => ?_) (fun h4 => ?_)
  · refine e_push dX12_like_14 ?_
    refine e_goto dX12_like_15 ?_
    exact e_iretI dX12_like_42 rfl (qi (hq S (Sc.rf S)) (by first | (simp [F_like, h4]; done) | (simp [F_like, h11]; done))) (by decide) (by decide)
  · obtain ⟨p, p1, p2, rfl⟩ := inB_l (a := 0) (b := 9) rfl rfl (by decide) (by decide) h4
    have tp : tN (nI p) = p := tN_n (by omega)
    refine e_iload dX12_like_7 rfl ?_
    refine n_callS1 dX12_like_8 ca_X12_153  (c_X12_isPlace _ ?_) 
    refine e_if_neB dX12_like_11 (fun h11 => ?_) (fun h11 => ?_)
    · obtain ⟨q, q1, q2, rfl⟩ := inB_l (a := 0) (b := 9) rfl rfl (by decide) (by decide) h11
      have tq : tN (nI q) = q := tN_n (by omega)
      refine e_aload dX12_like_18 rfl ?_
      refine e_aload dX12_like_19 rfl ?_
      refine m_geta dX12_like_20 fg_X12_47 hM (by decide) rfl ?_
      refine e_iload dX12_like_23 rfl ?_
      refine m_aldN (p) dX12_like_24 hM rfl (by decide) (by first | rfl | simp only [li_1, li_2, li_3, li_4, li_5, li_12, li_60, pk_mul, nI_add]) (by first | omega | (simp only [mLen]; omega)) (by decide) ?_
      refine e_aload dX12_like_25 rfl ?_
      refine m_geta dX12_like_26 fg_X12_47 hM (by decide) rfl ?_
      refine e_iload dX12_like_29 rfl ?_
      refine m_aldN (q) dX12_like_30 hM rfl (by decide) (by first | rfl | simp only [li_1, li_2, li_3, li_4, li_5, li_12, li_60, pk_mul, nI_add]) (by first | omega | (simp only [mLen]; omega)) (by decide) ?_
      refine n_callV2 dX12_like_31 ca_X12_176 hM.1 ctM_o (c_X12_areLike hM I (I.2.2.2.2.2.2.1.1 p (by omega)) (I.2.2.2.2.2.2.1.1 q (by omega)) (fun S2 g => ?_))
      have hv : F_like S (nI p) (nI q) = bI (likeF S 5 (S.2.1 15 p) (S.2.1 15 q)) := by simp only [F_like, h4, h11, Bool.and_self, if_true, tp, tq]
      refine e_if_eqB dX12_like_34 (fun h => ?_) (fun h => ?_)
      · refine e_push dX12_like_41 ?_
        exact e_iretI dX12_like_42 rfl (qi (hq S2 g) (by rw [hv, h]; rfl)) (by decide) (by decide)
      · refine e_push dX12_like_37 ?_
        refine e_goto dX12_like_38 ?_
        exact e_iretI dX12_like_42 rfl (qi (hq S2 g) (by rw [hv, h]; rfl)) (by decide) (by decide)
    · refine e_push dX12_like_14 ?_
      refine e_goto dX12_like_15 ?_
      exact e_iretI dX12_like_42 rfl (qi (hq S (Sc.rf S)) (by first | (simp [F_like, h4]; done) | (simp [F_like, h11]; done))) (by decide) (by decide)
