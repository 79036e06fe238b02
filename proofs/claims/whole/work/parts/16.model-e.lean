set_option maxRecDepth 100000 in
set_option maxHeartbeats 4000000 in
theorem c_X12_part {b0 : Nat} {D : va_G} {dA : Nat → ClassId} {dm : Nat → Nat → Prop} {ad : Nat → Nat → Nat} {Q : PQ} {ct0 : Nat → Nat → va_E} {S : St} (hM : dmM dm) {t : Nat} (I : Inv S t) (s sort k : Int32) (hq : Q (some (.int (F_part S s sort k).1)) dm ad (ctM dA ad ct0 (F_part S s sort k).2)) : Ct b0 D dA yX12_part cX12_part 5 (some .int) (Rm 2) [.ref (ad 16 0), .int s, .int sort, .int k] dm ad (ctM dA ad ct0 S) Q := by
  refine ct_of (by decide) (Nat.le_of_ble_eq_true rfl) ?_
  refine e_iload dX12_part_0 rfl ?_
  refine n_callS1 dX12_part_1 ca_X12_179  (c_X12_isShape _ ?_) 
  refine e_if_eqB dX12_part_4 (fun h4 => ?_) (fun h4 => ?_)
  · refine e_push dX12_part_50 ?_
    exact e_iretI dX12_part_51 rfl (qs hq (by first | (simp [F_part, h4]; done) | (simp [F_part, paB, h13]; done) | (simp [F_part, paB, h17, h28]; done) | (simp [F_part, paB, h33, h47]; done) | (simp [F_part, paB, h38, h47]; done))) (by decide) (by decide)
  · obtain ⟨s, s1, s2, rfl⟩ := inB_l (a := 0) (b := 5) rfl rfl (by decide) (by decide) h4
    have ts : tN (nI s) = s := tN_n (by omega)
    obtain ⟨hpm, hpm5, hcm, hcm4, hso, hch⟩ := I.2.2.2.2.1 s (by omega)
    refine e_iload dX12_part_7 rfl ?_
    refine e_push dX12_part_8 ?_
    refine e_push dX12_part_9 ?_
    refine n_callS3 dX12_part_10 ca_X12_96  (c_X12_in _ _ _ ?_) 
    refine e_if_eqB dX12_part_13 (fun h13 => ?_) (fun h13 => ?_)
    · refine e_push dX12_part_50 ?_
      exact e_iretI dX12_part_51 rfl (qs hq (by first | (simp [F_part, h4]; done) | (simp [F_part, paB, h13]; done) | (simp [F_part, paB, h17, h28]; done) | (simp [F_part, paB, h33, h47]; done) | (simp [F_part, paB, h38, h47]; done))) (by decide) (by decide)
    · refine e_iload dX12_part_16 rfl ?_
      refine e_if_ne dX12_part_17 (fun h17 => ?_) (fun h17 => ?_)
      · refine e_iload dX12_part_31 rfl ?_
        refine e_push dX12_part_32 ?_
        refine e_icmp_eq dX12_part_33 (fun h33 => ?_) (fun h33 => ?_)
        · refine e_iload dX12_part_41 rfl ?_
          refine e_push dX12_part_42 ?_
          refine e_push dX12_part_43 ?_
          refine n_callS3 dX12_part_44 ca_X12_96  (c_X12_in _ _ _ ?_) 
          refine e_if_neB dX12_part_47 (fun h47 => ?_) (fun h47 => ?_)
          · have hpa : paB sort k = true := by first | (simp [paB, h13, h17, h28]; done) | (simp [paB, h13, h17, h33, h38]; done) | (simp [paB, h13, h17, h33, h47]; done) | (simp [paB, h13, h17, h38, h47]; done) | (simp_all [paB]; done)
            refine e_aload dX12_part_52 rfl ?_
            refine m_geta dX12_part_53 fg_X12_50 hM (by decide) rfl ?_
            refine e_iload dX12_part_56 rfl ?_
            refine m_aldN (s) dX12_part_57 hM rfl (by decide) (by first | rfl | simp only [li_1, li_2, li_3, li_4, li_5, li_12, li_60, pk_mul, nI_add]) (by first | omega | (simp only [mLen]; omega)) (by decide) ?_
            refine e_push dX12_part_58 ?_
            refine e_icmp_ne dX12_part_59 (fun h59 => ?_) (fun h59 => ?_)
            · have hp5 : pmN S s < 5 := by
                rcases Nat.lt_or_ge (pmN S s) 5 with z | z
                · exact z
                · exact absurd (hpm.trans (by rw [show pmN S s = 5 by omega]; rfl)) h59
              refine e_aload dX12_part_65 rfl ?_
              refine m_geta dX12_part_66 fg_X12_50 hM (by decide) rfl ?_
              refine e_iload dX12_part_69 rfl ?_
              refine m_aldN (s) dX12_part_70 hM rfl (by decide) (by first | rfl | simp only [li_1, li_2, li_3, li_4, li_5, li_12, li_60, pk_mul, nI_add]) (by first | omega | (simp only [mLen]; omega)) (by decide) ?_
              refine e_topi hpm ?_
              refine e_istore dX12_part_71 ?_
              refine e_aload dX12_part_73 rfl ?_
              refine m_geta dX12_part_74 fg_X12_53 hM (by decide) rfl ?_
              refine e_push dX12_part_77 ?_
              refine e_iload dX12_part_78 rfl ?_
              refine e_imul dX12_part_79 ?_
              refine e_iload dX12_part_80 rfl ?_
              refine e_iadd dX12_part_82 ?_
              refine e_iload dX12_part_83 rfl ?_
              refine m_astN (5 * s + pmN S s) dX12_part_84 hM rfl (by decide) (by first | rfl | simp only [li_1, li_2, li_3, li_4, li_5, li_12, li_60, pk_mul, nI_add]) (by first | omega | (simp only [mLen]; omega)) (by decide) ?_
              refine e_aload dX12_part_85 rfl ?_
              refine m_geta dX12_part_86 fg_X12_56 hM (by decide) rfl ?_
              refine e_push dX12_part_89 ?_
              refine e_iload dX12_part_90 rfl ?_
              refine e_imul dX12_part_91 ?_
              refine e_iload dX12_part_92 rfl ?_
              refine e_iadd dX12_part_94 ?_
              refine e_iload dX12_part_95 rfl ?_
              refine m_astN (5 * s + pmN S s) dX12_part_96 hM rfl (by decide) (by first | rfl | simp only [li_1, li_2, li_3, li_4, li_5, li_12, li_60, pk_mul, nI_add]) (by first | omega | (simp only [mLen]; omega)) (by decide) ?_
              refine e_aload dX12_part_97 rfl ?_
              refine m_geta dX12_part_98 fg_X12_50 hM (by decide) rfl ?_
              refine e_iload dX12_part_101 rfl ?_
              refine e_dup2 dX12_part_102 ?_
              refine m_aldN (s) dX12_part_103 hM rfl (by decide) (by first | rfl | simp only [li_1, li_2, li_3, li_4, li_5, li_12, li_60, pk_mul, nI_add]) (by first | omega | (simp only [mLen]; omega)) (by decide) ?_
              refine e_push dX12_part_104 ?_
              refine e_iadd dX12_part_105 ?_
              refine m_astN (s) dX12_part_106 hM rfl (by decide) (by first | rfl | simp only [li_1, li_2, li_3, li_4, li_5, li_12, li_60, pk_mul, nI_add]) (by first | omega | (simp only [mLen]; omega)) (by decide) ?_
              refine e_iload dX12_part_107 rfl ?_
              exact e_iretI dX12_part_109 rfl (qs hq (by simp only [F_part, h4, hpa, Bool.and_self, if_true, ts]; rw [if_neg h59]; exact Prod.ext hpm rfl)) (by decide) (by decide)
            · refine e_push dX12_part_62 ?_
              exact e_iretI dX12_part_64 rfl (qs hq (by simp only [F_part, h4, hpa, Bool.and_self, if_true, ts]; rw [if_pos h59])) (by decide) (by decide)
          · refine e_push dX12_part_50 ?_
            exact e_iretI dX12_part_51 rfl (qs hq (by first | (simp [F_part, h4]; done) | (simp [F_part, paB, h13]; done) | (simp [F_part, paB, h17, h28]; done) | (simp [F_part, paB, h33, h47]; done) | (simp [F_part, paB, h38, h47]; done))) (by decide) (by decide)
        · refine e_iload dX12_part_36 rfl ?_
          refine e_push dX12_part_37 ?_
          refine e_icmp_ne dX12_part_38 (fun h38 => ?_) (fun h38 => ?_)
          · have hpa : paB sort k = true := by first | (simp [paB, h13, h17, h28]; done) | (simp [paB, h13, h17, h33, h38]; done) | (simp [paB, h13, h17, h33, h47]; done) | (simp [paB, h13, h17, h38, h47]; done) | (simp_all [paB]; done)
            refine e_aload dX12_part_52 rfl ?_
            refine m_geta dX12_part_53 fg_X12_50 hM (by decide) rfl ?_
            refine e_iload dX12_part_56 rfl ?_
            refine m_aldN (s) dX12_part_57 hM rfl (by decide) (by first | rfl | simp only [li_1, li_2, li_3, li_4, li_5, li_12, li_60, pk_mul, nI_add]) (by first | omega | (simp only [mLen]; omega)) (by decide) ?_
            refine e_push dX12_part_58 ?_
            refine e_icmp_ne dX12_part_59 (fun h59 => ?_) (fun h59 => ?_)
            · have hp5 : pmN S s < 5 := by
                rcases Nat.lt_or_ge (pmN S s) 5 with z | z
                · exact z
                · exact absurd (hpm.trans (by rw [show pmN S s = 5 by omega]; rfl)) h59
              refine e_aload dX12_part_65 rfl ?_
              refine m_geta dX12_part_66 fg_X12_50 hM (by decide) rfl ?_
              refine e_iload dX12_part_69 rfl ?_
              refine m_aldN (s) dX12_part_70 hM rfl (by decide) (by first | rfl | simp only [li_1, li_2, li_3, li_4, li_5, li_12, li_60, pk_mul, nI_add]) (by first | omega | (simp only [mLen]; omega)) (by decide) ?_
              refine e_topi hpm ?_
              refine e_istore dX12_part_71 ?_
              refine e_aload dX12_part_73 rfl ?_
              refine m_geta dX12_part_74 fg_X12_53 hM (by decide) rfl ?_
              refine e_push dX12_part_77 ?_
              refine e_iload dX12_part_78 rfl ?_
              refine e_imul dX12_part_79 ?_
              refine e_iload dX12_part_80 rfl ?_
              refine e_iadd dX12_part_82 ?_
              refine e_iload dX12_part_83 rfl ?_
              refine m_astN (5 * s + pmN S s) dX12_part_84 hM rfl (by decide) (by first | rfl | simp only [li_1, li_2, li_3, li_4, li_5, li_12, li_60, pk_mul, nI_add]) (by first | omega | (simp only [mLen]; omega)) (by decide) ?_
              refine e_aload dX12_part_85 rfl ?_
              refine m_geta dX12_part_86 fg_X12_56 hM (by decide) rfl ?_
              refine e_push dX12_part_89 ?_
              refine e_iload dX12_part_90 rfl ?_
              refine e_imul dX12_part_91 ?_
              refine e_iload dX12_part_92 rfl ?_
              refine e_iadd dX12_part_94 ?_
              refine e_iload dX12_part_95 rfl ?_
              refine m_astN (5 * s + pmN S s) dX12_part_96 hM rfl (by decide) (by first | rfl | simp only [li_1, li_2, li_3, li_4, li_5, li_12, li_60, pk_mul, nI_add]) (by first | omega | (simp only [mLen]; omega)) (by decide) ?_
              refine e_aload dX12_part_97 rfl ?_
              refine m_geta dX12_part_98 fg_X12_50 hM (by decide) rfl ?_
              refine e_iload dX12_part_101 rfl ?_
              refine e_dup2 dX12_part_102 ?_
              refine m_aldN (s) dX12_part_103 hM rfl (by decide) (by first | rfl | simp only [li_1, li_2, li_3, li_4, li_5, li_12, li_60, pk_mul, nI_add]) (by first | omega | (simp only [mLen]; omega)) (by decide) ?_
              refine e_push dX12_part_104 ?_
              refine e_iadd dX12_part_105 ?_
              refine m_astN (s) dX12_part_106 hM rfl (by decide) (by first | rfl | simp only [li_1, li_2, li_3, li_4, li_5, li_12, li_60, pk_mul, nI_add]) (by first | omega | (simp only [mLen]; omega)) (by decide) ?_
              refine e_iload dX12_part_107 rfl ?_
              exact e_iretI dX12_part_109 rfl (qs hq (by simp only [F_part, h4, hpa, Bool.and_self, if_true, ts]; rw [if_neg h59]; exact Prod.ext hpm rfl)) (by decide) (by decide)
            · refine e_push dX12_part_62 ?_
              exact e_iretI dX12_part_64 rfl (qs hq (by simp only [F_part, h4, hpa, Bool.and_self, if_true, ts]; rw [if_pos h59])) (by decide) (by decide)
          · refine e_iload dX12_part_41 rfl ?_
            refine e_push dX12_part_42 ?_
            refine e_push dX12_part_43 ?_
            refine n_callS3 dX12_part_44 ca_X12_96  (c_X12_in _ _ _ ?_) 
            refine e_if_neB dX12_part_47 (fun h47 => ?_) (fun h47 => ?_)
            · have hpa : paB sort k = true := by first | (simp [paB, h13, h17, h28]; done) | (simp [paB, h13, h17, h33, h38]; done) | (simp [paB, h13, h17, h33, h47]; done) | (simp [paB, h13, h17, h38, h47]; done) | (simp_all [paB]; done)
              refine e_aload dX12_part_52 rfl ?_
              refine m_geta dX12_part_53 fg_X12_50 hM (by decide) rfl ?_
              refine e_iload dX12_part_56 rfl ?_
              refine m_aldN (s) dX12_part_57 hM rfl (by decide) (by first | rfl | simp only [li_1, li_2, li_3, li_4, li_5, li_12, li_60, pk_mul, nI_add]) (by first | omega | (simp only [mLen]; omega)) (by decide) ?_
              refine e_push dX12_part_58 ?_
              refine e_icmp_ne dX12_part_59 (fun h59 => ?_) (fun h59 => ?_)
              · have hp5 : pmN S s < 5 := by
                  rcases Nat.lt_or_ge (pmN S s) 5 with z | z
                  · exact z
                  · exact absurd (hpm.trans (by rw [show pmN S s = 5 by omega]; rfl)) h59
                refine e_aload dX12_part_65 rfl ?_
                refine m_geta dX12_part_66 fg_X12_50 hM (by decide) rfl ?_
                refine e_iload dX12_part_69 rfl ?_
                refine m_aldN (s) dX12_part_70 hM rfl (by decide) (by first | rfl | simp only [li_1, li_2, li_3, li_4, li_5, li_12, li_60, pk_mul, nI_add]) (by first | omega | (simp only [mLen]; omega)) (by decide) ?_
                refine e_topi hpm ?_
                refine e_istore dX12_part_71 ?_
                refine e_aload dX12_part_73 rfl ?_
                refine m_geta dX12_part_74 fg_X12_53 hM (by decide) rfl ?_
                refine e_push dX12_part_77 ?_
                refine e_iload dX12_part_78 rfl ?_
                refine e_imul dX12_part_79 ?_
                refine e_iload dX12_part_80 rfl ?_
                refine e_iadd dX12_part_82 ?_
                refine e_iload dX12_part_83 rfl ?_
                refine m_astN (5 * s + pmN S s) dX12_part_84 hM rfl (by decide) (by first | rfl | simp only [li_1, li_2, li_3, li_4, li_5, li_12, li_60, pk_mul, nI_add]) (by first | omega | (simp only [mLen]; omega)) (by decide) ?_
                refine e_aload dX12_part_85 rfl ?_
                refine m_geta dX12_part_86 fg_X12_56 hM (by decide) rfl ?_
                refine e_push dX12_part_89 ?_
                refine e_iload dX12_part_90 rfl ?_
                refine e_imul dX12_part_91 ?_
                refine e_iload dX12_part_92 rfl ?_
                refine e_iadd dX12_part_94 ?_
                refine e_iload dX12_part_95 rfl ?_
                refine m_astN (5 * s + pmN S s) dX12_part_96 hM rfl (by decide) (by first | rfl | simp only [li_1, li_2, li_3, li_4, li_5, li_12, li_60, pk_mul, nI_add]) (by first | omega | (simp only [mLen]; omega)) (by decide) ?_
                refine e_aload dX12_part_97 rfl ?_
                refine m_geta dX12_part_98 fg_X12_50 hM (by decide) rfl ?_
                refine e_iload dX12_part_101 rfl ?_
                refine e_dup2 dX12_part_102 ?_
                refine m_aldN (s) dX12_part_103 hM rfl (by decide) (by first | rfl | simp only [li_1, li_2, li_3, li_4, li_5, li_12, li_60, pk_mul, nI_add]) (by first | omega | (simp only [mLen]; omega)) (by decide) ?_
                refine e_push dX12_part_104 ?_
                refine e_iadd dX12_part_105 ?_
                refine m_astN (s) dX12_part_106 hM rfl (by decide) (by first | rfl | simp only [li_1, li_2, li_3, li_4, li_5, li_12, li_60, pk_mul, nI_add]) (by first | omega | (simp only [mLen]; omega)) (by decide) ?_
                refine e_iload dX12_part_107 rfl ?_
                exact e_iretI dX12_part_109 rfl (qs hq (by simp only [F_part, h4, hpa, Bool.and_self, if_true, ts]; rw [if_neg h59]; exact Prod.ext hpm rfl)) (by decide) (by decide)
              · refine e_push dX12_part_62 ?_
                exact e_iretI dX12_part_64 rfl (qs hq (by simp only [F_part, h4, hpa, Bool.and_self, if_true, ts]; rw [if_pos h59])) (by decide) (by decide)
            · refine e_push dX12_part_50 ?_
              exact e_iretI dX12_part_51 rfl (qs hq (by first | (simp [F_part, h4]; done) | (simp [F_part, paB, h13]; done) | (simp [F_part, paB, h17, h28]; done) | (simp [F_part, paB, h33, h47]; done) | (simp [F_part, paB, h38, h47]; done))) (by decide) (by decide)
      · refine e_iload dX12_part_20 rfl ?_
        refine e_push dX12_part_21 ?_
        refine e_push dX12_part_22 ?_
        refine n_callS3 dX12_part_25 ca_X12_96  (c_X12_in _ _ _ ?_) 
        refine e_if_eqB dX12_part_28 (fun h28 => ?_) (fun h28 => ?_)
        · refine e_push dX12_part_50 ?_
          exact e_iretI dX12_part_51 rfl (qs hq (by first | (simp [F_part, h4]; done) | (simp [F_part, paB, h13]; done) | (simp [F_part, paB, h17, h28]; done) | (simp [F_part, paB, h33, h47]; done) | (simp [F_part, paB, h38, h47]; done))) (by decide) (by decide)
        · refine e_iload dX12_part_31 rfl ?_
          refine e_push dX12_part_32 ?_
          refine e_icmp_eq dX12_part_33 (fun h33 => ?_) (fun h33 => ?_)
          · refine e_iload dX12_part_41 rfl ?_
            refine e_push dX12_part_42 ?_
            refine e_push dX12_part_43 ?_
            refine n_callS3 dX12_part_44 ca_X12_96  (c_X12_in _ _ _ ?_) 
            refine e_if_neB dX12_part_47 (fun h47 => ?_) (fun h47 => ?_)
            · have hpa : paB sort k = true := by first | (simp [paB, h13, h17, h28]; done) | (simp [paB, h13, h17, h33, h38]; done) | (simp [paB, h13, h17, h33, h47]; done) | (simp [paB, h13, h17, h38, h47]; done) | (simp_all [paB]; done)
              refine e_aload dX12_part_52 rfl ?_
              refine m_geta dX12_part_53 fg_X12_50 hM (by decide) rfl ?_
              refine e_iload dX12_part_56 rfl ?_
              refine m_aldN (s) dX12_part_57 hM rfl (by decide) (by first | rfl | simp only [li_1, li_2, li_3, li_4, li_5, li_12, li_60, pk_mul, nI_add]) (by first | omega | (simp only [mLen]; omega)) (by decide) ?_
              refine e_push dX12_part_58 ?_
              refine e_icmp_ne dX12_part_59 (fun h59 => ?_) (fun h59 => ?_)
              · have hp5 : pmN S s < 5 := by
                  rcases Nat.lt_or_ge (pmN S s) 5 with z | z
                  · exact z
                  · exact absurd (hpm.trans (by rw [show pmN S s = 5 by omega]; rfl)) h59
                refine e_aload dX12_part_65 rfl ?_
                refine m_geta dX12_part_66 fg_X12_50 hM (by decide) rfl ?_
                refine e_iload dX12_part_69 rfl ?_
                refine m_aldN (s) dX12_part_70 hM rfl (by decide) (by first | rfl | simp only [li_1, li_2, li_3, li_4, li_5, li_12, li_60, pk_mul, nI_add]) (by first | omega | (simp only [mLen]; omega)) (by decide) ?_
                refine e_topi hpm ?_
                refine e_istore dX12_part_71 ?_
                refine e_aload dX12_part_73 rfl ?_
                refine m_geta dX12_part_74 fg_X12_53 hM (by decide) rfl ?_
                refine e_push dX12_part_77 ?_
                refine e_iload dX12_part_78 rfl ?_
                refine e_imul dX12_part_79 ?_
                refine e_iload dX12_part_80 rfl ?_
                refine e_iadd dX12_part_82 ?_
                refine e_iload dX12_part_83 rfl ?_
                refine m_astN (5 * s + pmN S s) dX12_part_84 hM rfl (by decide) (by first | rfl | simp only [li_1, li_2, li_3, li_4, li_5, li_12, li_60, pk_mul, nI_add]) (by first | omega | (simp only [mLen]; omega)) (by decide) ?_
                refine e_aload dX12_part_85 rfl ?_
                refine m_geta dX12_part_86 fg_X12_56 hM (by decide) rfl ?_
                refine e_push dX12_part_89 ?_
                refine e_iload dX12_part_90 rfl ?_
                refine e_imul dX12_part_91 ?_
                refine e_iload dX12_part_92 rfl ?_
                refine e_iadd dX12_part_94 ?_
                refine e_iload dX12_part_95 rfl ?_
                refine m_astN (5 * s + pmN S s) dX12_part_96 hM rfl (by decide) (by first | rfl | simp only [li_1, li_2, li_3, li_4, li_5, li_12, li_60, pk_mul, nI_add]) (by first | omega | (simp only [mLen]; omega)) (by decide) ?_
                refine e_aload dX12_part_97 rfl ?_
                refine m_geta dX12_part_98 fg_X12_50 hM (by decide) rfl ?_
                refine e_iload dX12_part_101 rfl ?_
                refine e_dup2 dX12_part_102 ?_
                refine m_aldN (s) dX12_part_103 hM rfl (by decide) (by first | rfl | simp only [li_1, li_2, li_3, li_4, li_5, li_12, li_60, pk_mul, nI_add]) (by first | omega | (simp only [mLen]; omega)) (by decide) ?_
                refine e_push dX12_part_104 ?_
                refine e_iadd dX12_part_105 ?_
                refine m_astN (s) dX12_part_106 hM rfl (by decide) (by first | rfl | simp only [li_1, li_2, li_3, li_4, li_5, li_12, li_60, pk_mul, nI_add]) (by first | omega | (simp only [mLen]; omega)) (by decide) ?_
                refine e_iload dX12_part_107 rfl ?_
                exact e_iretI dX12_part_109 rfl (qs hq (by simp only [F_part, h4, hpa, Bool.and_self, if_true, ts]; rw [if_neg h59]; exact Prod.ext hpm rfl)) (by decide) (by decide)
              · refine e_push dX12_part_62 ?_
                exact e_iretI dX12_part_64 rfl (qs hq (by simp only [F_part, h4, hpa, Bool.and_self, if_true, ts]; rw [if_pos h59])) (by decide) (by decide)
            · refine e_push dX12_part_50 ?_
              exact e_iretI dX12_part_51 rfl (qs hq (by first | (simp [F_part, h4]; done) | (simp [F_part, paB, h13]; done) | (simp [F_part, paB, h17, h28]; done) | (simp [F_part, paB, h33, h47]; done) | (simp [F_part, paB, h38, h47]; done))) (by decide) (by decide)
          · refine e_iload dX12_part_36 rfl ?_
            refine e_push dX12_part_37 ?_
            refine e_icmp_ne dX12_part_38 (fun h38 => ?_) (fun h38 => ?_)
            · have hpa : paB sort k = true := by first | (simp [paB, h13, h17, h28]; done) | (simp [paB, h13, h17, h33, h38]; done) | (simp [paB, h13, h17, h33, h47]; done) | (simp [paB, h13, h17, h38, h47]; done) | (simp_all [paB]; done)
              refine e_aload dX12_part_52 rfl ?_
              refine m_geta dX12_part_53 fg_X12_50 hM (by decide) rfl ?_
              refine e_iload dX12_part_56 rfl ?_
              refine m_aldN (s) dX12_part_57 hM rfl (by decide) (by first | rfl | simp only [li_1, li_2, li_3, li_4, li_5, li_12, li_60, pk_mul, nI_add]) (by first | omega | (simp only [mLen]; omega)) (by decide) ?_
              refine e_push dX12_part_58 ?_
              refine e_icmp_ne dX12_part_59 (fun h59 => ?_) (fun h59 => ?_)
              · have hp5 : pmN S s < 5 := by
                  rcases Nat.lt_or_ge (pmN S s) 5 with z | z
                  · exact z
                  · exact absurd (hpm.trans (by rw [show pmN S s = 5 by omega]; rfl)) h59
                refine e_aload dX12_part_65 rfl ?_
                refine m_geta dX12_part_66 fg_X12_50 hM (by decide) rfl ?_
                refine e_iload dX12_part_69 rfl ?_
                refine m_aldN (s) dX12_part_70 hM rfl (by decide) (by first | rfl | simp only [li_1, li_2, li_3, li_4, li_5, li_12, li_60, pk_mul, nI_add]) (by first | omega | (simp only [mLen]; omega)) (by decide) ?_
                refine e_topi hpm ?_
                refine e_istore dX12_part_71 ?_
                refine e_aload dX12_part_73 rfl ?_
                refine m_geta dX12_part_74 fg_X12_53 hM (by decide) rfl ?_
                refine e_push dX12_part_77 ?_
                refine e_iload dX12_part_78 rfl ?_
                refine e_imul dX12_part_79 ?_
                refine e_iload dX12_part_80 rfl ?_
                refine e_iadd dX12_part_82 ?_
                refine e_iload dX12_part_83 rfl ?_
                refine m_astN (5 * s + pmN S s) dX12_part_84 hM rfl (by decide) (by first | rfl | simp only [li_1, li_2, li_3, li_4, li_5, li_12, li_60, pk_mul, nI_add]) (by first | omega | (simp only [mLen]; omega)) (by decide) ?_
                refine e_aload dX12_part_85 rfl ?_
                refine m_geta dX12_part_86 fg_X12_56 hM (by decide) rfl ?_
                refine e_push dX12_part_89 ?_
                refine e_iload dX12_part_90 rfl ?_
                refine e_imul dX12_part_91 ?_
                refine e_iload dX12_part_92 rfl ?_
                refine e_iadd dX12_part_94 ?_
                refine e_iload dX12_part_95 rfl ?_
                refine m_astN (5 * s + pmN S s) dX12_part_96 hM rfl (by decide) (by first | rfl | simp only [li_1, li_2, li_3, li_4, li_5, li_12, li_60, pk_mul, nI_add]) (by first | omega | (simp only [mLen]; omega)) (by decide) ?_
                refine e_aload dX12_part_97 rfl ?_
                refine m_geta dX12_part_98 fg_X12_50 hM (by decide) rfl ?_
                refine e_iload dX12_part_101 rfl ?_
                refine e_dup2 dX12_part_102 ?_
                refine m_aldN (s) dX12_part_103 hM rfl (by decide) (by first | rfl | simp only [li_1, li_2, li_3, li_4, li_5, li_12, li_60, pk_mul, nI_add]) (by first | omega | (simp only [mLen]; omega)) (by decide) ?_
                refine e_push dX12_part_104 ?_
                refine e_iadd dX12_part_105 ?_
                refine m_astN (s) dX12_part_106 hM rfl (by decide) (by first | rfl | simp only [li_1, li_2, li_3, li_4, li_5, li_12, li_60, pk_mul, nI_add]) (by first | omega | (simp only [mLen]; omega)) (by decide) ?_
                refine e_iload dX12_part_107 rfl ?_
                exact e_iretI dX12_part_109 rfl (qs hq (by simp only [F_part, h4, hpa, Bool.and_self, if_true, ts]; rw [if_neg h59]; exact Prod.ext hpm rfl)) (by decide) (by decide)
              · refine e_push dX12_part_62 ?_
                exact e_iretI dX12_part_64 rfl (qs hq (by simp only [F_part, h4, hpa, Bool.and_self, if_true, ts]; rw [if_pos h59])) (by decide) (by decide)
            · refine e_iload dX12_part_41 rfl ?_
              refine e_push dX12_part_42 ?_
              refine e_push dX12_part_43 ?_
              refine n_callS3 dX12_part_44 ca_X12_96  (c_X12_in _ _ _ ?_) 
              refine e_if_neB dX12_part_47 (fun h47 => ?_) (fun h47 => ?_)
              · have hpa : paB sort k = true := by first | (simp [paB, h13, h17, h28]; done) | (simp [paB, h13, h17, h33, h38]; done) | (simp [paB, h13, h17, h33, h47]; done) | (simp [paB, h13, h17, h38, h47]; done) | (simp_all [paB]; done)
                refine e_aload dX12_part_52 rfl ?_
                refine m_geta dX12_part_53 fg_X12_50 hM (by decide) rfl ?_
                refine e_iload dX12_part_56 rfl ?_
                refine m_aldN (s) dX12_part_57 hM rfl (by decide) (by first | rfl | simp only [li_1, li_2, li_3, li_4, li_5, li_12, li_60, pk_mul, nI_add]) (by first | omega | (simp only [mLen]; omega)) (by decide) ?_
                refine e_push dX12_part_58 ?_
                refine e_icmp_ne dX12_part_59 (fun h59 => ?_) (fun h59 => ?_)
                · have hp5 : pmN S s < 5 := by
                    rcases Nat.lt_or_ge (pmN S s) 5 with z | z
                    · exact z
                    · exact absurd (hpm.trans (by rw [show pmN S s = 5 by omega]; rfl)) h59
                  refine e_aload dX12_part_65 rfl ?_
                  refine m_geta dX12_part_66 fg_X12_50 hM (by decide) rfl ?_
                  refine e_iload dX12_part_69 rfl ?_
                  refine m_aldN (s) dX12_part_70 hM rfl (by decide) (by first | rfl | simp only [li_1, li_2, li_3, li_4, li_5, li_12, li_60, pk_mul, nI_add]) (by first | omega | (simp only [mLen]; omega)) (by decide) ?_
                  refine e_topi hpm ?_
                  refine e_istore dX12_part_71 ?_
                  refine e_aload dX12_part_73 rfl ?_
                  refine m_geta dX12_part_74 fg_X12_53 hM (by decide) rfl ?_
                  refine e_push dX12_part_77 ?_
                  refine e_iload dX12_part_78 rfl ?_
                  refine e_imul dX12_part_79 ?_
                  refine e_iload dX12_part_80 rfl ?_
                  refine e_iadd dX12_part_82 ?_
                  refine e_iload dX12_part_83 rfl ?_
                  refine m_astN (5 * s + pmN S s) dX12_part_84 hM rfl (by decide) (by first | rfl | simp only [li_1, li_2, li_3, li_4, li_5, li_12, li_60, pk_mul, nI_add]) (by first | omega | (simp only [mLen]; omega)) (by decide) ?_
                  refine e_aload dX12_part_85 rfl ?_
                  refine m_geta dX12_part_86 fg_X12_56 hM (by decide) rfl ?_
                  refine e_push dX12_part_89 ?_
                  refine e_iload dX12_part_90 rfl ?_
                  refine e_imul dX12_part_91 ?_
                  refine e_iload dX12_part_92 rfl ?_
                  refine e_iadd dX12_part_94 ?_
                  refine e_iload dX12_part_95 rfl ?_
                  refine m_astN (5 * s + pmN S s) dX12_part_96 hM rfl (by decide) (by first | rfl | simp only [li_1, li_2, li_3, li_4, li_5, li_12, li_60, pk_mul, nI_add]) (by first | omega | (simp only [mLen]; omega)) (by decide) ?_
                  refine e_aload dX12_part_97 rfl ?_
                  refine m_geta dX12_part_98 fg_X12_50 hM (by decide) rfl ?_
                  refine e_iload dX12_part_101 rfl ?_
                  refine e_dup2 dX12_part_102 ?_
                  refine m_aldN (s) dX12_part_103 hM rfl (by decide) (by first | rfl | simp only [li_1, li_2, li_3, li_4, li_5, li_12, li_60, pk_mul, nI_add]) (by first | omega | (simp only [mLen]; omega)) (by decide) ?_
                  refine e_push dX12_part_104 ?_
                  refine e_iadd dX12_part_105 ?_
                  refine m_astN (s) dX12_part_106 hM rfl (by decide) (by first | rfl | simp only [li_1, li_2, li_3, li_4, li_5, li_12, li_60, pk_mul, nI_add]) (by first | omega | (simp only [mLen]; omega)) (by decide) ?_
                  refine e_iload dX12_part_107 rfl ?_
                  exact e_iretI dX12_part_109 rfl (qs hq (by simp only [F_part, h4, hpa, Bool.and_self, if_true, ts]; rw [if_neg h59]; exact Prod.ext hpm rfl)) (by decide) (by decide)
                · refine e_push dX12_part_62 ?_
                  exact e_iretI dX12_part_64 rfl (qs hq (by simp only [F_part, h4, hpa, Bool.and_self, if_true, ts]; rw [if_pos h59])) (by decide) (by decide)
              · refine e_push dX12_part_50 ?_
                exact e_iretI dX12_part_51 rfl (qs hq (by first | (simp [F_part, h4]; done) | (simp [F_part, paB, h13]; done) | (simp [F_part, paB, h17, h28]; done) | (simp [F_part, paB, h33, h47]; done) | (simp [F_part, paB, h38, h47]; done))) (by decide) (by decide)
set_option maxRecDepth 100000 in
set_option maxHeartbeats 4000000 in
theorem l_X12_check {b0 : Nat} {D : va_G} {dA : Nat → ClassId} {dm : Nat → Nat → Prop} {ad : Nat → Nat → Nat} {Q : PQ} {ct0 : Nat → Nat → va_E} {S : St} (hM : dmM dm) {s : Nat} {kind a b so : Int32} {ft : Bool} (hs : s < 6) (hcm : S.2.1 19 s = nI (cmN S s)) (hcm4 : cmN S s ≤ 4) (hq1 : ft = false → Q (some (.int (-1))) dm ad (ctM dA ad ct0 S)) (hq2 : ft = true → S.2.1 19 s = 4 → Q (some (.int (-2))) dm ad (ctM dA ad ct0 S)) (hq3 : ft = true → ¬ S.2.1 19 s = 4 → Q (some (.int (nI (cmN S s)))) dm ad (ctM dA ad ct0 (chS S s kind a b))) : E b0 D dA yX12_check cX12_check 8 (some .int) (Rm 2) E0 (QFm b0 D dA (Rm 2) Q) 150 (lfA [some (.ref (ad 16 0)), some (.int (nI s)), some (.int kind), some (.int a), some (.int b), some (.int so)]) [.int (bI ft)] dm ad (ctM dA ad ct0 S) 0 0 := by
  refine e_istore dX12_check_150 ?_
  refine e_iload dX12_check_152 rfl ?_
  refine e_if_neB dX12_check_154 (fun h154 => ?_) (fun h154 => ?_)
  · refine e_aload dX12_check_159 rfl ?_
    refine m_geta dX12_check_160 fg_X12_59 hM (by decide) rfl ?_
    refine e_iload dX12_check_163 rfl ?_
    refine m_aldN (s) dX12_check_164 hM rfl (by decide) (by first | rfl | simp only [li_1, li_2, li_3, li_4, li_5, li_12, li_60, pk_mul, nI_add]) (by first | omega | (simp only [mLen]; omega)) (by decide) ?_
    refine e_push dX12_check_165 ?_
    refine e_icmp_ne dX12_check_166 (fun h166 => ?_) (fun h166 => ?_)
    · have hc4 : cmN S s < 4 := by
        rcases Nat.lt_or_ge (cmN S s) 4 with z | z
        · exact z
        · exact absurd (hcm.trans (by rw [show cmN S s = 4 by omega]; rfl)) h166
      refine e_aload dX12_check_172 rfl ?_
      refine m_geta dX12_check_173 fg_X12_59 hM (by decide) rfl ?_
      refine e_iload dX12_check_176 rfl ?_
      refine m_aldN (s) dX12_check_177 hM rfl (by decide) (by first | rfl | simp only [li_1, li_2, li_3, li_4, li_5, li_12, li_60, pk_mul, nI_add]) (by first | omega | (simp only [mLen]; omega)) (by decide) ?_
      refine e_topi hcm ?_
      refine e_istore dX12_check_178 ?_
      refine e_aload dX12_check_180 rfl ?_
      refine m_geta dX12_check_181 fg_X12_62 hM (by decide) rfl ?_
      refine e_push dX12_check_184 ?_
      refine e_iload dX12_check_185 rfl ?_
      refine e_imul dX12_check_186 ?_
      refine e_iload dX12_check_187 rfl ?_
      refine e_iadd dX12_check_189 ?_
      refine e_iload dX12_check_190 rfl ?_
      refine m_astN (4 * s + cmN S s) dX12_check_191 hM rfl (by decide) (by first | rfl | simp only [li_1, li_2, li_3, li_4, li_5, li_12, li_60, pk_mul, nI_add]) (by first | omega | (simp only [mLen]; omega)) (by decide) ?_
      refine e_aload dX12_check_192 rfl ?_
      refine m_geta dX12_check_193 fg_X12_65 hM (by decide) rfl ?_
      refine e_push dX12_check_196 ?_
      refine e_iload dX12_check_197 rfl ?_
      refine e_imul dX12_check_198 ?_
      refine e_iload dX12_check_199 rfl ?_
      refine e_iadd dX12_check_201 ?_
      refine e_iload dX12_check_202 rfl ?_
      refine m_astN (4 * s + cmN S s) dX12_check_203 hM rfl (by decide) (by first | rfl | simp only [li_1, li_2, li_3, li_4, li_5, li_12, li_60, pk_mul, nI_add]) (by first | omega | (simp only [mLen]; omega)) (by decide) ?_
      refine e_aload dX12_check_204 rfl ?_
      refine m_geta dX12_check_205 fg_X12_68 hM (by decide) rfl ?_
      refine e_push dX12_check_208 ?_
      refine e_iload dX12_check_209 rfl ?_
      refine e_imul dX12_check_210 ?_
      refine e_iload dX12_check_211 rfl ?_
      refine e_iadd dX12_check_213 ?_
      refine e_iload dX12_check_214 rfl ?_
      refine m_astN (4 * s + cmN S s) dX12_check_216 hM rfl (by decide) (by first | rfl | simp only [li_1, li_2, li_3, li_4, li_5, li_12, li_60, pk_mul, nI_add]) (by first | omega | (simp only [mLen]; omega)) (by decide) ?_
      refine e_aload dX12_check_217 rfl ?_
      refine m_geta dX12_check_218 fg_X12_59 hM (by decide) rfl ?_
      refine e_iload dX12_check_221 rfl ?_
      refine e_dup2 dX12_check_222 ?_
      refine m_aldN (s) dX12_check_223 hM rfl (by decide) (by first | rfl | simp only [li_1, li_2, li_3, li_4, li_5, li_12, li_60, pk_mul, nI_add]) (by first | omega | (simp only [mLen]; omega)) (by decide) ?_
      refine e_push dX12_check_224 ?_
      refine e_iadd dX12_check_225 ?_
      refine m_astN (s) dX12_check_226 hM rfl (by decide) (by first | rfl | simp only [li_1, li_2, li_3, li_4, li_5, li_12, li_60, pk_mul, nI_add]) (by first | omega | (simp only [mLen]; omega)) (by decide) ?_
      refine e_iload dX12_check_227 rfl ?_
      exact e_iretI dX12_check_229 rfl (hq3 h154 h166) (by decide) (by decide)
    · refine e_push dX12_check_169 ?_
      exact e_iretI dX12_check_171 rfl (hq2 h154 h166) (by decide) (by decide)
  · refine e_push dX12_check_157 ?_
    exact e_iretI dX12_check_158 rfl (hq1 h154) (by decide) (by decide)
set_option maxRecDepth 100000 in
set_option maxHeartbeats 4000000 in
theorem c_X12_check {b0 : Nat} {D : va_G} {dA : Nat → ClassId} {dm : Nat → Nat → Prop} {ad : Nat → Nat → Nat} {Q : PQ} {ct0 : Nat → Nat → va_E} {S : St} (hM : dmM dm) {t : Nat} (I : Inv S t) (s kind a b : Int32) (hq : Q (some (.int (F_check S s kind a b).1)) dm ad (ctM dA ad ct0 (F_check S s kind a b).2)) : Ct b0 D dA yX12_check cX12_check 8 (some .int) (Rm 2) [.ref (ad 16 0), .int s, .int kind, .int a, .int b] dm ad (ctM dA ad ct0 S) Q := by
  refine ct_of (by decide) (Nat.le_of_ble_eq_true rfl) ?_
  refine e_iload dX12_check_0 rfl ?_
  refine n_callS1 dX12_check_1 ca_X12_179  (c_X12_isShape _ ?_) 
  refine e_if_eqB dX12_check_4 (fun h4 => ?_) (fun h4 => ?_)
  · refine e_push dX12_check_63 ?_
    exact e_iretI dX12_check_64 rfl (qs hq (by first | (simp [F_check, ckB, h4]; done) | (simp [F_check, ckB, h13]; done) | (simp [F_check, ckB, ts, h29]; done) | (simp [F_check, ckB, ts, h46]; done) | (simp [F_check, ckB, ts, tb, h60]; done))) (by decide) (by decide)
  · obtain ⟨s, s1, s2, rfl⟩ := inB_l (a := 0) (b := 5) rfl rfl (by decide) (by decide) h4
    have ts : tN (nI s) = s := tN_n (by omega)
    obtain ⟨hpm, hpm5, hcm, hcm4, hso, hch⟩ := I.2.2.2.2.1 s (by omega)
    refine e_iload dX12_check_7 rfl ?_
    refine e_push dX12_check_8 ?_
    refine e_push dX12_check_9 ?_
    refine n_callS3 dX12_check_10 ca_X12_96  (c_X12_in _ _ _ ?_) 
    refine e_if_eqB dX12_check_13 (fun h13 => ?_) (fun h13 => ?_)
    · refine e_push dX12_check_63 ?_
      exact e_iretI dX12_check_64 rfl (qs hq (by first | (simp [F_check, ckB, h4]; done) | (simp [F_check, ckB, h13]; done) | (simp [F_check, ckB, ts, h29]; done) | (simp [F_check, ckB, ts, h46]; done) | (simp [F_check, ckB, ts, tb, h60]; done))) (by decide) (by decide)
    · refine e_iload dX12_check_16 rfl ?_
      refine e_push dX12_check_17 ?_
      refine e_aload dX12_check_18 rfl ?_
      refine m_geta dX12_check_19 fg_X12_50 hM (by decide) rfl ?_
      refine e_iload dX12_check_22 rfl ?_
      refine m_aldN (s) dX12_check_23 hM rfl (by decide) (by first | rfl | simp only [li_1, li_2, li_3, li_4, li_5, li_12, li_60, pk_mul, nI_add]) (by first | omega | (simp only [mLen]; omega)) (by decide) ?_
      refine e_push dX12_check_24 ?_
      refine e_isub dX12_check_25 ?_
      refine n_callS3 dX12_check_26 ca_X12_96  (c_X12_in _ _ _ ?_) 
      refine e_if_eqB dX12_check_29 (fun h29 => ?_) (fun h29 => ?_)
      · refine e_push dX12_check_63 ?_
        exact e_iretI dX12_check_64 rfl (qs hq (by first | (simp [F_check, ckB, h4]; done) | (simp [F_check, ckB, h13]; done) | (simp [F_check, ckB, ts, h29]; done) | (simp [F_check, ckB, ts, h46]; done) | (simp [F_check, ckB, ts, tb, h60]; done))) (by decide) (by decide)
      · have h29b := h29
        rw [hpm] at h29b
        obtain ⟨a, ha, rfl⟩ := inB_n (by omega) h29b
        have ta : tN (nI a) = a := tN_n (by omega)
        refine e_iload dX12_check_32 rfl ?_
        refine e_push dX12_check_34 ?_
        refine e_aload dX12_check_35 rfl ?_
        refine m_geta dX12_check_36 fg_X12_50 hM (by decide) rfl ?_
        refine e_iload dX12_check_39 rfl ?_
        refine m_aldN (s) dX12_check_40 hM rfl (by decide) (by first | rfl | simp only [li_1, li_2, li_3, li_4, li_5, li_12, li_60, pk_mul, nI_add]) (by first | omega | (simp only [mLen]; omega)) (by decide) ?_
        refine e_push dX12_check_41 ?_
        refine e_isub dX12_check_42 ?_
        refine n_callS3 dX12_check_43 ca_X12_96  (c_X12_in _ _ _ ?_) 
        refine e_if_eqB dX12_check_46 (fun h46 => ?_) (fun h46 => ?_)
        · refine e_push dX12_check_63 ?_
          exact e_iretI dX12_check_64 rfl (qs hq (by first | (simp [F_check, ckB, h4]; done) | (simp [F_check, ckB, h13]; done) | (simp [F_check, ckB, ts, h29]; done) | (simp [F_check, ckB, ts, h46]; done) | (simp [F_check, ckB, ts, tb, h60]; done))) (by decide) (by decide)
        · have h46b := h46
          rw [hpm] at h46b
          obtain ⟨b, hb, rfl⟩ := inB_n (by omega) h46b
          have tb : tN (nI b) = b := tN_n (by omega)
          refine e_aload dX12_check_49 rfl ?_
          refine m_geta dX12_check_50 fg_X12_53 hM (by decide) rfl ?_
          refine e_push dX12_check_53 ?_
          refine e_iload dX12_check_54 rfl ?_
          refine e_imul dX12_check_55 ?_
          refine e_iload dX12_check_56 rfl ?_
          refine e_iadd dX12_check_58 ?_
          refine m_aldN (5 * s + b) dX12_check_59 hM rfl (by decide) (by first | rfl | simp only [li_1, li_2, li_3, li_4, li_5, li_12, li_60, pk_mul, nI_add]) (by first | omega | (simp only [mLen]; omega)) (by decide) ?_
          refine e_if_eq dX12_check_60 (fun h60 => ?_) (fun h60 => ?_)
          · refine e_aload dX12_check_65 rfl ?_
            refine m_geta dX12_check_66 fg_X12_53 hM (by decide) rfl ?_
            refine e_push dX12_check_69 ?_
            refine e_iload dX12_check_70 rfl ?_
            refine e_imul dX12_check_71 ?_
            refine e_iload dX12_check_72 rfl ?_
            refine e_iadd dX12_check_73 ?_
            refine m_aldN (5 * s + a) dX12_check_74 hM rfl (by decide) (by first | rfl | simp only [li_1, li_2, li_3, li_4, li_5, li_12, li_60, pk_mul, nI_add]) (by first | omega | (simp only [mLen]; omega)) (by decide) ?_
            refine e_istore dX12_check_75 ?_
            refine e_iload dX12_check_77 rfl ?_
            refine e_push dX12_check_78 ?_
            refine e_icmp_ge dX12_check_79 (fun h79 => ?_) (fun h79 => ?_)
            · refine e_iload dX12_check_95 rfl ?_
              refine e_push dX12_check_96 ?_
              refine e_icmp_ge dX12_check_97 (fun h97 => ?_) (fun h97 => ?_)
              · refine e_iload dX12_check_114 rfl ?_
                refine e_push dX12_check_115 ?_
                refine e_icmp_ne dX12_check_116 (fun h116 => ?_) (fun h116 => ?_)
                · refine e_iload dX12_check_139 rfl ?_
                  refine e_push dX12_check_141 ?_
                  refine e_icmp_ne dX12_check_142 (fun h142 => ?_) (fun h142 => ?_)
                  · refine e_push dX12_check_149 ?_
                    refine e_topi (show _ = bI (fitB kind (S.2.1 17 (5 * s + a))) by unfold fitB; first | (rw [if_pos (Int32.not_le.mp h79)]; first | (rw [decide_eq_true h84]; rfl) | (rw [decide_eq_false h84]; rfl)) | (rw [if_neg (Int32.not_lt.mpr h79), if_pos (Int32.not_le.mp h97)]; first | (rw [decide_eq_true h103]; rfl) | (rw [decide_eq_false h103]; rfl)) | (rw [if_neg (Int32.not_lt.mpr h79), if_neg (Int32.not_lt.mpr h97), if_pos h116]; first | (rw [decide_eq_true h122]; rfl) | (rw [decide_eq_false h122, decide_eq_true h128]; rfl) | (rw [decide_eq_false h122, decide_eq_false h128]; rfl)) | (rw [if_neg (Int32.not_lt.mpr h79), if_neg (Int32.not_lt.mpr h97), if_neg h116]; first | (rw [decide_eq_true h142]; rfl) | (rw [decide_eq_false h142]; rfl))) ?_
                    exact e_lvA (l_X12_check (ft := fitB kind (S.2.1 17 (5 * s + a))) hM (by omega) hcm hcm4 (fun e => qs hq (by simp [F_check, ckB, ts, ta, tb, e])) (fun e g => qs hq (by simp only [F_check, ckB, ts, ta, tb, h4, h13, h29, h46, h60, e, decide_true, Bool.and_self, if_true]; rw [if_pos g])) (fun e g => qs hq (by simp only [F_check, ckB, ts, ta, tb, h4, h13, h29, h46, h60, e, decide_true, Bool.and_self, if_true]; rw [if_neg g, hcm]))) ⟨rfl, rfl, rfl, rfl, rfl, rfl, trivial⟩
                  · refine e_push dX12_check_145 ?_
                    refine e_goto dX12_check_146 ?_
                    refine e_topi (show _ = bI (fitB kind (S.2.1 17 (5 * s + a))) by unfold fitB; first | (rw [if_pos (Int32.not_le.mp h79)]; first | (rw [decide_eq_true h84]; rfl) | (rw [decide_eq_false h84]; rfl)) | (rw [if_neg (Int32.not_lt.mpr h79), if_pos (Int32.not_le.mp h97)]; first | (rw [decide_eq_true h103]; rfl) | (rw [decide_eq_false h103]; rfl)) | (rw [if_neg (Int32.not_lt.mpr h79), if_neg (Int32.not_lt.mpr h97), if_pos h116]; first | (rw [decide_eq_true h122]; rfl) | (rw [decide_eq_false h122, decide_eq_true h128]; rfl) | (rw [decide_eq_false h122, decide_eq_false h128]; rfl)) | (rw [if_neg (Int32.not_lt.mpr h79), if_neg (Int32.not_lt.mpr h97), if_neg h116]; first | (rw [decide_eq_true h142]; rfl) | (rw [decide_eq_false h142]; rfl))) ?_
                    exact e_lvA (l_X12_check (ft := fitB kind (S.2.1 17 (5 * s + a))) hM (by omega) hcm hcm4 (fun e => qs hq (by simp [F_check, ckB, ts, ta, tb, e])) (fun e g => qs hq (by simp only [F_check, ckB, ts, ta, tb, h4, h13, h29, h46, h60, e, decide_true, Bool.and_self, if_true]; rw [if_pos g])) (fun e g => qs hq (by simp only [F_check, ckB, ts, ta, tb, h4, h13, h29, h46, h60, e, decide_true, Bool.and_self, if_true]; rw [if_neg g, hcm]))) ⟨rfl, rfl, rfl, rfl, rfl, rfl, trivial⟩
                · refine e_iload dX12_check_119 rfl ?_
                  refine e_push dX12_check_121 ?_
                  refine e_icmp_eq dX12_check_122 (fun h122 => ?_) (fun h122 => ?_)
                  · refine e_push dX12_check_131 ?_
                    refine e_goto dX12_check_132 ?_
                    refine e_topi (show _ = bI (fitB kind (S.2.1 17 (5 * s + a))) by unfold fitB; first | (rw [if_pos (Int32.not_le.mp h79)]; first | (rw [decide_eq_true h84]; rfl) | (rw [decide_eq_false h84]; rfl)) | (rw [if_neg (Int32.not_lt.mpr h79), if_pos (Int32.not_le.mp h97)]; first | (rw [decide_eq_true h103]; rfl) | (rw [decide_eq_false h103]; rfl)) | (rw [if_neg (Int32.not_lt.mpr h79), if_neg (Int32.not_lt.mpr h97), if_pos h116]; first | (rw [decide_eq_true h122]; rfl) | (rw [decide_eq_false h122, decide_eq_true h128]; rfl) | (rw [decide_eq_false h122, decide_eq_false h128]; rfl)) | (rw [if_neg (Int32.not_lt.mpr h79), if_neg (Int32.not_lt.mpr h97), if_neg h116]; first | (rw [decide_eq_true h142]; rfl) | (rw [decide_eq_false h142]; rfl))) ?_
                    exact e_lvA (l_X12_check (ft := fitB kind (S.2.1 17 (5 * s + a))) hM (by omega) hcm hcm4 (fun e => qs hq (by simp [F_check, ckB, ts, ta, tb, e])) (fun e g => qs hq (by simp only [F_check, ckB, ts, ta, tb, h4, h13, h29, h46, h60, e, decide_true, Bool.and_self, if_true]; rw [if_pos g])) (fun e g => qs hq (by simp only [F_check, ckB, ts, ta, tb, h4, h13, h29, h46, h60, e, decide_true, Bool.and_self, if_true]; rw [if_neg g, hcm]))) ⟨rfl, rfl, rfl, rfl, rfl, rfl, trivial⟩
                  · refine e_iload dX12_check_125 rfl ?_
                    refine e_push dX12_check_127 ?_
                    refine e_icmp_ne dX12_check_128 (fun h128 => ?_) (fun h128 => ?_)
                    · refine e_push dX12_check_135 ?_
                      refine e_goto dX12_check_136 ?_
                      refine e_topi (show _ = bI (fitB kind (S.2.1 17 (5 * s + a))) by unfold fitB; first | (rw [if_pos (Int32.not_le.mp h79)]; first | (rw [decide_eq_true h84]; rfl) | (rw [decide_eq_false h84]; rfl)) | (rw [if_neg (Int32.not_lt.mpr h79), if_pos (Int32.not_le.mp h97)]; first | (rw [decide_eq_true h103]; rfl) | (rw [decide_eq_false h103]; rfl)) | (rw [if_neg (Int32.not_lt.mpr h79), if_neg (Int32.not_lt.mpr h97), if_pos h116]; first | (rw [decide_eq_true h122]; rfl) | (rw [decide_eq_false h122, decide_eq_true h128]; rfl) | (rw [decide_eq_false h122, decide_eq_false h128]; rfl)) | (rw [if_neg (Int32.not_lt.mpr h79), if_neg (Int32.not_lt.mpr h97), if_neg h116]; first | (rw [decide_eq_true h142]; rfl) | (rw [decide_eq_false h142]; rfl))) ?_
                      exact e_lvA (l_X12_check (ft := fitB kind (S.2.1 17 (5 * s + a))) hM (by omega) hcm hcm4 (fun e => qs hq (by simp [F_check, ckB, ts, ta, tb, e])) (fun e g => qs hq (by simp only [F_check, ckB, ts, ta, tb, h4, h13, h29, h46, h60, e, decide_true, Bool.and_self, if_true]; rw [if_pos g])) (fun e g => qs hq (by simp only [F_check, ckB, ts, ta, tb, h4, h13, h29, h46, h60, e, decide_true, Bool.and_self, if_true]; rw [if_neg g, hcm]))) ⟨rfl, rfl, rfl, rfl, rfl, rfl, trivial⟩
                    · refine e_push dX12_check_131 ?_
                      refine e_goto dX12_check_132 ?_
                      refine e_topi (show _ = bI (fitB kind (S.2.1 17 (5 * s + a))) by unfold fitB; first | (rw [if_pos (Int32.not_le.mp h79)]; first | (rw [decide_eq_true h84]; rfl) | (rw [decide_eq_false h84]; rfl)) | (rw [if_neg (Int32.not_lt.mpr h79), if_pos (Int32.not_le.mp h97)]; first | (rw [decide_eq_true h103]; rfl) | (rw [decide_eq_false h103]; rfl)) | (rw [if_neg (Int32.not_lt.mpr h79), if_neg (Int32.not_lt.mpr h97), if_pos h116]; first | (rw [decide_eq_true h122]; rfl) | (rw [decide_eq_false h122, decide_eq_true h128]; rfl) | (rw [decide_eq_false h122, decide_eq_false h128]; rfl)) | (rw [if_neg (Int32.not_lt.mpr h79), if_neg (Int32.not_lt.mpr h97), if_neg h116]; first | (rw [decide_eq_true h142]; rfl) | (rw [decide_eq_false h142]; rfl))) ?_
                      exact e_lvA (l_X12_check (ft := fitB kind (S.2.1 17 (5 * s + a))) hM (by omega) hcm hcm4 (fun e => qs hq (by simp [F_check, ckB, ts, ta, tb, e])) (fun e g => qs hq (by simp only [F_check, ckB, ts, ta, tb, h4, h13, h29, h46, h60, e, decide_true, Bool.and_self, if_true]; rw [if_pos g])) (fun e g => qs hq (by simp only [F_check, ckB, ts, ta, tb, h4, h13, h29, h46, h60, e, decide_true, Bool.and_self, if_true]; rw [if_neg g, hcm]))) ⟨rfl, rfl, rfl, rfl, rfl, rfl, trivial⟩
              · refine e_iload dX12_check_100 rfl ?_
                refine e_push dX12_check_102 ?_
                refine e_icmp_ne dX12_check_103 (fun h103 => ?_) (fun h103 => ?_)
                · refine e_push dX12_check_110 ?_
                  refine e_goto dX12_check_111 ?_
                  refine e_topi (show _ = bI (fitB kind (S.2.1 17 (5 * s + a))) by unfold fitB; first | (rw [if_pos (Int32.not_le.mp h79)]; first | (rw [decide_eq_true h84]; rfl) | (rw [decide_eq_false h84]; rfl)) | (rw [if_neg (Int32.not_lt.mpr h79), if_pos (Int32.not_le.mp h97)]; first | (rw [decide_eq_true h103]; rfl) | (rw [decide_eq_false h103]; rfl)) | (rw [if_neg (Int32.not_lt.mpr h79), if_neg (Int32.not_lt.mpr h97), if_pos h116]; first | (rw [decide_eq_true h122]; rfl) | (rw [decide_eq_false h122, decide_eq_true h128]; rfl) | (rw [decide_eq_false h122, decide_eq_false h128]; rfl)) | (rw [if_neg (Int32.not_lt.mpr h79), if_neg (Int32.not_lt.mpr h97), if_neg h116]; first | (rw [decide_eq_true h142]; rfl) | (rw [decide_eq_false h142]; rfl))) ?_
                  exact e_lvA (l_X12_check (ft := fitB kind (S.2.1 17 (5 * s + a))) hM (by omega) hcm hcm4 (fun e => qs hq (by simp [F_check, ckB, ts, ta, tb, e])) (fun e g => qs hq (by simp only [F_check, ckB, ts, ta, tb, h4, h13, h29, h46, h60, e, decide_true, Bool.and_self, if_true]; rw [if_pos g])) (fun e g => qs hq (by simp only [F_check, ckB, ts, ta, tb, h4, h13, h29, h46, h60, e, decide_true, Bool.and_self, if_true]; rw [if_neg g, hcm]))) ⟨rfl, rfl, rfl, rfl, rfl, rfl, trivial⟩
                · refine e_push dX12_check_106 ?_
                  refine e_goto dX12_check_107 ?_
                  refine e_topi (show _ = bI (fitB kind (S.2.1 17 (5 * s + a))) by unfold fitB; first | (rw [if_pos (Int32.not_le.mp h79)]; first | (rw [decide_eq_true h84]; rfl) | (rw [decide_eq_false h84]; rfl)) | (rw [if_neg (Int32.not_lt.mpr h79), if_pos (Int32.not_le.mp h97)]; first | (rw [decide_eq_true h103]; rfl) | (rw [decide_eq_false h103]; rfl)) | (rw [if_neg (Int32.not_lt.mpr h79), if_neg (Int32.not_lt.mpr h97), if_pos h116]; first | (rw [decide_eq_true h122]; rfl) | (rw [decide_eq_false h122, decide_eq_true h128]; rfl) | (rw [decide_eq_false h122, decide_eq_false h128]; rfl)) | (rw [if_neg (Int32.not_lt.mpr h79), if_neg (Int32.not_lt.mpr h97), if_neg h116]; first | (rw [decide_eq_true h142]; rfl) | (rw [decide_eq_false h142]; rfl))) ?_
                  exact e_lvA (l_X12_check (ft := fitB kind (S.2.1 17 (5 * s + a))) hM (by omega) hcm hcm4 (fun e => qs hq (by simp [F_check, ckB, ts, ta, tb, e])) (fun e g => qs hq (by simp only [F_check, ckB, ts, ta, tb, h4, h13, h29, h46, h60, e, decide_true, Bool.and_self, if_true]; rw [if_pos g])) (fun e g => qs hq (by simp only [F_check, ckB, ts, ta, tb, h4, h13, h29, h46, h60, e, decide_true, Bool.and_self, if_true]; rw [if_neg g, hcm]))) ⟨rfl, rfl, rfl, rfl, rfl, rfl, trivial⟩
            · refine e_iload dX12_check_82 rfl ?_
              refine e_if_ne dX12_check_84 (fun h84 => ?_) (fun h84 => ?_)
              · refine e_push dX12_check_91 ?_
                refine e_goto dX12_check_92 ?_
                refine e_topi (show _ = bI (fitB kind (S.2.1 17 (5 * s + a))) by unfold fitB; first | (rw [if_pos (Int32.not_le.mp h79)]; first | (rw [decide_eq_true h84]; rfl) | (rw [decide_eq_false h84]; rfl)) | (rw [if_neg (Int32.not_lt.mpr h79), if_pos (Int32.not_le.mp h97)]; first | (rw [decide_eq_true h103]; rfl) | (rw [decide_eq_false h103]; rfl)) | (rw [if_neg (Int32.not_lt.mpr h79), if_neg (Int32.not_lt.mpr h97), if_pos h116]; first | (rw [decide_eq_true h122]; rfl) | (rw [decide_eq_false h122, decide_eq_true h128]; rfl) | (rw [decide_eq_false h122, decide_eq_false h128]; rfl)) | (rw [if_neg (Int32.not_lt.mpr h79), if_neg (Int32.not_lt.mpr h97), if_neg h116]; first | (rw [decide_eq_true h142]; rfl) | (rw [decide_eq_false h142]; rfl))) ?_
                exact e_lvA (l_X12_check (ft := fitB kind (S.2.1 17 (5 * s + a))) hM (by omega) hcm hcm4 (fun e => qs hq (by simp [F_check, ckB, ts, ta, tb, e])) (fun e g => qs hq (by simp only [F_check, ckB, ts, ta, tb, h4, h13, h29, h46, h60, e, decide_true, Bool.and_self, if_true]; rw [if_pos g])) (fun e g => qs hq (by simp only [F_check, ckB, ts, ta, tb, h4, h13, h29, h46, h60, e, decide_true, Bool.and_self, if_true]; rw [if_neg g, hcm]))) ⟨rfl, rfl, rfl, rfl, rfl, rfl, trivial⟩
              · refine e_push dX12_check_87 ?_
                refine e_goto dX12_check_88 ?_
                refine e_topi (show _ = bI (fitB kind (S.2.1 17 (5 * s + a))) by unfold fitB; first | (rw [if_pos (Int32.not_le.mp h79)]; first | (rw [decide_eq_true h84]; rfl) | (rw [decide_eq_false h84]; rfl)) | (rw [if_neg (Int32.not_lt.mpr h79), if_pos (Int32.not_le.mp h97)]; first | (rw [decide_eq_true h103]; rfl) | (rw [decide_eq_false h103]; rfl)) | (rw [if_neg (Int32.not_lt.mpr h79), if_neg (Int32.not_lt.mpr h97), if_pos h116]; first | (rw [decide_eq_true h122]; rfl) | (rw [decide_eq_false h122, decide_eq_true h128]; rfl) | (rw [decide_eq_false h122, decide_eq_false h128]; rfl)) | (rw [if_neg (Int32.not_lt.mpr h79), if_neg (Int32.not_lt.mpr h97), if_neg h116]; first | (rw [decide_eq_true h142]; rfl) | (rw [decide_eq_false h142]; rfl))) ?_
                exact e_lvA (l_X12_check (ft := fitB kind (S.2.1 17 (5 * s + a))) hM (by omega) hcm hcm4 (fun e => qs hq (by simp [F_check, ckB, ts, ta, tb, e])) (fun e g => qs hq (by simp only [F_check, ckB, ts, ta, tb, h4, h13, h29, h46, h60, e, decide_true, Bool.and_self, if_true]; rw [if_pos g])) (fun e g => qs hq (by simp only [F_check, ckB, ts, ta, tb, h4, h13, h29, h46, h60, e, decide_true, Bool.and_self, if_true]; rw [if_neg g, hcm]))) ⟨rfl, rfl, rfl, rfl, rfl, rfl, trivial⟩
          · refine e_push dX12_check_63 ?_
            exact e_iretI dX12_check_64 rfl (qs hq (by first | (simp [F_check, ckB, h4]; done) | (simp [F_check, ckB, h13]; done) | (simp [F_check, ckB, ts, h29]; done) | (simp [F_check, ckB, ts, h46]; done) | (simp [F_check, ckB, ts, tb, h60]; done))) (by decide) (by decide)
set_option maxRecDepth 100000 in
set_option maxHeartbeats 4000000 in
theorem c_X12_give {b0 : Nat} {D : va_G} {dA : Nat → ClassId} {dm : Nat → Nat → Prop} {ad : Nat → Nat → Nat} {Q : PQ} {ct0 : Nat → Nat → va_E} {S : St} (hM : dmM dm) {t : Nat} (I : Inv S t) (p v q : Int32) (hq : Q (some (.int (F_give S p v q).1)) dm ad (ctM dA ad ct0 (F_give S p v q).2)) : Ct b0 D dA yX12_give cX12_give 4 (some .int) (Rm 2) [.ref (ad 16 0), .int p, .int v, .int q] dm ad (ctM dA ad ct0 S) Q := by
  refine ct_of (by decide) (Nat.le_of_ble_eq_true rfl) ?_
  refine e_iload dX12_give_0 rfl ?_
  refine e_push dX12_give_1 ?_
  refine e_push dX12_give_2 ?_
  refine n_callS3 dX12_give_3 ca_X12_96  (c_X12_in _ _ _ ?_) 
  refine e_if_eqB dX12_give_6 (fun h6 => ?_) (fun h6 => ?_)
  · refine e_push dX12_give_16 ?_
    exact e_iretI dX12_give_17 rfl (qs hq (by first | (simp [F_give, h6]; done) | (simp [F_give, h13]; done))) (by decide) (by decide)
  · obtain ⟨p, p1, p2, rfl⟩ := inB_l (a := 0) (b := 4) rfl rfl (by decide) (by decide) h6
    have tp : tN (nI p) = p := tN_n (by omega)
    refine e_iload dX12_give_9 rfl ?_
    refine n_callS1 dX12_give_10 ca_X12_153  (c_X12_isPlace _ ?_) 
    refine e_if_neB dX12_give_13 (fun h13 => ?_) (fun h13 => ?_)
    · refine e_aload dX12_give_18 rfl ?_
      refine m_geta dX12_give_19 fg_X12_71 hM (by decide) rfl ?_
      refine e_iload dX12_give_22 rfl ?_
      refine e_iload dX12_give_23 rfl ?_
      refine m_astN (p) dX12_give_24 hM rfl (by decide) (by first | rfl | simp only [li_1, li_2, li_3, li_4, li_5, li_12, li_60, pk_mul, nI_add]) (by first | omega | (simp only [mLen]; omega)) (by decide) ?_
      refine e_aload dX12_give_25 rfl ?_
      refine m_geta dX12_give_26 fg_X12_74 hM (by decide) rfl ?_
      refine e_iload dX12_give_29 rfl ?_
      refine e_iload dX12_give_30 rfl ?_
      refine m_astN (p) dX12_give_31 hM rfl (by decide) (by first | rfl | simp only [li_1, li_2, li_3, li_4, li_5, li_12, li_60, pk_mul, nI_add]) (by first | omega | (simp only [mLen]; omega)) (by decide) ?_
      refine e_push dX12_give_32 ?_
      exact e_iretI dX12_give_33 rfl (qs hq (by simp [F_give, h6, h13, tp])) (by decide) (by decide)
    · refine e_push dX12_give_16 ?_
      exact e_iretI dX12_give_17 rfl (qs hq (by first | (simp [F_give, h6]; done) | (simp [F_give, h13]; done))) (by decide) (by decide)
set_option maxRecDepth 100000 in
set_option maxHeartbeats 4000000 in
theorem c_X12_cause {b0 : Nat} {D : va_G} {dA : Nat → ClassId} {dm : Nat → Nat → Prop} {ad : Nat → Nat → Nat} {Q : PQ} {ct0 : Nat → Nat → va_E} {S : St} (hM : dmM dm) (w : Int32) (hq : Q (some (.int (F_cause S w))) dm ad (ctM dA ad ct0 S)) : Ct b0 D dA yX12_cause cX12_cause 2 (some .int) (Rm 0) [.ref (ad 16 0), .int w] dm ad (ctM dA ad ct0 S) Q := by
  refine ct_of (by decide) (Nat.le_of_ble_eq_true rfl) ?_
  refine e_iload dX12_cause_0 rfl ?_
  refine e_if_ne dX12_cause_1 (fun h1 => ?_) (fun h1 => ?_)
  · refine e_iload dX12_cause_11 rfl ?_
    refine e_push dX12_cause_12 ?_
    refine e_icmp_ne dX12_cause_13 (fun h13 => ?_) (fun h13 => ?_)
    · refine e_push dX12_cause_23 ?_
      exact e_iretI dX12_cause_24 rfl (qi hq (by first | (simp [F_cause, h1]; done) | (simp [F_cause, h1, h13]; done))) (by decide) (by decide)
    · refine e_aload dX12_cause_16 rfl ?_
      refine m_geti dX12_cause_17 fg_X12_77 hM (by decide) rfl ?_
      refine e_goto dX12_cause_20 ?_
      exact e_iretI dX12_cause_24 rfl (qi hq (by first | (simp [F_cause, h1]; done) | (simp [F_cause, h1, h13]; done))) (by decide) (by decide)
  · refine e_aload dX12_cause_4 rfl ?_
    refine m_geti dX12_cause_5 fg_X12_185 hM (by decide) rfl ?_
    refine e_goto dX12_cause_8 ?_
    exact e_iretI dX12_cause_24 rfl (qi hq (by first | (simp [F_cause, h1]; done) | (simp [F_cause, h1, h13]; done))) (by decide) (by decide)
set_option maxRecDepth 100000 in
set_option maxHeartbeats 4000000 in
theorem c_X12_started {b0 : Nat} {D : va_G} {dA : Nat → ClassId} {dm : Nat → Nat → Prop} {ad : Nat → Nat → Nat} {Q : PQ} {ct0 : Nat → Nat → va_E} {S : St} (hM : dmM dm) (k : Int32) (hq : Q (some (.int (F_started S k))) dm ad (ctM dA ad ct0 S)) : Ct b0 D dA yX12_started cX12_started 2 (some .int) (Rm 2) [.ref (ad 16 0), .int k] dm ad (ctM dA ad ct0 S) Q := by
  refine ct_of (by decide) (Nat.le_of_ble_eq_true rfl) ?_
  refine e_iload dX12_started_0 rfl ?_
  refine n_callS1 dX12_started_1 ca_X12_100  (c_X12_isKind _ ?_) 
  refine e_if_eqB dX12_started_4 (fun h4 => ?_) (fun h4 => ?_)
  · refine e_push dX12_started_16 ?_
    exact e_iretI dX12_started_17 rfl (qi hq (by first | (simp [F_started, h4]; done) | (simp [F_started, h4, tk]; done))) (by decide) (by decide)
  · obtain ⟨k, k1, k2, rfl⟩ := inB_l (a := 0) (b := 5) rfl rfl (by decide) (by decide) h4
    have tk : tN (nI k) = k := tN_n (by omega)
    refine e_aload dX12_started_7 rfl ?_
    refine m_geta dX12_started_8 fg_X12_81 hM (by decide) rfl ?_
    refine e_iload dX12_started_11 rfl ?_
    refine m_aldN (k) dX12_started_12 hM rfl (by decide) (by first | rfl | simp only [li_1, li_2, li_3, li_4, li_5, li_12, li_60, pk_mul, nI_add]) (by first | omega | (simp only [mLen]; omega)) (by decide) ?_
    refine e_goto dX12_started_13 ?_
    exact e_iretI dX12_started_17 rfl (qi hq (by first | (simp [F_started, h4]; done) | (simp [F_started, h4, tk]; done))) (by decide) (by decide)
set_option maxRecDepth 100000 in
set_option maxHeartbeats 4000000 in
theorem l2_X12_count {b0 : Nat} {D : va_G} {dA : Nat → ClassId} {dm : Nat → Nat → Prop} {ad : Nat → Nat → Nat} {Q : PQ} {ct0 : Nat → Nat → va_E} {S : St} (hM : dmM dm) {w : Int32} (hq : Q (some (.int (F_count S w))) dm ad (ctM dA ad ct0 S)) : ∀ k i, i + k = 6 → E b0 D dA yX12_count cX12_count 5 (some .int) (Rm 0) E0 (QFm b0 D dA (Rm 0) Q) 42 (lfA [some (.ref (ad 16 0)), some (.int w), some (.int (nI (cnt (heP S) 10))), some (.int (nI (cnt (stP S) i))), some (.int (nI i))]) [] dm ad (ctM dA ad ct0 S) 0 0 := by
  intro k
  induction k with
  | zero =>
    intro i hi
    refine e_iload dX12_count_42 rfl ?_
    refine e_push dX12_count_44 ?_
    refine e_icmp_ge dX12_count_46 (fun h46 => ?_) (fun h46 => ?_)
    · have e6 : i = 6 := by omega
      subst e6
      refine e_iload dX12_count_75 rfl ?_
      refine e_if_ne dX12_count_76 (fun h76 => ?_) (fun h76 => ?_)
      · refine e_iload dX12_count_86 rfl ?_
        refine e_push dX12_count_87 ?_
        refine e_icmp_ne dX12_count_88 (fun h88 => ?_) (fun h88 => ?_)
        · refine e_iload dX12_count_98 rfl ?_
          refine e_push dX12_count_99 ?_
          refine e_icmp_ne dX12_count_100 (fun h100 => ?_) (fun h100 => ?_)
          · refine e_iload dX12_count_110 rfl ?_
            refine e_push dX12_count_111 ?_
            refine e_icmp_ne dX12_count_112 (fun h112 => ?_) (fun h112 => ?_)
            · refine e_iload dX12_count_122 rfl ?_
              refine e_push dX12_count_123 ?_
              refine e_icmp_ne dX12_count_124 (fun h124 => ?_) (fun h124 => ?_)
              · refine e_iload dX12_count_131 rfl ?_
                refine e_push dX12_count_132 ?_
                refine e_icmp_ne dX12_count_133 (fun h133 => ?_) (fun h133 => ?_)
                · refine e_push dX12_count_140 ?_
                  exact e_iretI dX12_count_141 rfl (qi hq (by unfold F_count; first | (rw [if_pos h76]; done) | (rw [if_neg h76, if_pos h88]; done) | (rw [if_neg h76, if_neg h88, if_pos h100]; done) | (rw [if_neg h76, if_neg h88, if_neg h100, if_pos h112]; done) | (rw [if_neg h76, if_neg h88, if_neg h100, if_neg h112, if_pos h124]; done) | (rw [if_neg h76, if_neg h88, if_neg h100, if_neg h112, if_neg h124, if_pos h133]; done) | (rw [if_neg h76, if_neg h88, if_neg h100, if_neg h112, if_neg h124, if_neg h133]; done))) (by decide) (by decide)
                · refine e_iload dX12_count_136 rfl ?_
                  refine e_goto dX12_count_137 ?_
                  exact e_iretI dX12_count_141 rfl (qi hq (by unfold F_count; first | (rw [if_pos h76]; done) | (rw [if_neg h76, if_pos h88]; done) | (rw [if_neg h76, if_neg h88, if_pos h100]; done) | (rw [if_neg h76, if_neg h88, if_neg h100, if_pos h112]; done) | (rw [if_neg h76, if_neg h88, if_neg h100, if_neg h112, if_pos h124]; done) | (rw [if_neg h76, if_neg h88, if_neg h100, if_neg h112, if_neg h124, if_pos h133]; done) | (rw [if_neg h76, if_neg h88, if_neg h100, if_neg h112, if_neg h124, if_neg h133]; done))) (by decide) (by decide)
              · refine e_iload dX12_count_127 rfl ?_
                refine e_goto dX12_count_128 ?_
                exact e_iretI dX12_count_141 rfl (qi hq (by unfold F_count; first | (rw [if_pos h76]; done) | (rw [if_neg h76, if_pos h88]; done) | (rw [if_neg h76, if_neg h88, if_pos h100]; done) | (rw [if_neg h76, if_neg h88, if_neg h100, if_pos h112]; done) | (rw [if_neg h76, if_neg h88, if_neg h100, if_neg h112, if_pos h124]; done) | (rw [if_neg h76, if_neg h88, if_neg h100, if_neg h112, if_neg h124, if_pos h133]; done) | (rw [if_neg h76, if_neg h88, if_neg h100, if_neg h112, if_neg h124, if_neg h133]; done))) (by decide) (by decide)
            · refine e_aload dX12_count_115 rfl ?_
              refine m_geti dX12_count_116 fg_X12_182 hM (by decide) rfl ?_
              refine e_goto dX12_count_119 ?_
              exact e_iretI dX12_count_141 rfl (qi hq (by unfold F_count; first | (rw [if_pos h76]; done) | (rw [if_neg h76, if_pos h88]; done) | (rw [if_neg h76, if_neg h88, if_pos h100]; done) | (rw [if_neg h76, if_neg h88, if_neg h100, if_pos h112]; done) | (rw [if_neg h76, if_neg h88, if_neg h100, if_neg h112, if_pos h124]; done) | (rw [if_neg h76, if_neg h88, if_neg h100, if_neg h112, if_neg h124, if_pos h133]; done) | (rw [if_neg h76, if_neg h88, if_neg h100, if_neg h112, if_neg h124, if_neg h133]; done))) (by decide) (by decide)
          · refine e_aload dX12_count_103 rfl ?_
            refine m_geti dX12_count_104 fg_X12_149 hM (by decide) rfl ?_
            refine e_goto dX12_count_107 ?_
            exact e_iretI dX12_count_141 rfl (qi hq (by unfold F_count; first | (rw [if_pos h76]; done) | (rw [if_neg h76, if_pos h88]; done) | (rw [if_neg h76, if_neg h88, if_pos h100]; done) | (rw [if_neg h76, if_neg h88, if_neg h100, if_pos h112]; done) | (rw [if_neg h76, if_neg h88, if_neg h100, if_neg h112, if_pos h124]; done) | (rw [if_neg h76, if_neg h88, if_neg h100, if_neg h112, if_neg h124, if_pos h133]; done) | (rw [if_neg h76, if_neg h88, if_neg h100, if_neg h112, if_neg h124, if_neg h133]; done))) (by decide) (by decide)
        · refine e_aload dX12_count_91 rfl ?_
          refine m_geti dX12_count_92 fg_X12_138 hM (by decide) rfl ?_
          refine e_goto dX12_count_95 ?_
          exact e_iretI dX12_count_141 rfl (qi hq (by unfold F_count; first | (rw [if_pos h76]; done) | (rw [if_neg h76, if_pos h88]; done) | (rw [if_neg h76, if_neg h88, if_pos h100]; done) | (rw [if_neg h76, if_neg h88, if_neg h100, if_pos h112]; done) | (rw [if_neg h76, if_neg h88, if_neg h100, if_neg h112, if_pos h124]; done) | (rw [if_neg h76, if_neg h88, if_neg h100, if_neg h112, if_neg h124, if_pos h133]; done) | (rw [if_neg h76, if_neg h88, if_neg h100, if_neg h112, if_neg h124, if_neg h133]; done))) (by decide) (by decide)
      · refine e_aload dX12_count_79 rfl ?_
        refine m_geti dX12_count_80 fg_X12_93 hM (by decide) rfl ?_
        refine e_goto dX12_count_83 ?_
        exact e_iretI dX12_count_141 rfl (qi hq (by unfold F_count; first | (rw [if_pos h76]; done) | (rw [if_neg h76, if_pos h88]; done) | (rw [if_neg h76, if_neg h88, if_pos h100]; done) | (rw [if_neg h76, if_neg h88, if_neg h100, if_pos h112]; done) | (rw [if_neg h76, if_neg h88, if_neg h100, if_neg h112, if_pos h124]; done) | (rw [if_neg h76, if_neg h88, if_neg h100, if_neg h112, if_neg h124, if_pos h133]; done) | (rw [if_neg h76, if_neg h88, if_neg h100, if_neg h112, if_neg h124, if_neg h133]; done))) (by decide) (by decide)
    · exact absurd (show (6 : Int32) ≤ nI i by rw [show i = 6 by omega]; decide) h46
  | succ k ih =>
    intro i hi
    refine e_iload dX12_count_42 rfl ?_
    refine e_push dX12_count_44 ?_
    refine e_icmp_ge dX12_count_46 (fun h46 => ?_) (fun h46 => ?_)
    · exact absurd h46 (by show ¬ nI 6 ≤ nI i; exact nI_ge (by omega) (by decide))
    · refine e_iload dX12_count_49 rfl ?_
      refine e_aload dX12_count_50 rfl ?_
      refine m_geta dX12_count_51 fg_X12_81 hM (by decide) rfl ?_
      refine e_iload dX12_count_54 rfl ?_
      refine m_aldN (i) dX12_count_56 hM rfl (by decide) (by first | rfl | simp only [li_1, li_2, li_3, li_4, li_5, li_12, li_60, pk_mul, nI_add]) (by first | omega | (simp only [mLen]; omega)) (by decide) ?_
      refine e_push dX12_count_57 ?_
      refine e_icmp_ne dX12_count_59 (fun h59 => ?_) (fun h59 => ?_)
      · refine e_push dX12_count_66 ?_
        refine e_iadd dX12_count_67 ?_
        refine e_topi (show _ = nI (cnt (stP S) (i + 1)) by first | (rw [cnt_f (show stP S i = false by simp [stP, h59])]; exact Int32.add_zero _) | (rw [cnt_t (show stP S i = true by simp [stP, h59])]; exact nI_1 _)) ?_
        refine e_istore dX12_count_68 ?_
        refine e_iinc dX12_count_69 rfl (inc1 i) ?_
        refine e_goto dX12_count_72 ?_
        exact e_lvA (ih (i + 1) (by omega)) ⟨rfl, rfl, rfl, rfl, rfl, trivial⟩
      · refine e_push dX12_count_62 ?_
        refine e_goto dX12_count_63 ?_
        refine e_iadd dX12_count_67 ?_
        refine e_topi (show _ = nI (cnt (stP S) (i + 1)) by first | (rw [cnt_f (show stP S i = false by simp [stP, h59])]; exact Int32.add_zero _) | (rw [cnt_t (show stP S i = true by simp [stP, h59])]; exact nI_1 _)) ?_
        refine e_istore dX12_count_68 ?_
        refine e_iinc dX12_count_69 rfl (inc1 i) ?_
        refine e_goto dX12_count_72 ?_
        exact e_lvA (ih (i + 1) (by omega)) ⟨rfl, rfl, rfl, rfl, rfl, trivial⟩
set_option maxRecDepth 100000 in
set_option maxHeartbeats 4000000 in
theorem l1_X12_count {b0 : Nat} {D : va_G} {dA : Nat → ClassId} {dm : Nat → Nat → Prop} {ad : Nat → Nat → Nat} {Q : PQ} {ct0 : Nat → Nat → va_E} {S : St} (hM : dmM dm) {w : Int32} (hq : Q (some (.int (F_count S w))) dm ad (ctM dA ad ct0 S)) : ∀ k i, i + k = 10 → E b0 D dA yX12_count cX12_count 5 (some .int) (Rm 0) E0 (QFm b0 D dA (Rm 0) Q) 7 (lfA [some (.ref (ad 16 0)), some (.int w), some (.int (nI (cnt (heP S) i))), some (.int 0), some (.int (nI i))]) [] dm ad (ctM dA ad ct0 S) 0 0 := by
  intro k
  induction k with
  | zero =>
    intro i hi
    refine e_iload dX12_count_7 rfl ?_
    refine e_push dX12_count_9 ?_
    refine e_icmp_ge dX12_count_11 (fun h11 => ?_) (fun h11 => ?_)
    · have e10 : i = 10 := by omega
      subst e10
      refine e_push dX12_count_39 ?_
      refine e_istore dX12_count_40 ?_
      exact e_lvA (l2_X12_count hM hq 6 0 (by omega)) ⟨rfl, rfl, rfl, rfl, rfl, trivial⟩
    · exact absurd (show (10 : Int32) ≤ nI i by rw [show i = 10 by omega]; decide) h11
  | succ k ih =>
    intro i hi
    refine e_iload dX12_count_7 rfl ?_
    refine e_push dX12_count_9 ?_
    refine e_icmp_ge dX12_count_11 (fun h11 => ?_) (fun h11 => ?_)
    · exact absurd h11 (by show ¬ nI 10 ≤ nI i; exact nI_ge (by omega) (by decide))
    · refine e_iload dX12_count_14 rfl ?_
      refine e_aload dX12_count_15 rfl ?_
      refine m_geta dX12_count_16 fg_X12_47 hM (by decide) rfl ?_
      refine e_iload dX12_count_19 rfl ?_
      refine m_aldN (i) dX12_count_21 hM rfl (by decide) (by first | rfl | simp only [li_1, li_2, li_3, li_4, li_5, li_12, li_60, pk_mul, nI_add]) (by first | omega | (simp only [mLen]; omega)) (by decide) ?_
      refine e_push dX12_count_22 ?_
      refine e_icmp_ne dX12_count_23 (fun h23 => ?_) (fun h23 => ?_)
      · refine e_push dX12_count_30 ?_
        refine e_iadd dX12_count_31 ?_
        refine e_topi (show _ = nI (cnt (heP S) (i + 1)) by first | (rw [cnt_f (show heP S i = false by simp [heP, h23])]; exact Int32.add_zero _) | (rw [cnt_t (show heP S i = true by simp [heP, h23])]; exact nI_1 _)) ?_
        refine e_istore dX12_count_32 ?_
        refine e_iinc dX12_count_33 rfl (inc1 i) ?_
        refine e_goto dX12_count_36 ?_
        exact e_lvA (ih (i + 1) (by omega)) ⟨rfl, rfl, rfl, rfl, rfl, trivial⟩
      · refine e_push dX12_count_26 ?_
        refine e_goto dX12_count_27 ?_
        refine e_iadd dX12_count_31 ?_
        refine e_topi (show _ = nI (cnt (heP S) (i + 1)) by first | (rw [cnt_f (show heP S i = false by simp [heP, h23])]; exact Int32.add_zero _) | (rw [cnt_t (show heP S i = true by simp [heP, h23])]; exact nI_1 _)) ?_
        refine e_istore dX12_count_32 ?_
        refine e_iinc dX12_count_33 rfl (inc1 i) ?_
        refine e_goto dX12_count_36 ?_
        exact e_lvA (ih (i + 1) (by omega)) ⟨rfl, rfl, rfl, rfl, rfl, trivial⟩
set_option maxRecDepth 100000 in
set_option maxHeartbeats 4000000 in
theorem c_X12_count {b0 : Nat} {D : va_G} {dA : Nat → ClassId} {dm : Nat → Nat → Prop} {ad : Nat → Nat → Nat} {Q : PQ} {ct0 : Nat → Nat → va_E} {S : St} (hM : dmM dm) (w : Int32) (hq : Q (some (.int (F_count S w))) dm ad (ctM dA ad ct0 S)) : Ct b0 D dA yX12_count cX12_count 5 (some .int) (Rm 0) [.ref (ad 16 0), .int w] dm ad (ctM dA ad ct0 S) Q := by
  refine ct_of (by decide) (Nat.le_of_ble_eq_true rfl) ?_
  refine e_push dX12_count_0 ?_
  refine e_istore dX12_count_1 ?_
  refine e_push dX12_count_2 ?_
  refine e_istore dX12_count_3 ?_
  refine e_push dX12_count_4 ?_
  refine e_istore dX12_count_5 ?_
  exact e_lvA (l1_X12_count hM hq 10 0 (by omega)) ⟨rfl, rfl, rfl, rfl, rfl, trivial⟩
set_option maxRecDepth 100000 in
set_option maxHeartbeats 4000000 in
theorem c_X12_told {b0 : Nat} {D : va_G} {dA : Nat → ClassId} {dm : Nat → Nat → Prop} {ad : Nat → Nat → Nat} {Q : PQ} {ct0 : Nat → Nat → va_E} {S : St} (hM : dmM dm) {t : Nat} (I : Inv S t) (p q : Int32) (hq : Q (some (.int (F_told S p q))) dm ad (ctM dA ad ct0 S)) : Ct b0 D dA yX12_told cX12_told 4 (some .int) (Rm 2) [.ref (ad 16 0), .int p, .int q] dm ad (ctM dA ad ct0 S) Q := by
  refine ct_of (by decide) (Nat.le_of_ble_eq_true rfl) ?_
  refine e_iload dX12_told_0 rfl ?_
  refine n_callS1 dX12_told_1 ca_X12_153  (c_X12_isPlace _ ?_) 
  refine e_if_eqB dX12_told_4 (fun h4 => ?_) (fun h4 => ?_)
  · refine e_push dX12_told_21 ?_
    exact e_iretI dX12_told_22 rfl (qi hq (by first | (simp [F_told, h4]; done) | (simp [F_told, h4, tp, h18]; done))) (by decide) (by decide)
  · obtain ⟨p, p1, p2, rfl⟩ := inB_l (a := 0) (b := 9) rfl rfl (by decide) (by decide) h4
    have tp : tN (nI p) = p := tN_n (by omega)
    refine e_aload dX12_told_7 rfl ?_
    refine e_aload dX12_told_8 rfl ?_
    refine m_geta dX12_told_9 fg_X12_47 hM (by decide) rfl ?_
    refine e_iload dX12_told_12 rfl ?_
    refine m_aldN (p) dX12_told_13 hM rfl (by decide) (by first | rfl | simp only [li_1, li_2, li_3, li_4, li_5, li_12, li_60, pk_mul, nI_add]) (by first | omega | (simp only [mLen]; omega)) (by decide) ?_
    refine n_callV1 dX12_told_14 ca_X12_159 hM.1 ctM_o (c_X12_familyOf hM _ (I.2.2.2.2.2.2.1.1 _ (by omega)) (by have := I.2.2.2.1.2.1; have := I.2.2.2.2.2.2.2.1; omega) I.1.2.1 ?_) 
    refine e_push dX12_told_17 ?_
    refine e_icmp_eq dX12_told_18 (fun h18 => ?_) (fun h18 => ?_)
    · have hR1 := I.2.2.2.1.2.1
      have ht5 := I.2.2.2.2.2.2.2.1
      have hD1 := I.2.2.2.2.2.1.2.1
      obtain ⟨d, hd, hv⟩ := fam5 (I.2.2.2.2.2.2.1.1 p (by omega)) (by omega) I.1.2.1 I.1.2.2.1 h18
      obtain ⟨hsh, hsh6, hpn, hpm, hpv⟩ := I.2.2.2.2.2.1.2.2 d hd
      obtain ⟨-, hpm5, -⟩ := I.2.2.2.2.1 _ hsh6
      have tr : rcN (S.2.1 15 p) = d := by rw [hv, rc_n (by omega)]
      have hok : ∀ q, q < pN S d → S.2.1 17 (5 * shN S d + q) ≠ 0 → okT S (S.2.1 14 (5 * d + q)) := fun q hq1 hz => by rcases hpv q hq1 with z | z; exact absurd z.1 hz; exact okV_T z.1 z.2
      refine e_aload dX12_told_23 rfl ?_
      refine m_geta dX12_told_24 fg_X12_47 hM (by decide) rfl ?_
      refine e_iload dX12_told_27 rfl ?_
      refine m_aldN (p) dX12_told_28 hM rfl (by decide) (by first | rfl | simp only [li_1, li_2, li_3, li_4, li_5, li_12, li_60, pk_mul, nI_add]) (by first | omega | (simp only [mLen]; omega)) (by decide) ?_
      refine e_topi hv ?_
      refine e_ldc dX12_told_29 kw_X12_152 ?_
      refine e_isub dX12_told_31 ?_
      refine e_topi sub_h ?_
      refine e_istore dX12_told_32 ?_
      refine e_iload dX12_told_33 rfl ?_
      refine e_push dX12_told_34 ?_
      refine e_icmp_ne dX12_told_36 (fun h36 => ?_) (fun h36 => ?_)
      · refine e_iload dX12_told_46 rfl ?_
        refine e_push dX12_told_47 ?_
        refine e_aload dX12_told_48 rfl ?_
        refine m_geta dX12_told_49 fg_X12_41 hM (by decide) rfl ?_
        refine e_iload dX12_told_52 rfl ?_
        refine m_aldN (d) dX12_told_53 hM rfl (by decide) (by first | rfl | simp only [li_1, li_2, li_3, li_4, li_5, li_12, li_60, pk_mul, nI_add]) (by first | omega | (simp only [mLen]; omega)) (by decide) ?_
        refine e_push dX12_told_54 ?_
        refine e_isub dX12_told_55 ?_
        refine n_callS3 dX12_told_56 ca_X12_96  (c_X12_in _ _ _ ?_) 
        refine e_if_neB dX12_told_59 (fun h59 => ?_) (fun h59 => ?_)
        · have h59b := h59
          rw [hpn] at h59b
          obtain ⟨q, hqn, rfl⟩ := inB_n (by omega) h59b
          have tq : tN (nI q) = q := tN_n (by omega)
          refine e_aload dX12_told_64 rfl ?_
          refine m_geta dX12_told_65 fg_X12_53 hM (by decide) rfl ?_
          refine e_push dX12_told_68 ?_
          refine e_aload dX12_told_69 rfl ?_
          refine m_geta dX12_told_70 fg_X12_38 hM (by decide) rfl ?_
          refine e_iload dX12_told_73 rfl ?_
          refine m_aldN (d) dX12_told_74 hM rfl (by decide) (by first | rfl | simp only [li_1, li_2, li_3, li_4, li_5, li_12, li_60, pk_mul, nI_add]) (by first | omega | (simp only [mLen]; omega)) (by decide) ?_
          refine e_topi hsh ?_
          refine e_imul dX12_told_75 ?_
          refine e_iload dX12_told_76 rfl ?_
          refine e_iadd dX12_told_77 ?_
          refine m_aldN (5 * shN S d + q) dX12_told_78 hM rfl (by decide) (by first | rfl | simp only [li_1, li_2, li_3, li_4, li_5, li_12, li_60, pk_mul, nI_add]) (by first | omega | (simp only [mLen]; omega)) (by decide) ?_
          refine e_if_ne dX12_told_79 (fun h79 => ?_) (fun h79 => ?_)
          · refine e_aload dX12_told_95 rfl ?_
            refine e_aload dX12_told_96 rfl ?_
            refine m_geta dX12_told_97 fg_X12_44 hM (by decide) rfl ?_
            refine e_push dX12_told_100 ?_
            refine e_iload dX12_told_101 rfl ?_
            refine e_imul dX12_told_102 ?_
            refine e_iload dX12_told_103 rfl ?_
            refine e_iadd dX12_told_104 ?_
            refine m_aldN (5 * d + q) dX12_told_105 hM rfl (by decide) (by first | rfl | simp only [li_1, li_2, li_3, li_4, li_5, li_12, li_60, pk_mul, nI_add]) (by first | omega | (simp only [mLen]; omega)) (by decide) ?_
            refine n_callV1 dX12_told_106 ca_X12_159 hM.1 ctM_o (c_X12_familyOf hM _ (hok q hqn h79) (by omega) I.1.2.1 ?_) 
            refine e_push dX12_told_109 ?_
            refine e_isub dX12_told_111 ?_
            exact e_iretI dX12_told_112 rfl (qi hq (by simp only [F_told, h4, tp, h18, decide_true, Bool.and_self, if_true, tr]; rw [if_neg h36, if_pos h59, tq]; first | rw [if_pos h79] | rw [if_neg h79])) (by decide) (by decide)
          · refine e_aload dX12_told_82 rfl ?_
            refine m_geta dX12_told_83 fg_X12_44 hM (by decide) rfl ?_
            refine e_push dX12_told_86 ?_
            refine e_iload dX12_told_87 rfl ?_
            refine e_imul dX12_told_88 ?_
            refine e_iload dX12_told_89 rfl ?_
            refine e_iadd dX12_told_90 ?_
            refine m_aldN (5 * d + q) dX12_told_91 hM rfl (by decide) (by first | rfl | simp only [li_1, li_2, li_3, li_4, li_5, li_12, li_60, pk_mul, nI_add]) (by first | omega | (simp only [mLen]; omega)) (by decide) ?_
            refine e_goto dX12_told_92 ?_
            exact e_iretI dX12_told_112 rfl (qi hq (by simp only [F_told, h4, tp, h18, decide_true, Bool.and_self, if_true, tr]; rw [if_neg h36, if_pos h59, tq]; first | rw [if_pos h79] | rw [if_neg h79])) (by decide) (by decide)
        · refine e_push dX12_told_62 ?_
          exact e_iretI dX12_told_63 rfl (qi hq (by simp only [F_told, h4, tp, h18, decide_true, Bool.and_self, if_true, tr]; rw [if_neg h36, if_neg (by rw [h59]; decide)])) (by decide) (by decide)
      · refine e_aload dX12_told_39 rfl ?_
        refine m_geta dX12_told_40 fg_X12_38 hM (by decide) rfl ?_
        refine e_iload dX12_told_43 rfl ?_
        refine m_aldN (d) dX12_told_44 hM rfl (by decide) (by first | rfl | simp only [li_1, li_2, li_3, li_4, li_5, li_12, li_60, pk_mul, nI_add]) (by first | omega | (simp only [mLen]; omega)) (by decide) ?_
        exact e_iretI dX12_told_45 rfl (qi hq (by simp only [F_told, h4, tp, h18, decide_true, Bool.and_self, if_true, tr]; rw [if_pos h36])) (by decide) (by decide)
    · refine e_push dX12_told_21 ?_
      exact e_iretI dX12_told_22 rfl (qi hq (by first | (simp [F_told, h4]; done) | (simp [F_told, h4, tp, h18]; done))) (by decide) (by decide)
set_option maxRecDepth 100000 in
set_option maxHeartbeats 4000000 in
theorem c_X12_take {b0 : Nat} {D : va_G} {dA : Nat → ClassId} {dm : Nat → Nat → Prop} {ad : Nat → Nat → Nat} {Q : PQ} {ct0 : Nat → Nat → va_E} {S : St} (hM : dmM dm) {t : Nat} (I : Inv S t) (p q o : Int32) (hq : Q (some (.int (F_take S p q o).1)) dm ad (ctM dA ad ct0 (F_take S p q o).2)) : Ct b0 D dA yX12_take cX12_take 5 (some .int) (Rm 2) [.ref (ad 16 0), .int p, .int q, .int o] dm ad (ctM dA ad ct0 S) Q := by
  refine ct_of (by decide) (Nat.le_of_ble_eq_true rfl) ?_
  refine e_iload dX12_take_0 rfl ?_
  refine n_callS1 dX12_take_1 ca_X12_153  (c_X12_isPlace _ ?_) 
  refine e_if_eqB dX12_take_4 (fun h4 => ?_) (fun h4 => ?_)
  · refine e_push dX12_take_28 ?_
    exact e_iretI dX12_take_29 rfl (qs hq (by first | (simp [F_take, h4]; done) | (simp [F_take, h4, tp, h18]; done) | (simp [F_take, h25]; done))) (by decide) (by decide)
  · obtain ⟨p, p1, p2, rfl⟩ := inB_l (a := 0) (b := 9) rfl rfl (by decide) (by decide) h4
    have tp : tN (nI p) = p := tN_n (by omega)
    refine e_aload dX12_take_7 rfl ?_
    refine e_aload dX12_take_8 rfl ?_
    refine m_geta dX12_take_9 fg_X12_47 hM (by decide) rfl ?_
    refine e_iload dX12_take_12 rfl ?_
    refine m_aldN (p) dX12_take_13 hM rfl (by decide) (by first | rfl | simp only [li_1, li_2, li_3, li_4, li_5, li_12, li_60, pk_mul, nI_add]) (by first | omega | (simp only [mLen]; omega)) (by decide) ?_
    refine n_callV1 dX12_take_14 ca_X12_159 hM.1 ctM_o (c_X12_familyOf hM _ (I.2.2.2.2.2.2.1.1 _ (by omega)) (by have := I.2.2.2.1.2.1; have := I.2.2.2.2.2.2.2.1; omega) I.1.2.1 ?_) 
    refine e_push dX12_take_17 ?_
    refine e_icmp_ne dX12_take_18 (fun h18 => ?_) (fun h18 => ?_)
    · refine e_push dX12_take_28 ?_
      exact e_iretI dX12_take_29 rfl (qs hq (by first | (simp [F_take, h4]; done) | (simp [F_take, h4, tp, h18]; done) | (simp [F_take, h25]; done))) (by decide) (by decide)
    · have hR1 := I.2.2.2.1.2.1
      have ht5 := I.2.2.2.2.2.2.2.1
      have hD1 := I.2.2.2.2.2.1.2.1
      obtain ⟨d, hd, hv⟩ := fam5 (I.2.2.2.2.2.2.1.1 p (by omega)) (by omega) I.1.2.1 I.1.2.2.1 h18
      obtain ⟨hsh, hsh6, hpn, hpm, hpv⟩ := I.2.2.2.2.2.1.2.2 d hd
      obtain ⟨-, hpm5, -⟩ := I.2.2.2.2.1 _ hsh6
      have tr : rcN (S.2.1 15 p) = d := by rw [hv, rc_n (by omega)]
      have hok : ∀ q, q < pN S d → S.2.1 17 (5 * shN S d + q) ≠ 0 → okT S (S.2.1 14 (5 * d + q)) := fun q hq1 hz => by rcases hpv q hq1 with z | z; exact absurd z.1 hz; exact okV_T z.1 z.2
      refine e_iload dX12_take_21 rfl ?_
      refine n_callS1 dX12_take_22 ca_X12_153  (c_X12_isPlace _ ?_) 
      refine e_if_neB dX12_take_25 (fun h25 => ?_) (fun h25 => ?_)
      · obtain ⟨o, o1, o2, rfl⟩ := inB_l (a := 0) (b := 9) rfl rfl (by decide) (by decide) h25
        have to : tN (nI o) = o := tN_n (by omega)
        refine e_aload dX12_take_30 rfl ?_
        refine m_geta dX12_take_31 fg_X12_47 hM (by decide) rfl ?_
        refine e_iload dX12_take_34 rfl ?_
        refine m_aldN (p) dX12_take_35 hM rfl (by decide) (by first | rfl | simp only [li_1, li_2, li_3, li_4, li_5, li_12, li_60, pk_mul, nI_add]) (by first | omega | (simp only [mLen]; omega)) (by decide) ?_
        refine e_topi hv ?_
        refine e_ldc dX12_take_36 kw_X12_152 ?_
        refine e_isub dX12_take_38 ?_
        refine e_topi sub_h ?_
        refine e_istore dX12_take_39 ?_
        refine e_iload dX12_take_41 rfl ?_
        refine e_push dX12_take_42 ?_
        refine e_aload dX12_take_43 rfl ?_
        refine m_geta dX12_take_44 fg_X12_41 hM (by decide) rfl ?_
        refine e_iload dX12_take_47 rfl ?_
        refine m_aldN (d) dX12_take_49 hM rfl (by decide) (by first | rfl | simp only [li_1, li_2, li_3, li_4, li_5, li_12, li_60, pk_mul, nI_add]) (by first | omega | (simp only [mLen]; omega)) (by decide) ?_
        refine e_push dX12_take_50 ?_
        refine e_isub dX12_take_51 ?_
        refine n_callS3 dX12_take_52 ca_X12_96  (c_X12_in _ _ _ ?_) 
        refine e_if_eqB dX12_take_55 (fun h55 => ?_) (fun h55 => ?_)
        · refine e_push dX12_take_77 ?_
          exact e_iretI dX12_take_78 rfl (qs hq (by simp only [F_take, h4, h25, tp, h18, decide_true, Bool.and_self, if_true, tr]; first | (simp [h55]; done) | (simp [tq, h74]; done))) (by decide) (by decide)
        · have h55b := h55
          rw [hpn] at h55b
          obtain ⟨q, hqn, rfl⟩ := inB_n (by omega) h55b
          have tq : tN (nI q) = q := tN_n (by omega)
          refine e_aload dX12_take_58 rfl ?_
          refine m_geta dX12_take_59 fg_X12_53 hM (by decide) rfl ?_
          refine e_push dX12_take_62 ?_
          refine e_aload dX12_take_63 rfl ?_
          refine m_geta dX12_take_64 fg_X12_38 hM (by decide) rfl ?_
          refine e_iload dX12_take_67 rfl ?_
          refine m_aldN (d) dX12_take_69 hM rfl (by decide) (by first | rfl | simp only [li_1, li_2, li_3, li_4, li_5, li_12, li_60, pk_mul, nI_add]) (by first | omega | (simp only [mLen]; omega)) (by decide) ?_
          refine e_topi hsh ?_
          refine e_imul dX12_take_70 ?_
          refine e_iload dX12_take_71 rfl ?_
          refine e_iadd dX12_take_72 ?_
          refine m_aldN (5 * shN S d + q) dX12_take_73 hM rfl (by decide) (by first | rfl | simp only [li_1, li_2, li_3, li_4, li_5, li_12, li_60, pk_mul, nI_add]) (by first | omega | (simp only [mLen]; omega)) (by decide) ?_
          refine e_if_ne dX12_take_74 (fun h74 => ?_) (fun h74 => ?_)
          · refine e_aload dX12_take_79 rfl ?_
            refine m_geta dX12_take_80 fg_X12_47 hM (by decide) rfl ?_
            refine e_iload dX12_take_83 rfl ?_
            refine e_aload dX12_take_84 rfl ?_
            refine m_geta dX12_take_85 fg_X12_44 hM (by decide) rfl ?_
            refine e_push dX12_take_88 ?_
            refine e_iload dX12_take_89 rfl ?_
            refine e_imul dX12_take_91 ?_
            refine e_iload dX12_take_92 rfl ?_
            refine e_iadd dX12_take_93 ?_
            refine m_aldN (5 * d + q) dX12_take_94 hM rfl (by decide) (by first | rfl | simp only [li_1, li_2, li_3, li_4, li_5, li_12, li_60, pk_mul, nI_add]) (by first | omega | (simp only [mLen]; omega)) (by decide) ?_
            refine m_astN (o) dX12_take_95 hM rfl (by decide) (by first | rfl | simp only [li_1, li_2, li_3, li_4, li_5, li_12, li_60, pk_mul, nI_add]) (by first | omega | (simp only [mLen]; omega)) (by decide) ?_
            refine e_aload dX12_take_96 rfl ?_
            refine e_aload dX12_take_97 rfl ?_
            refine m_geta dX12_take_98 fg_X12_47 hM (by decide) rfl ?_
            refine e_iload dX12_take_101 rfl ?_
            refine m_aldN (o) dX12_take_102 hM rfl (by decide) (by first | rfl | simp only [li_1, li_2, li_3, li_4, li_5, li_12, li_60, pk_mul, nI_add]) (by first | omega | (simp only [mLen]; omega)) (by decide) ?_
            refine e_topi (u2_s (f := S.2.1) (k := 15) (i := o)) ?_
            refine n_callV1 dX12_take_103 ca_X12_159 hM.1 ctM_o (c_X12_familyOf (S := (S.1, u2 S.2.1 15 o (S.2.1 14 (5 * d + q)), S.2.2)) hM _ (hok q hqn h74) (Nat.le_trans I.2.2.2.1.2.1 I.2.2.2.2.2.2.2.1) I.1.2.1 ?_) 
            exact e_iretI dX12_take_106 rfl (qs hq (by simp only [F_take, h4, h25, tp, to, h18, decide_true, Bool.and_self, if_true, tr]; rw [if_pos (by rw [h55, tq, decide_eq_false h74]; rfl), tq]; rfl)) (by decide) (by decide)
          · refine e_push dX12_take_77 ?_
            exact e_iretI dX12_take_78 rfl (qs hq (by simp only [F_take, h4, h25, tp, h18, decide_true, Bool.and_self, if_true, tr]; first | (simp [h55]; done) | (simp [tq, h74]; done))) (by decide) (by decide)
      · refine e_push dX12_take_28 ?_
        exact e_iretI dX12_take_29 rfl (qs hq (by first | (simp [F_take, h4]; done) | (simp [F_take, h4, tp, h18]; done) | (simp [F_take, h25]; done))) (by decide) (by decide)
