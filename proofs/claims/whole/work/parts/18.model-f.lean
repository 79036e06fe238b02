set_option maxRecDepth 100000 in
set_option maxHeartbeats 4000000 in
theorem l_X12_taken {b0 : Nat} {D : va_G} {dA : Nat → ClassId} {dm : Nat → Nat → Prop} {ad : Nat → Nat → Nat} {Q : PQ} {ct0 : Nat → Nat → va_E} {S : St} (hM : dmM dm) {s p r : Nat} {so kk v f : Int32} {cas : Bool} (hC : nC S ≤ 60) (hD : nD S ≤ 512) (hKd : ∀ c, c < nC S → S.2.1 1 c = nI (kN S c) ∧ kN S c < 6) (hcon : cas = true → (so = 1 ∨ so = 2) → ∃ c, c < nC S ∧ v = nI c) (hrec : cas = true → so = 4 → ∃ d, d < nD S ∧ v = nI (100000 + d)) (hso : so = 1 ∨ so = 2 ∨ so = 3 ∨ so = 4) (hq1 : cas = false → Q (some (.int 1)) dm ad (ctM dA ad ct0 S)) (hq2 : cas = true → forB S so kk v = true → Q (some (.int 2)) dm ad (ctM dA ad ct0 S)) (hq3 : cas = true → forB S so kk v = false → so < 3 → Q (some (.int 0)) dm ad (ctM dA ad ct0 (stS S (tN v)))) (hq4 : cas = true → forB S so kk v = false → ¬ so < 3 → Q (some (.int 0)) dm ad (ctM dA ad ct0 S)) : E b0 D dA yX12_taken cX12_taken 9 (some .int) (Rm 1) E0 (QFm b0 D dA (Rm 1) Q) 183 (lfA [some (.ref (ad 16 0)), some (.int (nI s)), some (.int (nI p)), some (.int (nI r)), some (.int so), some (.int kk), some (.int v), some (.int f)]) [.int (bI cas)] dm ad (ctM dA ad ct0 S) 0 0 := by
  refine e_istore dX12_taken_183 ?_
  refine e_iload dX12_taken_185 rfl ?_
  refine e_if_neB dX12_taken_187 (fun h187 => ?_) (fun h187 => ?_)
  · refine e_iload dX12_taken_192 rfl ?_
    refine e_push dX12_taken_194 ?_
    refine e_icmp_ne dX12_taken_195 (fun h195 => ?_) (fun h195 => ?_)
    · refine e_iload dX12_taken_210 rfl ?_
      refine e_push dX12_taken_212 ?_
      refine e_icmp_ne dX12_taken_213 (fun h213 => ?_) (fun h213 => ?_)
      · have hfb : forB S so kk v = false := by
          unfold forB
          first
          | (rw [tc, decide_eq_true h195, decide_eq_true h207, decide_eq_false h213]; rfl)
          | (rw [td, decide_eq_false h195, decide_eq_true h213, decide_eq_true h228]; rfl)
          | (rw [decide_eq_false h195, decide_eq_false h213]; rfl)
          | (rw [td, decide_eq_true h213, decide_eq_true h228, decide_eq_false (by rw [h213]; decide)]; rfl)
        refine e_iload dX12_taken_233 rfl ?_
        refine e_push dX12_taken_235 ?_
        refine e_icmp_ge dX12_taken_236 (fun h236 => ?_) (fun h236 => ?_)
        · have hge : ¬ so < 3 := Int32.not_lt.mpr h236
          refine e_push dX12_taken_245 ?_
          exact e_iretI dX12_taken_246 rfl (by first | exact hq4 h187 hfb hge | (have hz := hq3 h187 hfb hlt; rw [ec2, tc2] at hz; exact hz)) (by decide) (by decide)
        · have hlt : so < 3 := Int32.not_le.mp h236
          have h12 : so = 1 ∨ so = 2 := by
            rcases hso with z | z | z | z
            · exact Or.inl z
            · exact Or.inr z
            · rw [z] at hlt; exact absurd hlt (by decide)
            · rw [z] at hlt; exact absurd hlt (by decide)
          obtain ⟨c2, hc2, ec2⟩ := hcon h187 h12
          have tc2 : tN (nI c2) = c2 := tN_n (by omega)
          refine e_aload dX12_taken_239 rfl ?_
          refine e_iload dX12_taken_240 rfl ?_
          refine e_topi ec2 ?_
          refine n_callV1 dX12_taken_242 ca_X12_141 hM.1 ctM_o (c_X12_starts hM (by omega) (hKd c2 hc2).1 (hKd c2 hc2).2 ?_) 
          refine e_push dX12_taken_245 ?_
          exact e_iretI dX12_taken_246 rfl (by first | exact hq4 h187 hfb hge | (have hz := hq3 h187 hfb hlt; rw [ec2, tc2] at hz; exact hz)) (by decide) (by decide)
      · obtain ⟨d, hd, ed⟩ := hrec h187 h213
        have td : rcN v = d := by rw [ed, rc_n (by omega)]
        refine e_aload dX12_taken_216 rfl ?_
        refine m_geta dX12_taken_217 fg_X12_38 hM (by decide) rfl ?_
        refine e_iload dX12_taken_220 rfl ?_
        refine e_ldc dX12_taken_222 kw_X12_152 ?_
        refine e_isub dX12_taken_224 ?_
        refine e_topi (show v - 100000 = nI d by rw [ed, sub_h]) ?_
        refine m_aldN (d) dX12_taken_225 hM rfl (by decide) (by first | rfl | simp only [li_1, li_2, li_3, li_4, li_5, li_12, li_60, pk_mul, nI_add]) (by first | omega | (simp only [mLen]; omega)) (by decide) ?_
        refine e_iload dX12_taken_226 rfl ?_
        refine e_icmp_eq dX12_taken_228 (fun h228 => ?_) (fun h228 => ?_)
        · have hfb : forB S so kk v = false := by
            unfold forB
            first
            | (rw [tc, decide_eq_true h195, decide_eq_true h207, decide_eq_false h213]; rfl)
            | (rw [td, decide_eq_false h195, decide_eq_true h213, decide_eq_true h228]; rfl)
            | (rw [decide_eq_false h195, decide_eq_false h213]; rfl)
            | (rw [td, decide_eq_true h213, decide_eq_true h228, decide_eq_false (by rw [h213]; decide)]; rfl)
          refine e_iload dX12_taken_233 rfl ?_
          refine e_push dX12_taken_235 ?_
          refine e_icmp_ge dX12_taken_236 (fun h236 => ?_) (fun h236 => ?_)
          · have hge : ¬ so < 3 := Int32.not_lt.mpr h236
            refine e_push dX12_taken_245 ?_
            exact e_iretI dX12_taken_246 rfl (by first | exact hq4 h187 hfb hge | (have hz := hq3 h187 hfb hlt; rw [ec2, tc2] at hz; exact hz)) (by decide) (by decide)
          · have hlt : so < 3 := Int32.not_le.mp h236
            have h12 : so = 1 ∨ so = 2 := by
              rcases hso with z | z | z | z
              · exact Or.inl z
              · exact Or.inr z
              · rw [z] at hlt; exact absurd hlt (by decide)
              · rw [z] at hlt; exact absurd hlt (by decide)
            obtain ⟨c2, hc2, ec2⟩ := hcon h187 h12
            have tc2 : tN (nI c2) = c2 := tN_n (by omega)
            refine e_aload dX12_taken_239 rfl ?_
            refine e_iload dX12_taken_240 rfl ?_
            refine e_topi ec2 ?_
            refine n_callV1 dX12_taken_242 ca_X12_141 hM.1 ctM_o (c_X12_starts hM (by omega) (hKd c2 hc2).1 (hKd c2 hc2).2 ?_) 
            refine e_push dX12_taken_245 ?_
            exact e_iretI dX12_taken_246 rfl (by first | exact hq4 h187 hfb hge | (have hz := hq3 h187 hfb hlt; rw [ec2, tc2] at hz; exact hz)) (by decide) (by decide)
        · refine e_push dX12_taken_231 ?_
          exact e_iretI dX12_taken_232 rfl (hq2 h187 (by unfold forB; first | (rw [tc, decide_eq_true h195, decide_eq_false h207]; rfl) | (rw [td, decide_eq_true h213, decide_eq_false h228]; exact Bool.or_true _))) (by decide) (by decide)
    · obtain ⟨c, hc, ec⟩ := hcon h187 (Or.inl h195)
      have tc : tN v = c := by rw [ec, tN_n (by omega)]
      refine e_aload dX12_taken_198 rfl ?_
      refine m_geta dX12_taken_199 fg_X12_7 hM (by decide) rfl ?_
      refine e_iload dX12_taken_202 rfl ?_
      refine e_topi ec ?_
      refine m_aldN (c) dX12_taken_204 hM rfl (by decide) (by first | rfl | simp only [li_1, li_2, li_3, li_4, li_5, li_12, li_60, pk_mul, nI_add]) (by first | omega | (simp only [mLen]; omega)) (by decide) ?_
      refine e_iload dX12_taken_205 rfl ?_
      refine e_icmp_ne dX12_taken_207 (fun h207 => ?_) (fun h207 => ?_)
      · refine e_push dX12_taken_231 ?_
        exact e_iretI dX12_taken_232 rfl (hq2 h187 (by unfold forB; first | (rw [tc, decide_eq_true h195, decide_eq_false h207]; rfl) | (rw [td, decide_eq_true h213, decide_eq_false h228]; exact Bool.or_true _))) (by decide) (by decide)
      · refine e_iload dX12_taken_210 rfl ?_
        refine e_push dX12_taken_212 ?_
        refine e_icmp_ne dX12_taken_213 (fun h213 => ?_) (fun h213 => ?_)
        · have hfb : forB S so kk v = false := by
            unfold forB
            first
            | (rw [tc, decide_eq_true h195, decide_eq_true h207, decide_eq_false h213]; rfl)
            | (rw [td, decide_eq_false h195, decide_eq_true h213, decide_eq_true h228]; rfl)
            | (rw [decide_eq_false h195, decide_eq_false h213]; rfl)
            | (rw [td, decide_eq_true h213, decide_eq_true h228, decide_eq_false (by rw [h213]; decide)]; rfl)
          refine e_iload dX12_taken_233 rfl ?_
          refine e_push dX12_taken_235 ?_
          refine e_icmp_ge dX12_taken_236 (fun h236 => ?_) (fun h236 => ?_)
          · have hge : ¬ so < 3 := Int32.not_lt.mpr h236
            refine e_push dX12_taken_245 ?_
            exact e_iretI dX12_taken_246 rfl (by first | exact hq4 h187 hfb hge | (have hz := hq3 h187 hfb hlt; rw [ec2, tc2] at hz; exact hz)) (by decide) (by decide)
          · have hlt : so < 3 := Int32.not_le.mp h236
            have h12 : so = 1 ∨ so = 2 := by
              rcases hso with z | z | z | z
              · exact Or.inl z
              · exact Or.inr z
              · rw [z] at hlt; exact absurd hlt (by decide)
              · rw [z] at hlt; exact absurd hlt (by decide)
            obtain ⟨c2, hc2, ec2⟩ := hcon h187 h12
            have tc2 : tN (nI c2) = c2 := tN_n (by omega)
            refine e_aload dX12_taken_239 rfl ?_
            refine e_iload dX12_taken_240 rfl ?_
            refine e_topi ec2 ?_
            refine n_callV1 dX12_taken_242 ca_X12_141 hM.1 ctM_o (c_X12_starts hM (by omega) (hKd c2 hc2).1 (hKd c2 hc2).2 ?_) 
            refine e_push dX12_taken_245 ?_
            exact e_iretI dX12_taken_246 rfl (by first | exact hq4 h187 hfb hge | (have hz := hq3 h187 hfb hlt; rw [ec2, tc2] at hz; exact hz)) (by decide) (by decide)
        · obtain ⟨d, hd, ed⟩ := hrec h187 h213
          have td : rcN v = d := by rw [ed, rc_n (by omega)]
          refine e_aload dX12_taken_216 rfl ?_
          refine m_geta dX12_taken_217 fg_X12_38 hM (by decide) rfl ?_
          refine e_iload dX12_taken_220 rfl ?_
          refine e_ldc dX12_taken_222 kw_X12_152 ?_
          refine e_isub dX12_taken_224 ?_
          refine e_topi (show v - 100000 = nI d by rw [ed, sub_h]) ?_
          refine m_aldN (d) dX12_taken_225 hM rfl (by decide) (by first | rfl | simp only [li_1, li_2, li_3, li_4, li_5, li_12, li_60, pk_mul, nI_add]) (by first | omega | (simp only [mLen]; omega)) (by decide) ?_
          refine e_iload dX12_taken_226 rfl ?_
          refine e_icmp_eq dX12_taken_228 (fun h228 => ?_) (fun h228 => ?_)
          · have hfb : forB S so kk v = false := by
              unfold forB
              first
              | (rw [tc, decide_eq_true h195, decide_eq_true h207, decide_eq_false h213]; rfl)
              | (rw [td, decide_eq_false h195, decide_eq_true h213, decide_eq_true h228]; rfl)
              | (rw [decide_eq_false h195, decide_eq_false h213]; rfl)
              | (rw [td, decide_eq_true h213, decide_eq_true h228, decide_eq_false (by rw [h213]; decide)]; rfl)
            refine e_iload dX12_taken_233 rfl ?_
            refine e_push dX12_taken_235 ?_
            refine e_icmp_ge dX12_taken_236 (fun h236 => ?_) (fun h236 => ?_)
            · have hge : ¬ so < 3 := Int32.not_lt.mpr h236
              refine e_push dX12_taken_245 ?_
              exact e_iretI dX12_taken_246 rfl (by first | exact hq4 h187 hfb hge | (have hz := hq3 h187 hfb hlt; rw [ec2, tc2] at hz; exact hz)) (by decide) (by decide)
            · have hlt : so < 3 := Int32.not_le.mp h236
              have h12 : so = 1 ∨ so = 2 := by
                rcases hso with z | z | z | z
                · exact Or.inl z
                · exact Or.inr z
                · rw [z] at hlt; exact absurd hlt (by decide)
                · rw [z] at hlt; exact absurd hlt (by decide)
              obtain ⟨c2, hc2, ec2⟩ := hcon h187 h12
              have tc2 : tN (nI c2) = c2 := tN_n (by omega)
              refine e_aload dX12_taken_239 rfl ?_
              refine e_iload dX12_taken_240 rfl ?_
              refine e_topi ec2 ?_
              refine n_callV1 dX12_taken_242 ca_X12_141 hM.1 ctM_o (c_X12_starts hM (by omega) (hKd c2 hc2).1 (hKd c2 hc2).2 ?_) 
              refine e_push dX12_taken_245 ?_
              exact e_iretI dX12_taken_246 rfl (by first | exact hq4 h187 hfb hge | (have hz := hq3 h187 hfb hlt; rw [ec2, tc2] at hz; exact hz)) (by decide) (by decide)
          · refine e_push dX12_taken_231 ?_
            exact e_iretI dX12_taken_232 rfl (hq2 h187 (by unfold forB; first | (rw [tc, decide_eq_true h195, decide_eq_false h207]; rfl) | (rw [td, decide_eq_true h213, decide_eq_false h228]; exact Bool.or_true _))) (by decide) (by decide)
  · refine e_push dX12_taken_190 ?_
    exact e_iretI dX12_taken_191 rfl (hq1 h187) (by decide) (by decide)
set_option maxRecDepth 100000 in
set_option maxHeartbeats 4000000 in
theorem c_X12_taken {b0 : Nat} {D : va_G} {dA : Nat → ClassId} {dm : Nat → Nat → Prop} {ad : Nat → Nat → Nat} {Q : PQ} {ct0 : Nat → Nat → va_E} {S : St} (hM : dmM dm) {t : Nat} (I : Inv S t) {s p r : Nat} (hr : nD S = r) (hs : s < 6) (hp : p < pmN S s) (hq : Q (some (.int (tkF S s p r).1)) dm ad (ctM dA ad ct0 (tkF S s p r).2)) : Ct b0 D dA yX12_taken cX12_taken 9 (some .int) (Rm 1) [.ref (ad 16 0), .int (nI s), .int (nI p), .int (nI r)] dm ad (ctM dA ad ct0 S) Q := by
  subst hr
  refine ct_of (by decide) (Nat.le_of_ble_eq_true rfl) ?_
  obtain ⟨hpm, hpm5, hcm, hcm4, hso, hch⟩ := I.2.2.2.2.1 s hs
  have ht5 := I.2.2.2.2.2.2.2.1
  have hDt := I.2.2.2.2.2.1.2.1
  have hD5 : nD S ≤ 512 := Nat.le_trans hDt ht5
  have hR5 : nR S ≤ 512 := Nat.le_trans I.2.2.2.1.2.1 ht5
  refine e_aload dX12_taken_0 rfl ?_
  refine m_geta dX12_taken_1 fg_X12_53 hM (by decide) rfl ?_
  refine e_push dX12_taken_4 ?_
  refine e_iload dX12_taken_5 rfl ?_
  refine e_imul dX12_taken_6 ?_
  refine e_iload dX12_taken_7 rfl ?_
  refine e_iadd dX12_taken_8 ?_
  refine m_aldN (5 * s + p) dX12_taken_9 hM rfl (by decide) (by first | rfl | simp only [li_1, li_2, li_3, li_4, li_5, li_12, li_60, pk_mul, nI_add]) (by first | omega | (simp only [mLen]; omega)) (by decide) ?_
  refine e_istore dX12_taken_10 ?_
  refine e_aload dX12_taken_12 rfl ?_
  refine m_geta dX12_taken_13 fg_X12_56 hM (by decide) rfl ?_
  refine e_push dX12_taken_16 ?_
  refine e_iload dX12_taken_17 rfl ?_
  refine e_imul dX12_taken_18 ?_
  refine e_iload dX12_taken_19 rfl ?_
  refine e_iadd dX12_taken_20 ?_
  refine m_aldN (5 * s + p) dX12_taken_21 hM rfl (by decide) (by first | rfl | simp only [li_1, li_2, li_3, li_4, li_5, li_12, li_60, pk_mul, nI_add]) (by first | omega | (simp only [mLen]; omega)) (by decide) ?_
  refine e_istore dX12_taken_22 ?_
  refine e_iload dX12_taken_24 rfl ?_
  refine e_if_ne dX12_taken_26 (fun h26 => ?_) (fun h26 => ?_)
  · obtain ⟨gq, hgq, hge⟩ := I.2.2.2.2.2.2.1.2 p (by omega)
    have hgt : gvT S p = S.2.1 15 gq := by unfold gvT; rw [hge, tN_n (by omega)]
    have hgo : okT S (gvT S p) := by rw [hgt]; exact I.2.2.2.2.2.2.1.1 gq hgq
    have hso4 := (hso p hp).resolve_left h26
    refine e_aload dX12_taken_66 rfl ?_
    refine m_geta dX12_taken_67 fg_X12_47 hM (by decide) rfl ?_
    refine e_aload dX12_taken_70 rfl ?_
    refine m_geta dX12_taken_71 fg_X12_74 hM (by decide) rfl ?_
    refine e_iload dX12_taken_74 rfl ?_
    refine m_aldN (p) dX12_taken_75 hM rfl (by decide) (by first | rfl | simp only [li_1, li_2, li_3, li_4, li_5, li_12, li_60, pk_mul, nI_add]) (by first | omega | (simp only [mLen]; omega)) (by decide) ?_
    refine e_topi hge ?_
    refine m_aldN (gq) dX12_taken_76 hM rfl (by decide) (by first | rfl | simp only [li_1, li_2, li_3, li_4, li_5, li_12, li_60, pk_mul, nI_add]) (by first | omega | (simp only [mLen]; omega)) (by decide) ?_
    refine e_topi hgt.symm ?_
    refine e_istore dX12_taken_77 ?_
    refine e_aload dX12_taken_79 rfl ?_
    refine e_iload dX12_taken_80 rfl ?_
    refine n_callV1 dX12_taken_82 ca_X12_159 hM.1 ctM_o (c_X12_familyOf hM _ hgo (by have := I.2.2.2.1.2.1; omega) I.1.2.1 ?_) 
    refine e_istore dX12_taken_85 ?_
    refine e_aload dX12_taken_87 rfl ?_
    refine m_geta dX12_taken_88 fg_X12_44 hM (by decide) rfl ?_
    refine e_push dX12_taken_91 ?_
    refine e_iload dX12_taken_92 rfl ?_
    refine e_imul dX12_taken_93 ?_
    refine e_iload dX12_taken_94 rfl ?_
    refine e_iadd dX12_taken_95 ?_
    refine e_iload dX12_taken_96 rfl ?_
    refine m_astN (5 * nD S + p) dX12_taken_98 hM rfl (by decide) (by first | rfl | simp only [li_1, li_2, li_3, li_4, li_5, li_12, li_60, pk_mul, nI_add]) (by first | omega | (simp only [mLen]; omega)) (by decide) ?_
    refine e_iload dX12_taken_99 rfl ?_
    refine e_if_ne dX12_taken_101 (fun h101 => ?_) (fun h101 => ?_)
    · refine e_iload dX12_taken_106 rfl ?_
      refine e_push dX12_taken_108 ?_
      refine e_icmp_ne dX12_taken_109 (fun h109 => ?_) (fun h109 => ?_)
      · refine e_iload dX12_taken_126 rfl ?_
        refine e_push dX12_taken_128 ?_
        refine e_icmp_ne dX12_taken_129 (fun h129 => ?_) (fun h129 => ?_)
        · refine e_iload dX12_taken_152 rfl ?_
          refine e_push dX12_taken_154 ?_
          refine e_icmp_ne dX12_taken_155 (fun h155 => ?_) (fun h155 => ?_)
          · refine e_iload dX12_taken_172 rfl ?_
            refine e_push dX12_taken_174 ?_
            refine e_icmp_ne dX12_taken_175 (fun h175 => ?_) (fun h175 => ?_)
            · refine e_push dX12_taken_182 ?_
              refine e_topi (show _ = bI (casB (S.2.1 17 (5 * s + p)) (famF S (gvT S p))) by unfold casB; first | (rw [if_pos h109]; first | (rw [decide_eq_true (Int32.not_le.mp h115)]; rfl) | (rw [decide_eq_false (Int32.not_lt.mpr h115)]; rfl)) | (rw [if_neg h109, if_pos h129]; first | (rw [decide_eq_true h135]; rfl) | (rw [decide_eq_false h135, decide_eq_true h141]; rfl) | (rw [decide_eq_false h135, decide_eq_false h141]; rfl)) | (rw [if_neg h109, if_neg h129, if_pos h155]; first | (rw [decide_eq_true h161]; rfl) | (rw [decide_eq_false h161]; rfl)) | (rw [if_neg h109, if_neg h129, if_neg h155]; first | (rw [decide_eq_true h175]; rfl) | (rw [decide_eq_false h175]; rfl))) ?_
              exact e_lvA (l_X12_taken (S := vaS S (nD S) p (gvT S p)) hM I.1.2.1 hD5 (fun c hc => ⟨(I.1.2.2.1 c hc).1, (I.1.2.2.1 c hc).2.1⟩) (fun e g => cas_con hgo hR5 I.1.2.1 I.1.2.2.1 h101 e g) (fun e g => cas_rec hgo hR5 I.1.2.1 I.1.2.2.1 e g) hso4
                (fun e => qs hq (by unfold tkF; rw [if_neg h26, if_neg h101, if_pos e])) (fun e g => qs hq (by unfold tkF; rw [if_neg h26, if_neg h101, if_neg (by rw [e]; decide)]; exact if_pos g)) (fun e g l => qs hq (by unfold tkF; rw [if_neg h26, if_neg h101, if_neg (by rw [e]; decide), if_neg (show ¬ forB S _ _ _ = true from fun z => by rw [show forB S _ _ _ = false from g] at z; cases z), if_pos l])) (fun e g l => qs hq (by unfold tkF; rw [if_neg h26, if_neg h101, if_neg (by rw [e]; decide), if_neg (show ¬ forB S _ _ _ = true from fun z => by rw [show forB S _ _ _ = false from g] at z; cases z), if_neg l]))) ⟨rfl, rfl, rfl, rfl, rfl, rfl, rfl, rfl, trivial⟩
            · refine e_push dX12_taken_178 ?_
              refine e_goto dX12_taken_179 ?_
              refine e_topi (show _ = bI (casB (S.2.1 17 (5 * s + p)) (famF S (gvT S p))) by unfold casB; first | (rw [if_pos h109]; first | (rw [decide_eq_true (Int32.not_le.mp h115)]; rfl) | (rw [decide_eq_false (Int32.not_lt.mpr h115)]; rfl)) | (rw [if_neg h109, if_pos h129]; first | (rw [decide_eq_true h135]; rfl) | (rw [decide_eq_false h135, decide_eq_true h141]; rfl) | (rw [decide_eq_false h135, decide_eq_false h141]; rfl)) | (rw [if_neg h109, if_neg h129, if_pos h155]; first | (rw [decide_eq_true h161]; rfl) | (rw [decide_eq_false h161]; rfl)) | (rw [if_neg h109, if_neg h129, if_neg h155]; first | (rw [decide_eq_true h175]; rfl) | (rw [decide_eq_false h175]; rfl))) ?_
              exact e_lvA (l_X12_taken (S := vaS S (nD S) p (gvT S p)) hM I.1.2.1 hD5 (fun c hc => ⟨(I.1.2.2.1 c hc).1, (I.1.2.2.1 c hc).2.1⟩) (fun e g => cas_con hgo hR5 I.1.2.1 I.1.2.2.1 h101 e g) (fun e g => cas_rec hgo hR5 I.1.2.1 I.1.2.2.1 e g) hso4
                (fun e => qs hq (by unfold tkF; rw [if_neg h26, if_neg h101, if_pos e])) (fun e g => qs hq (by unfold tkF; rw [if_neg h26, if_neg h101, if_neg (by rw [e]; decide)]; exact if_pos g)) (fun e g l => qs hq (by unfold tkF; rw [if_neg h26, if_neg h101, if_neg (by rw [e]; decide), if_neg (show ¬ forB S _ _ _ = true from fun z => by rw [show forB S _ _ _ = false from g] at z; cases z), if_pos l])) (fun e g l => qs hq (by unfold tkF; rw [if_neg h26, if_neg h101, if_neg (by rw [e]; decide), if_neg (show ¬ forB S _ _ _ = true from fun z => by rw [show forB S _ _ _ = false from g] at z; cases z), if_neg l]))) ⟨rfl, rfl, rfl, rfl, rfl, rfl, rfl, rfl, trivial⟩
          · refine e_iload dX12_taken_158 rfl ?_
            refine e_push dX12_taken_160 ?_
            refine e_icmp_ne dX12_taken_161 (fun h161 => ?_) (fun h161 => ?_)
            · refine e_push dX12_taken_168 ?_
              refine e_goto dX12_taken_169 ?_
              refine e_topi (show _ = bI (casB (S.2.1 17 (5 * s + p)) (famF S (gvT S p))) by unfold casB; first | (rw [if_pos h109]; first | (rw [decide_eq_true (Int32.not_le.mp h115)]; rfl) | (rw [decide_eq_false (Int32.not_lt.mpr h115)]; rfl)) | (rw [if_neg h109, if_pos h129]; first | (rw [decide_eq_true h135]; rfl) | (rw [decide_eq_false h135, decide_eq_true h141]; rfl) | (rw [decide_eq_false h135, decide_eq_false h141]; rfl)) | (rw [if_neg h109, if_neg h129, if_pos h155]; first | (rw [decide_eq_true h161]; rfl) | (rw [decide_eq_false h161]; rfl)) | (rw [if_neg h109, if_neg h129, if_neg h155]; first | (rw [decide_eq_true h175]; rfl) | (rw [decide_eq_false h175]; rfl))) ?_
              exact e_lvA (l_X12_taken (S := vaS S (nD S) p (gvT S p)) hM I.1.2.1 hD5 (fun c hc => ⟨(I.1.2.2.1 c hc).1, (I.1.2.2.1 c hc).2.1⟩) (fun e g => cas_con hgo hR5 I.1.2.1 I.1.2.2.1 h101 e g) (fun e g => cas_rec hgo hR5 I.1.2.1 I.1.2.2.1 e g) hso4
                (fun e => qs hq (by unfold tkF; rw [if_neg h26, if_neg h101, if_pos e])) (fun e g => qs hq (by unfold tkF; rw [if_neg h26, if_neg h101, if_neg (by rw [e]; decide)]; exact if_pos g)) (fun e g l => qs hq (by unfold tkF; rw [if_neg h26, if_neg h101, if_neg (by rw [e]; decide), if_neg (show ¬ forB S _ _ _ = true from fun z => by rw [show forB S _ _ _ = false from g] at z; cases z), if_pos l])) (fun e g l => qs hq (by unfold tkF; rw [if_neg h26, if_neg h101, if_neg (by rw [e]; decide), if_neg (show ¬ forB S _ _ _ = true from fun z => by rw [show forB S _ _ _ = false from g] at z; cases z), if_neg l]))) ⟨rfl, rfl, rfl, rfl, rfl, rfl, rfl, rfl, trivial⟩
            · refine e_push dX12_taken_164 ?_
              refine e_goto dX12_taken_165 ?_
              refine e_topi (show _ = bI (casB (S.2.1 17 (5 * s + p)) (famF S (gvT S p))) by unfold casB; first | (rw [if_pos h109]; first | (rw [decide_eq_true (Int32.not_le.mp h115)]; rfl) | (rw [decide_eq_false (Int32.not_lt.mpr h115)]; rfl)) | (rw [if_neg h109, if_pos h129]; first | (rw [decide_eq_true h135]; rfl) | (rw [decide_eq_false h135, decide_eq_true h141]; rfl) | (rw [decide_eq_false h135, decide_eq_false h141]; rfl)) | (rw [if_neg h109, if_neg h129, if_pos h155]; first | (rw [decide_eq_true h161]; rfl) | (rw [decide_eq_false h161]; rfl)) | (rw [if_neg h109, if_neg h129, if_neg h155]; first | (rw [decide_eq_true h175]; rfl) | (rw [decide_eq_false h175]; rfl))) ?_
              exact e_lvA (l_X12_taken (S := vaS S (nD S) p (gvT S p)) hM I.1.2.1 hD5 (fun c hc => ⟨(I.1.2.2.1 c hc).1, (I.1.2.2.1 c hc).2.1⟩) (fun e g => cas_con hgo hR5 I.1.2.1 I.1.2.2.1 h101 e g) (fun e g => cas_rec hgo hR5 I.1.2.1 I.1.2.2.1 e g) hso4
                (fun e => qs hq (by unfold tkF; rw [if_neg h26, if_neg h101, if_pos e])) (fun e g => qs hq (by unfold tkF; rw [if_neg h26, if_neg h101, if_neg (by rw [e]; decide)]; exact if_pos g)) (fun e g l => qs hq (by unfold tkF; rw [if_neg h26, if_neg h101, if_neg (by rw [e]; decide), if_neg (show ¬ forB S _ _ _ = true from fun z => by rw [show forB S _ _ _ = false from g] at z; cases z), if_pos l])) (fun e g l => qs hq (by unfold tkF; rw [if_neg h26, if_neg h101, if_neg (by rw [e]; decide), if_neg (show ¬ forB S _ _ _ = true from fun z => by rw [show forB S _ _ _ = false from g] at z; cases z), if_neg l]))) ⟨rfl, rfl, rfl, rfl, rfl, rfl, rfl, rfl, trivial⟩
        · refine e_iload dX12_taken_132 rfl ?_
          refine e_push dX12_taken_134 ?_
          refine e_icmp_eq dX12_taken_135 (fun h135 => ?_) (fun h135 => ?_)
          · refine e_push dX12_taken_144 ?_
            refine e_goto dX12_taken_145 ?_
            refine e_topi (show _ = bI (casB (S.2.1 17 (5 * s + p)) (famF S (gvT S p))) by unfold casB; first | (rw [if_pos h109]; first | (rw [decide_eq_true (Int32.not_le.mp h115)]; rfl) | (rw [decide_eq_false (Int32.not_lt.mpr h115)]; rfl)) | (rw [if_neg h109, if_pos h129]; first | (rw [decide_eq_true h135]; rfl) | (rw [decide_eq_false h135, decide_eq_true h141]; rfl) | (rw [decide_eq_false h135, decide_eq_false h141]; rfl)) | (rw [if_neg h109, if_neg h129, if_pos h155]; first | (rw [decide_eq_true h161]; rfl) | (rw [decide_eq_false h161]; rfl)) | (rw [if_neg h109, if_neg h129, if_neg h155]; first | (rw [decide_eq_true h175]; rfl) | (rw [decide_eq_false h175]; rfl))) ?_
            exact e_lvA (l_X12_taken (S := vaS S (nD S) p (gvT S p)) hM I.1.2.1 hD5 (fun c hc => ⟨(I.1.2.2.1 c hc).1, (I.1.2.2.1 c hc).2.1⟩) (fun e g => cas_con hgo hR5 I.1.2.1 I.1.2.2.1 h101 e g) (fun e g => cas_rec hgo hR5 I.1.2.1 I.1.2.2.1 e g) hso4
              (fun e => qs hq (by unfold tkF; rw [if_neg h26, if_neg h101, if_pos e])) (fun e g => qs hq (by unfold tkF; rw [if_neg h26, if_neg h101, if_neg (by rw [e]; decide)]; exact if_pos g)) (fun e g l => qs hq (by unfold tkF; rw [if_neg h26, if_neg h101, if_neg (by rw [e]; decide), if_neg (show ¬ forB S _ _ _ = true from fun z => by rw [show forB S _ _ _ = false from g] at z; cases z), if_pos l])) (fun e g l => qs hq (by unfold tkF; rw [if_neg h26, if_neg h101, if_neg (by rw [e]; decide), if_neg (show ¬ forB S _ _ _ = true from fun z => by rw [show forB S _ _ _ = false from g] at z; cases z), if_neg l]))) ⟨rfl, rfl, rfl, rfl, rfl, rfl, rfl, rfl, trivial⟩
          · refine e_iload dX12_taken_138 rfl ?_
            refine e_push dX12_taken_140 ?_
            refine e_icmp_ne dX12_taken_141 (fun h141 => ?_) (fun h141 => ?_)
            · refine e_push dX12_taken_148 ?_
              refine e_goto dX12_taken_149 ?_
              refine e_topi (show _ = bI (casB (S.2.1 17 (5 * s + p)) (famF S (gvT S p))) by unfold casB; first | (rw [if_pos h109]; first | (rw [decide_eq_true (Int32.not_le.mp h115)]; rfl) | (rw [decide_eq_false (Int32.not_lt.mpr h115)]; rfl)) | (rw [if_neg h109, if_pos h129]; first | (rw [decide_eq_true h135]; rfl) | (rw [decide_eq_false h135, decide_eq_true h141]; rfl) | (rw [decide_eq_false h135, decide_eq_false h141]; rfl)) | (rw [if_neg h109, if_neg h129, if_pos h155]; first | (rw [decide_eq_true h161]; rfl) | (rw [decide_eq_false h161]; rfl)) | (rw [if_neg h109, if_neg h129, if_neg h155]; first | (rw [decide_eq_true h175]; rfl) | (rw [decide_eq_false h175]; rfl))) ?_
              exact e_lvA (l_X12_taken (S := vaS S (nD S) p (gvT S p)) hM I.1.2.1 hD5 (fun c hc => ⟨(I.1.2.2.1 c hc).1, (I.1.2.2.1 c hc).2.1⟩) (fun e g => cas_con hgo hR5 I.1.2.1 I.1.2.2.1 h101 e g) (fun e g => cas_rec hgo hR5 I.1.2.1 I.1.2.2.1 e g) hso4
                (fun e => qs hq (by unfold tkF; rw [if_neg h26, if_neg h101, if_pos e])) (fun e g => qs hq (by unfold tkF; rw [if_neg h26, if_neg h101, if_neg (by rw [e]; decide)]; exact if_pos g)) (fun e g l => qs hq (by unfold tkF; rw [if_neg h26, if_neg h101, if_neg (by rw [e]; decide), if_neg (show ¬ forB S _ _ _ = true from fun z => by rw [show forB S _ _ _ = false from g] at z; cases z), if_pos l])) (fun e g l => qs hq (by unfold tkF; rw [if_neg h26, if_neg h101, if_neg (by rw [e]; decide), if_neg (show ¬ forB S _ _ _ = true from fun z => by rw [show forB S _ _ _ = false from g] at z; cases z), if_neg l]))) ⟨rfl, rfl, rfl, rfl, rfl, rfl, rfl, rfl, trivial⟩
            · refine e_push dX12_taken_144 ?_
              refine e_goto dX12_taken_145 ?_
              refine e_topi (show _ = bI (casB (S.2.1 17 (5 * s + p)) (famF S (gvT S p))) by unfold casB; first | (rw [if_pos h109]; first | (rw [decide_eq_true (Int32.not_le.mp h115)]; rfl) | (rw [decide_eq_false (Int32.not_lt.mpr h115)]; rfl)) | (rw [if_neg h109, if_pos h129]; first | (rw [decide_eq_true h135]; rfl) | (rw [decide_eq_false h135, decide_eq_true h141]; rfl) | (rw [decide_eq_false h135, decide_eq_false h141]; rfl)) | (rw [if_neg h109, if_neg h129, if_pos h155]; first | (rw [decide_eq_true h161]; rfl) | (rw [decide_eq_false h161]; rfl)) | (rw [if_neg h109, if_neg h129, if_neg h155]; first | (rw [decide_eq_true h175]; rfl) | (rw [decide_eq_false h175]; rfl))) ?_
              exact e_lvA (l_X12_taken (S := vaS S (nD S) p (gvT S p)) hM I.1.2.1 hD5 (fun c hc => ⟨(I.1.2.2.1 c hc).1, (I.1.2.2.1 c hc).2.1⟩) (fun e g => cas_con hgo hR5 I.1.2.1 I.1.2.2.1 h101 e g) (fun e g => cas_rec hgo hR5 I.1.2.1 I.1.2.2.1 e g) hso4
                (fun e => qs hq (by unfold tkF; rw [if_neg h26, if_neg h101, if_pos e])) (fun e g => qs hq (by unfold tkF; rw [if_neg h26, if_neg h101, if_neg (by rw [e]; decide)]; exact if_pos g)) (fun e g l => qs hq (by unfold tkF; rw [if_neg h26, if_neg h101, if_neg (by rw [e]; decide), if_neg (show ¬ forB S _ _ _ = true from fun z => by rw [show forB S _ _ _ = false from g] at z; cases z), if_pos l])) (fun e g l => qs hq (by unfold tkF; rw [if_neg h26, if_neg h101, if_neg (by rw [e]; decide), if_neg (show ¬ forB S _ _ _ = true from fun z => by rw [show forB S _ _ _ = false from g] at z; cases z), if_neg l]))) ⟨rfl, rfl, rfl, rfl, rfl, rfl, rfl, rfl, trivial⟩
      · refine e_iload dX12_taken_112 rfl ?_
        refine e_push dX12_taken_114 ?_
        refine e_icmp_ge dX12_taken_115 (fun h115 => ?_) (fun h115 => ?_)
        · refine e_push dX12_taken_122 ?_
          refine e_goto dX12_taken_123 ?_
          refine e_topi (show _ = bI (casB (S.2.1 17 (5 * s + p)) (famF S (gvT S p))) by unfold casB; first | (rw [if_pos h109]; first | (rw [decide_eq_true (Int32.not_le.mp h115)]; rfl) | (rw [decide_eq_false (Int32.not_lt.mpr h115)]; rfl)) | (rw [if_neg h109, if_pos h129]; first | (rw [decide_eq_true h135]; rfl) | (rw [decide_eq_false h135, decide_eq_true h141]; rfl) | (rw [decide_eq_false h135, decide_eq_false h141]; rfl)) | (rw [if_neg h109, if_neg h129, if_pos h155]; first | (rw [decide_eq_true h161]; rfl) | (rw [decide_eq_false h161]; rfl)) | (rw [if_neg h109, if_neg h129, if_neg h155]; first | (rw [decide_eq_true h175]; rfl) | (rw [decide_eq_false h175]; rfl))) ?_
          exact e_lvA (l_X12_taken (S := vaS S (nD S) p (gvT S p)) hM I.1.2.1 hD5 (fun c hc => ⟨(I.1.2.2.1 c hc).1, (I.1.2.2.1 c hc).2.1⟩) (fun e g => cas_con hgo hR5 I.1.2.1 I.1.2.2.1 h101 e g) (fun e g => cas_rec hgo hR5 I.1.2.1 I.1.2.2.1 e g) hso4
            (fun e => qs hq (by unfold tkF; rw [if_neg h26, if_neg h101, if_pos e])) (fun e g => qs hq (by unfold tkF; rw [if_neg h26, if_neg h101, if_neg (by rw [e]; decide)]; exact if_pos g)) (fun e g l => qs hq (by unfold tkF; rw [if_neg h26, if_neg h101, if_neg (by rw [e]; decide), if_neg (show ¬ forB S _ _ _ = true from fun z => by rw [show forB S _ _ _ = false from g] at z; cases z), if_pos l])) (fun e g l => qs hq (by unfold tkF; rw [if_neg h26, if_neg h101, if_neg (by rw [e]; decide), if_neg (show ¬ forB S _ _ _ = true from fun z => by rw [show forB S _ _ _ = false from g] at z; cases z), if_neg l]))) ⟨rfl, rfl, rfl, rfl, rfl, rfl, rfl, rfl, trivial⟩
        · refine e_push dX12_taken_118 ?_
          refine e_goto dX12_taken_119 ?_
          refine e_topi (show _ = bI (casB (S.2.1 17 (5 * s + p)) (famF S (gvT S p))) by unfold casB; first | (rw [if_pos h109]; first | (rw [decide_eq_true (Int32.not_le.mp h115)]; rfl) | (rw [decide_eq_false (Int32.not_lt.mpr h115)]; rfl)) | (rw [if_neg h109, if_pos h129]; first | (rw [decide_eq_true h135]; rfl) | (rw [decide_eq_false h135, decide_eq_true h141]; rfl) | (rw [decide_eq_false h135, decide_eq_false h141]; rfl)) | (rw [if_neg h109, if_neg h129, if_pos h155]; first | (rw [decide_eq_true h161]; rfl) | (rw [decide_eq_false h161]; rfl)) | (rw [if_neg h109, if_neg h129, if_neg h155]; first | (rw [decide_eq_true h175]; rfl) | (rw [decide_eq_false h175]; rfl))) ?_
          exact e_lvA (l_X12_taken (S := vaS S (nD S) p (gvT S p)) hM I.1.2.1 hD5 (fun c hc => ⟨(I.1.2.2.1 c hc).1, (I.1.2.2.1 c hc).2.1⟩) (fun e g => cas_con hgo hR5 I.1.2.1 I.1.2.2.1 h101 e g) (fun e g => cas_rec hgo hR5 I.1.2.1 I.1.2.2.1 e g) hso4
            (fun e => qs hq (by unfold tkF; rw [if_neg h26, if_neg h101, if_pos e])) (fun e g => qs hq (by unfold tkF; rw [if_neg h26, if_neg h101, if_neg (by rw [e]; decide)]; exact if_pos g)) (fun e g l => qs hq (by unfold tkF; rw [if_neg h26, if_neg h101, if_neg (by rw [e]; decide), if_neg (show ¬ forB S _ _ _ = true from fun z => by rw [show forB S _ _ _ = false from g] at z; cases z), if_pos l])) (fun e g l => qs hq (by unfold tkF; rw [if_neg h26, if_neg h101, if_neg (by rw [e]; decide), if_neg (show ¬ forB S _ _ _ = true from fun z => by rw [show forB S _ _ _ = false from g] at z; cases z), if_neg l]))) ⟨rfl, rfl, rfl, rfl, rfl, rfl, rfl, rfl, trivial⟩
    · refine e_push dX12_taken_104 ?_
      exact e_iretI dX12_taken_105 rfl (qs hq (by unfold tkF; rw [if_neg h26, if_pos h101]; rfl)) (by decide) (by decide)
  · refine e_aload dX12_taken_29 rfl ?_
    refine m_geta dX12_taken_30 fg_X12_44 hM (by decide) rfl ?_
    refine e_push dX12_taken_33 ?_
    refine e_iload dX12_taken_34 rfl ?_
    refine e_imul dX12_taken_35 ?_
    refine e_iload dX12_taken_36 rfl ?_
    refine e_iadd dX12_taken_37 ?_
    refine e_aload dX12_taken_38 rfl ?_
    refine m_geta dX12_taken_39 fg_X12_71 hM (by decide) rfl ?_
    refine e_iload dX12_taken_42 rfl ?_
    refine m_aldN (p) dX12_taken_43 hM rfl (by decide) (by first | rfl | simp only [li_1, li_2, li_3, li_4, li_5, li_12, li_60, pk_mul, nI_add]) (by first | omega | (simp only [mLen]; omega)) (by decide) ?_
    refine m_astN (5 * nD S + p) dX12_taken_44 hM rfl (by decide) (by first | rfl | simp only [li_1, li_2, li_3, li_4, li_5, li_12, li_60, pk_mul, nI_add]) (by first | omega | (simp only [mLen]; omega)) (by decide) ?_
    refine e_aload dX12_taken_45 rfl ?_
    refine m_geta dX12_taken_46 fg_X12_71 hM (by decide) rfl ?_
    refine e_iload dX12_taken_49 rfl ?_
    refine m_aldN (p) dX12_taken_50 hM rfl (by decide) (by first | rfl | simp only [li_1, li_2, li_3, li_4, li_5, li_12, li_60, pk_mul, nI_add]) (by first | omega | (simp only [mLen]; omega)) (by decide) ?_
    refine e_push dX12_taken_51 ?_
    refine e_iload dX12_taken_52 rfl ?_
    refine n_callS3 dX12_taken_54 ca_X12_96  (c_X12_in _ _ _ ?_) 
    refine e_if_eqB dX12_taken_57 (fun h57 => ?_) (fun h57 => ?_)
    · have h57 : inB (S.2.1 23 p) 0 (S.2.1 18 (5 * s + p)) = false := h57
      have hz : (if inB (S.2.1 23 p) 0 (S.2.1 18 (5 * s + p)) = true then (0 : Int32) else 2) = 2 := if_neg (by rw [h57]; decide)
      refine e_push dX12_taken_64 ?_
      exact e_iretI dX12_taken_65 rfl (qs hq (by unfold tkF; rw [if_pos h26, hz]; rfl)) (by decide) (by decide)
    · have h57 : inB (S.2.1 23 p) 0 (S.2.1 18 (5 * s + p)) = true := h57
      have hz : (if inB (S.2.1 23 p) 0 (S.2.1 18 (5 * s + p)) = true then (0 : Int32) else 2) = 0 := if_pos h57
      refine e_push dX12_taken_60 ?_
      refine e_goto dX12_taken_61 ?_
      exact e_iretI dX12_taken_65 rfl (qs hq (by unfold tkF; rw [if_pos h26, hz]; rfl)) (by decide) (by decide)
set_option maxRecDepth 100000 in
set_option maxHeartbeats 4000000 in
theorem c_X12_checked {b0 : Nat} {D : va_G} {dA : Nat → ClassId} {dm : Nat → Nat → Prop} {ad : Nat → Nat → Nat} {Q : PQ} {ct0 : Nat → Nat → va_E} {S : St} (hM : dmM dm) {t : Nat} (I : Inv S t) (kind a : Int32) (b : Nat) (hb : b < 2 ^ 31) (hk : kind = 0 ∨ kind = 1 ∨ ((kind = 2 ∨ kind = 3) ∧ (a = -1 ∨ ∃ r, r < nR S ∧ a = nI (100 + r))) ∨ (kind = 4 ∧ (a = -1 ∨ ∃ c, c < nC S ∧ a = nI c)) ∨ (kind = 5 ∧ (a = -1 ∨ ∃ d, d < nD S ∧ a = nI (100000 + d)))) (hq : Q (some (.int (ckF S kind a (nI b)))) dm ad (ctM dA ad ct0 S)) : Ct b0 D dA yX12_checked cX12_checked 5 (some .int) (Rm 1) [.ref (ad 16 0), .int kind, .int a, .int (nI b)] dm ad (ctM dA ad ct0 S) Q := by
  refine ct_of (by decide) (Nat.le_of_ble_eq_true rfl) ?_
  refine e_iload dX12_checked_0 rfl ?_
  refine e_if_ne dX12_checked_1 (fun h1 => ?_) (fun h1 => ?_)
  · refine e_iload dX12_checked_15 rfl ?_
    refine e_push dX12_checked_16 ?_
    refine e_icmp_ne dX12_checked_17 (fun h17 => ?_) (fun h17 => ?_)
    · refine e_iload dX12_checked_40 rfl ?_
      refine e_push dX12_checked_41 ?_
      refine e_icmp_ne dX12_checked_42 (fun h42 => ?_) (fun h42 => ?_)
      · have hR1 := I.2.2.2.1.2.1
        have ht5 := I.2.2.2.2.2.2.2.1
        have hD1 := I.2.2.2.2.2.1.2.1
        have hC1 := I.1.2.1
        refine e_iload dX12_checked_47 rfl ?_
        have hk2 : (kind = 2 ∧ ∃ r, r < nR S ∧ a = nI (100 + r)) ∨ (kind = 3 ∧ ∃ r, r < nR S ∧ a = nI (100 + r)) ∨ (kind = 4 ∧ ∃ c, c < nC S ∧ a = nI c) ∨ (kind = 5 ∧ ∃ d, d < nD S ∧ a = nI (100000 + d)) := by
          rcases hk with z | z | ⟨z1 | z1, z⟩ | ⟨z1, z⟩ | ⟨z1, z⟩
          · exact absurd z h1
          · exact absurd z h17
          · exact Or.inl ⟨z1, z.resolve_left h42⟩
          · exact Or.inr (Or.inl ⟨z1, z.resolve_left h42⟩)
          · exact Or.inr (Or.inr (Or.inl ⟨z1, z.resolve_left h42⟩))
          · exact Or.inr (Or.inr (Or.inr ⟨z1, z.resolve_left h42⟩))
        rcases hk2 with ⟨rfl, r, hr, rfl⟩ | ⟨rfl, r, hr, rfl⟩ | ⟨rfl, c, hc, rfl⟩ | ⟨rfl, d, hd, rfl⟩
        · have tr : tN (nI (100 + r)) - 100 = r := by rw [tN_n (by omega)]; omega
          obtain ⟨hs, hs12⟩ := I.2.2.2.1.2.2 r hr
          refine e_tab (off := 28) (t := 76) dX12_checked_48 (by decide) (by decide) (by decide) (by decide) ?_
          refine e_iload dX12_checked_76 rfl ?_
          refine e_aload dX12_checked_77 rfl ?_
          refine m_geta dX12_checked_78 fg_X12_32 hM (by decide) rfl ?_
          refine e_iload dX12_checked_81 rfl ?_
          refine e_push dX12_checked_82 ?_
          refine e_isub dX12_checked_84 ?_
          refine e_topi sub_100 ?_
          refine m_aldN (r) dX12_checked_85 hM rfl (by decide) (by first | rfl | simp only [li_1, li_2, li_3, li_4, li_5, li_12, li_60, pk_mul, nI_add]) (by first | omega | (simp only [mLen]; omega)) (by decide) ?_
          refine e_icmp_lt dX12_checked_86 (fun h86 => ?_) (fun h86 => ?_)
          · have hbs : b < sz S r := by
              rw [hs] at h86
              exact (nI_ltI hb (by omega)).mp h86
            refine e_aload dX12_checked_93 rfl ?_
            refine m_geta dX12_checked_94 fg_X12_35 hM (by decide) rfl ?_
            refine e_push dX12_checked_97 ?_
            refine e_iload dX12_checked_99 rfl ?_
            refine e_push dX12_checked_100 ?_
            refine e_isub dX12_checked_102 ?_
            refine e_topi sub_100 ?_
            refine e_imul dX12_checked_103 ?_
            refine e_iload dX12_checked_104 rfl ?_
            refine e_iadd dX12_checked_105 ?_
            refine m_aldN (12 * r + b) dX12_checked_106 hM rfl (by decide) (by first | rfl | simp only [li_1, li_2, li_3, li_4, li_5, li_12, li_60, pk_mul, nI_add]) (by first | omega | (simp only [mLen]; omega)) (by decide) ?_
            refine e_if_le dX12_checked_107 (fun h107 => ?_) (fun h107 => ?_)
            · refine e_push dX12_checked_114 ?_
              exact e_iretI dX12_checked_115 rfl (qi hq (by unfold ckF; rw [if_neg h1, if_neg h17, if_neg h42, if_pos rfl, tr]; first | (rw [if_pos (Int32.not_lt.mp h86)]; done) | (rw [if_neg (Int32.not_le.mpr h86), tN_n hb]; first | (rw [if_pos (Int32.not_le.mp h107)]; done) | (rw [if_neg (Int32.not_lt.mpr h107)]; done)))) (by decide) (by decide)
            · refine e_push dX12_checked_110 ?_
              refine e_goto dX12_checked_111 ?_
              exact e_iretI dX12_checked_115 rfl (qi hq (by unfold ckF; rw [if_neg h1, if_neg h17, if_neg h42, if_pos rfl, tr]; first | (rw [if_pos (Int32.not_lt.mp h86)]; done) | (rw [if_neg (Int32.not_le.mpr h86), tN_n hb]; first | (rw [if_pos (Int32.not_le.mp h107)]; done) | (rw [if_neg (Int32.not_lt.mpr h107)]; done)))) (by decide) (by decide)
          · refine e_push dX12_checked_89 ?_
            refine e_goto dX12_checked_90 ?_
            exact e_iretI dX12_checked_115 rfl (qi hq (by unfold ckF; rw [if_neg h1, if_neg h17, if_neg h42, if_pos rfl, tr]; first | (rw [if_pos (Int32.not_lt.mp h86)]; done) | (rw [if_neg (Int32.not_le.mpr h86), tN_n hb]; first | (rw [if_pos (Int32.not_le.mp h107)]; done) | (rw [if_neg (Int32.not_lt.mpr h107)]; done)))) (by decide) (by decide)
        · have tr : tN (nI (100 + r)) - 100 = r := by rw [tN_n (by omega)]; omega
          refine e_tab (off := 68) (t := 116) dX12_checked_48 (by decide) (by decide) (by decide) (by decide) ?_
          refine e_aload dX12_checked_116 rfl ?_
          refine m_geta dX12_checked_117 fg_X12_32 hM (by decide) rfl ?_
          refine e_iload dX12_checked_120 rfl ?_
          refine e_push dX12_checked_121 ?_
          refine e_isub dX12_checked_123 ?_
          refine e_topi sub_100 ?_
          refine m_aldN (r) dX12_checked_124 hM rfl (by decide) (by first | rfl | simp only [li_1, li_2, li_3, li_4, li_5, li_12, li_60, pk_mul, nI_add]) (by first | omega | (simp only [mLen]; omega)) (by decide) ?_
          refine e_iload dX12_checked_125 rfl ?_
          refine e_icmp_lt dX12_checked_126 (fun h126 => ?_) (fun h126 => ?_)
          · refine e_push dX12_checked_133 ?_
            exact e_iretI dX12_checked_134 rfl (qi hq (by unfold ckF; rw [if_neg h1, if_neg h17, if_neg h42, if_neg (by decide), if_pos rfl, tr]; first | (rw [if_pos (Int32.not_lt.mp h126)]; done) | (rw [if_neg (Int32.not_le.mpr h126)]; done))) (by decide) (by decide)
          · refine e_push dX12_checked_129 ?_
            refine e_goto dX12_checked_130 ?_
            exact e_iretI dX12_checked_134 rfl (qi hq (by unfold ckF; rw [if_neg h1, if_neg h17, if_neg h42, if_neg (by decide), if_pos rfl, tr]; first | (rw [if_pos (Int32.not_lt.mp h126)]; done) | (rw [if_neg (Int32.not_le.mpr h126)]; done))) (by decide) (by decide)
        · have tc : tN (nI c) = c := tN_n (by omega)
          obtain ⟨hkc, hk6, -⟩ := I.1.2.2.1 c hc
          obtain ⟨hm, hmC, hbi, hbj⟩ := I.2.1 (3 * kN S c) (by omega)
          refine e_tab (off := 87) (t := 135) dX12_checked_48 (by decide) (by decide) (by decide) (by decide) ?_
          refine e_aload dX12_checked_135 rfl ?_
          refine e_iload dX12_checked_136 rfl ?_
          refine e_push dX12_checked_137 ?_
          refine n_callV2 dX12_checked_138 ca_X12_119 hM.1 ctM_o (c_X12_orderOf (bd := 0) (b := 3 * kN S c) hM (by omega) hkc rfl (by omega) hm (by omega) ?_) 
          refine e_iload dX12_checked_141 rfl ?_
          refine e_icmp_ge dX12_checked_142 (fun h142 => ?_) (fun h142 => ?_)
          · refine e_push dX12_checked_149 ?_
            exact e_iretI dX12_checked_150 rfl (qi hq (by unfold ckF; rw [if_neg h1, if_neg h17, if_neg h42, if_neg (by decide), if_neg (by decide), if_pos rfl, tc]; first | (rw [if_pos (Int32.not_le.mp h142)]; done) | (rw [if_neg (Int32.not_lt.mpr h142)]; done))) (by decide) (by decide)
          · refine e_push dX12_checked_145 ?_
            refine e_goto dX12_checked_146 ?_
            exact e_iretI dX12_checked_150 rfl (qi hq (by unfold ckF; rw [if_neg h1, if_neg h17, if_neg h42, if_neg (by decide), if_neg (by decide), if_pos rfl, tc]; first | (rw [if_pos (Int32.not_le.mp h142)]; done) | (rw [if_neg (Int32.not_lt.mpr h142)]; done))) (by decide) (by decide)
        · have td : rcN (nI (100000 + d)) = d := rc_n (by omega)
          obtain ⟨hsh, hsh6, -⟩ := I.2.2.2.2.2.1.2.2 d hd
          refine e_tabD (t := 151) dX12_checked_48 (Or.inr (by decide)) (by decide) ?_
          refine e_iload dX12_checked_151 rfl ?_
          refine e_ldc dX12_checked_152 kw_X12_152 ?_
          refine e_isub dX12_checked_154 ?_
          refine e_topi sub_h ?_
          refine e_istore dX12_checked_155 ?_
          refine e_aload dX12_checked_157 rfl ?_
          refine m_geta dX12_checked_158 fg_X12_41 hM (by decide) rfl ?_
          refine e_iload dX12_checked_161 rfl ?_
          refine m_aldN (d) dX12_checked_163 hM rfl (by decide) (by first | rfl | simp only [li_1, li_2, li_3, li_4, li_5, li_12, li_60, pk_mul, nI_add]) (by first | omega | (simp only [mLen]; omega)) (by decide) ?_
          refine e_if_ne dX12_checked_164 (fun h164 => ?_) (fun h164 => ?_)
          · refine e_aload dX12_checked_171 rfl ?_
            refine m_geta dX12_checked_172 fg_X12_53 hM (by decide) rfl ?_
            refine e_push dX12_checked_175 ?_
            refine e_aload dX12_checked_176 rfl ?_
            refine m_geta dX12_checked_177 fg_X12_38 hM (by decide) rfl ?_
            refine e_iload dX12_checked_180 rfl ?_
            refine m_aldN (d) dX12_checked_182 hM rfl (by decide) (by first | rfl | simp only [li_1, li_2, li_3, li_4, li_5, li_12, li_60, pk_mul, nI_add]) (by first | omega | (simp only [mLen]; omega)) (by decide) ?_
            refine e_topi hsh ?_
            refine e_imul dX12_checked_183 ?_
            refine m_aldN (5 * shN S d) dX12_checked_184 hM rfl (by decide) (by first | rfl | simp only [li_1, li_2, li_3, li_4, li_5, li_12, li_60, pk_mul, nI_add]) (by first | omega | (simp only [mLen]; omega)) (by decide) ?_
            refine e_if_eq dX12_checked_185 (fun h185 => ?_) (fun h185 => ?_)
            · refine e_aload dX12_checked_192 rfl ?_
              refine m_geta dX12_checked_193 fg_X12_44 hM (by decide) rfl ?_
              refine e_push dX12_checked_196 ?_
              refine e_iload dX12_checked_197 rfl ?_
              refine e_imul dX12_checked_199 ?_
              refine m_aldN (5 * d) dX12_checked_200 hM rfl (by decide) (by first | rfl | simp only [li_1, li_2, li_3, li_4, li_5, li_12, li_60, pk_mul, nI_add]) (by first | omega | (simp only [mLen]; omega)) (by decide) ?_
              refine e_iload dX12_checked_201 rfl ?_
              refine e_icmp_ne dX12_checked_202 (fun h202 => ?_) (fun h202 => ?_)
              · refine e_push dX12_checked_209 ?_
                exact e_iretI dX12_checked_210 rfl (qi hq (by unfold ckF; rw [if_neg h1, if_neg h17, if_neg h42, if_neg (by decide), if_neg (by decide), if_neg (by decide), td]; first | (rw [if_pos h164]; done) | (rw [if_neg h164, if_neg h185]; done) | (rw [if_neg h164, if_pos h185, if_pos h202]; done) | (rw [if_neg h164, if_pos h185, if_neg h202]; done))) (by decide) (by decide)
              · refine e_push dX12_checked_205 ?_
                refine e_goto dX12_checked_206 ?_
                exact e_iretI dX12_checked_210 rfl (qi hq (by unfold ckF; rw [if_neg h1, if_neg h17, if_neg h42, if_neg (by decide), if_neg (by decide), if_neg (by decide), td]; first | (rw [if_pos h164]; done) | (rw [if_neg h164, if_neg h185]; done) | (rw [if_neg h164, if_pos h185, if_pos h202]; done) | (rw [if_neg h164, if_pos h185, if_neg h202]; done))) (by decide) (by decide)
            · refine e_push dX12_checked_188 ?_
              refine e_goto dX12_checked_189 ?_
              exact e_iretI dX12_checked_210 rfl (qi hq (by unfold ckF; rw [if_neg h1, if_neg h17, if_neg h42, if_neg (by decide), if_neg (by decide), if_neg (by decide), td]; first | (rw [if_pos h164]; done) | (rw [if_neg h164, if_neg h185]; done) | (rw [if_neg h164, if_pos h185, if_pos h202]; done) | (rw [if_neg h164, if_pos h185, if_neg h202]; done))) (by decide) (by decide)
          · refine e_push dX12_checked_167 ?_
            refine e_goto dX12_checked_168 ?_
            exact e_iretI dX12_checked_210 rfl (qi hq (by unfold ckF; rw [if_neg h1, if_neg h17, if_neg h42, if_neg (by decide), if_neg (by decide), if_neg (by decide), td]; first | (rw [if_pos h164]; done) | (rw [if_neg h164, if_neg h185]; done) | (rw [if_neg h164, if_pos h185, if_pos h202]; done) | (rw [if_neg h164, if_pos h185, if_neg h202]; done))) (by decide) (by decide)
      · refine e_push dX12_checked_45 ?_
        exact e_iretI dX12_checked_46 rfl (qi hq (by unfold ckF; rw [if_neg h1, if_neg h17, if_pos h42])) (by decide) (by decide)
    · refine e_iload dX12_checked_20 rfl ?_
      refine e_if_ne dX12_checked_21 (fun h21 => ?_) (fun h21 => ?_)
      · refine e_iload dX12_checked_28 rfl ?_
        refine e_iload dX12_checked_29 rfl ?_
        refine e_irem dX12_checked_30 h21 ?_
        refine e_if_ne dX12_checked_31 (fun h31 => ?_) (fun h31 => ?_)
        · refine e_push dX12_checked_38 ?_
          exact e_iretI dX12_checked_39 rfl (qi hq (by unfold ckF; rw [if_neg h1, if_pos h17]; first | (rw [if_pos h21]; done) | (rw [if_neg h21, if_pos h31]; done) | (rw [if_neg h21, if_neg h31]; done))) (by decide) (by decide)
        · refine e_push dX12_checked_34 ?_
          refine e_goto dX12_checked_35 ?_
          exact e_iretI dX12_checked_39 rfl (qi hq (by unfold ckF; rw [if_neg h1, if_pos h17]; first | (rw [if_pos h21]; done) | (rw [if_neg h21, if_pos h31]; done) | (rw [if_neg h21, if_neg h31]; done))) (by decide) (by decide)
      · refine e_push dX12_checked_24 ?_
        refine e_goto dX12_checked_25 ?_
        exact e_iretI dX12_checked_39 rfl (qi hq (by unfold ckF; rw [if_neg h1, if_pos h17]; first | (rw [if_pos h21]; done) | (rw [if_neg h21, if_pos h31]; done) | (rw [if_neg h21, if_neg h31]; done))) (by decide) (by decide)
  · refine e_iload dX12_checked_4 rfl ?_
    refine e_iload dX12_checked_5 rfl ?_
    refine e_icmp_gt dX12_checked_6 (fun h6 => ?_) (fun h6 => ?_)
    · refine e_push dX12_checked_13 ?_
      exact e_iretI dX12_checked_14 rfl (qi hq (by unfold ckF; rw [if_pos h1]; first | (rw [if_pos (Int32.not_lt.mp h6)]; done) | (rw [if_neg (Int32.not_le.mpr h6)]; done))) (by decide) (by decide)
    · refine e_push dX12_checked_9 ?_
      refine e_goto dX12_checked_10 ?_
      exact e_iretI dX12_checked_14 rfl (qi hq (by unfold ckF; rw [if_pos h1]; first | (rw [if_pos (Int32.not_lt.mp h6)]; done) | (rw [if_neg (Int32.not_le.mpr h6)]; done))) (by decide) (by decide)
