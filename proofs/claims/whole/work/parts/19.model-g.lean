set_option maxRecDepth 100000 in
set_option maxHeartbeats 4000000 in
theorem l3_X12_make {b0 : Nat} {D : va_G} {dA : Nat → ClassId} {dm : Nat → Nat → Prop} {ad : Nat → Nat → Nat} {Q : PQ} {ct0 : Nat → Nat → va_E} {S : St} (hM : dmM dm) {s pl r : Nat} (hpl : pl < 10) (hq : Q (some (.int ((mk3 S r pl).1 25))) dm ad (ctM dA ad ct0 (mk3 S r pl))) : E b0 D dA yX12_make cX12_make 5 (some .int) (Rm 2) E0 (QFm b0 D dA (Rm 2) Q) 215 (lfA [some (.ref (ad 16 0)), some (.int (nI s)), some (.int (nI pl)), some (.int (nI r))]) [] dm ad (ctM dA ad ct0 S) 0 0 := by
  refine e_aload dX12_make_215 rfl ?_
  refine e_dup dX12_make_216 ?_
  refine m_geti dX12_make_217 fg_X12_138 hM (by decide) rfl ?_
  refine e_push dX12_make_220 ?_
  refine e_iadd dX12_make_221 ?_
  refine m_put dX12_make_222 fp_X12_138 hM (by decide) rfl ?_
  refine e_aload dX12_make_225 rfl ?_
  refine m_geti dX12_make_226 fg_X12_185 hM (by decide) rfl ?_
  refine e_if_ne dX12_make_229 (fun h229 => ?_) (fun h229 => ?_)
  · have h229 : ¬ S.1 25 = 0 := h229
    refine e_aload dX12_make_252 rfl ?_
    refine m_geti dX12_make_253 fg_X12_185 hM (by decide) rfl ?_
    exact e_iretI dX12_make_256 rfl (by unfold mk3 at hq; first | (rw [if_pos h229] at hq; exact hq) | (rw [if_neg h229] at hq; exact hq)) (by decide) (by decide)
  · have h229 : S.1 25 = 0 := h229
    refine e_aload dX12_make_232 rfl ?_
    refine m_geta dX12_make_233 fg_X12_47 hM (by decide) rfl ?_
    refine e_iload dX12_make_236 rfl ?_
    refine e_ldc dX12_make_237 kw_X12_152 ?_
    refine e_iload dX12_make_239 rfl ?_
    refine e_iadd dX12_make_240 ?_
    refine e_topi (show (100000 : Int32) + nI r = nI (100000 + r) by rw [li_h, nI_add]) ?_
    refine m_astN (pl) dX12_make_241 hM rfl (by decide) (by first | rfl | simp only [li_1, li_2, li_3, li_4, li_5, li_12, li_60, pk_mul, nI_add]) (by first | omega | (simp only [mLen]; omega)) (by decide) ?_
    refine e_aload dX12_make_242 rfl ?_
    refine e_dup dX12_make_243 ?_
    refine m_geti dX12_make_244 fg_X12_182 hM (by decide) rfl ?_
    refine e_push dX12_make_247 ?_
    refine e_iadd dX12_make_248 ?_
    refine m_put dX12_make_249 fp_X12_182 hM (by decide) rfl ?_
    refine e_aload dX12_make_252 rfl ?_
    refine m_geti dX12_make_253 fg_X12_185 hM (by decide) rfl ?_
    exact e_iretI dX12_make_256 rfl (by unfold mk3 at hq; first | (rw [if_pos h229] at hq; exact hq) | (rw [if_neg h229] at hq; exact hq)) (by decide) (by decide)
set_option maxRecDepth 100000 in
set_option maxHeartbeats 4000000 in
theorem l2_X12_make {b0 : Nat} {D : va_G} {dA : Nat → ClassId} {dm : Nat → Nat → Prop} {ad : Nat → Nat → Nat} {Q : PQ} {ct0 : Nat → Nat → va_E} (hM : dmM dm) {t s pl r : Nat} (hpl : pl < 10) : ∀ k c S, IM S t s r (pmN S s) → c + k = cmN S s → Q (some (.int ((mk3 (mk2 s r k c S) r pl).1 25))) dm ad (ctM dA ad ct0 (mk3 (mk2 s r k c S) r pl)) → E b0 D dA yX12_make cX12_make 5 (some .int) (Rm 2) E0 (QFm b0 D dA (Rm 2) Q) 111 (lfA [some (.ref (ad 16 0)), some (.int (nI s)), some (.int (nI pl)), some (.int (nI r)), some (.int (nI c))]) [] dm ad (ctM dA ad ct0 S) 0 0 := by
  intro k
  induction k with
  | zero =>
    intro c S hI hc hq
    obtain ⟨I, hr, hs, ho⟩ := id hI
    obtain ⟨hpm, hpm5, hcm, hcm4, hso, hch⟩ := I.2.2.2.2.1 s hs
    have ht5 := I.2.2.2.2.2.2.2.1
    have hDt := I.2.2.2.2.2.1.2.1
    refine e_iload dX12_make_111 rfl ?_
    refine e_aload dX12_make_113 rfl ?_
    refine m_geta dX12_make_114 fg_X12_59 hM (by decide) rfl ?_
    refine e_iload dX12_make_117 rfl ?_
    refine m_aldN (s) dX12_make_118 hM rfl (by decide) (by first | rfl | simp only [li_1, li_2, li_3, li_4, li_5, li_12, li_60, pk_mul, nI_add]) (by first | omega | (simp only [mLen]; omega)) (by decide) ?_
    refine e_topi hcm ?_
    refine e_icmp_ge dX12_make_119 (fun h119 => ?_) (fun h119 => ?_)
    · exact e_lvA (l3_X12_make hM hpl hq) ⟨rfl, rfl, rfl, rfl, trivial⟩
    · exact absurd (nI_le (by omega) (by omega)) h119
  | succ k ih =>
    intro c S hI hc hq
    obtain ⟨I, hr, hs, ho⟩ := id hI
    obtain ⟨hpm, hpm5, hcm, hcm4, hso, hch⟩ := I.2.2.2.2.1 s hs
    have ht5 := I.2.2.2.2.2.2.2.1
    have hDt := I.2.2.2.2.2.1.2.1
    refine e_iload dX12_make_111 rfl ?_
    refine e_aload dX12_make_113 rfl ?_
    refine m_geta dX12_make_114 fg_X12_59 hM (by decide) rfl ?_
    refine e_iload dX12_make_117 rfl ?_
    refine m_aldN (s) dX12_make_118 hM rfl (by decide) (by first | rfl | simp only [li_1, li_2, li_3, li_4, li_5, li_12, li_60, pk_mul, nI_add]) (by first | omega | (simp only [mLen]; omega)) (by decide) ?_
    refine e_topi hcm ?_
    refine e_icmp_ge dX12_make_119 (fun h119 => ?_) (fun h119 => ?_)
    · exact absurd h119 (nI_ge (by omega) (by omega))
    · refine e_aload dX12_make_122 rfl ?_
      refine m_geti dX12_make_123 fg_X12_185 hM (by decide) rfl ?_
      refine e_if_ne dX12_make_126 (fun h126 => ?_) (fun h126 => ?_)
      · rw [mk2, if_neg h126] at hq
        exact e_lvA (l3_X12_make hM hpl hq) ⟨rfl, rfl, rfl, rfl, trivial⟩
      · rw [mk2, if_pos h126] at hq
        obtain ⟨a, b, ha, hb, ea, eb, eb0, hkd⟩ := hch c (by omega)
        obtain ⟨qb, hqb, eqb⟩ : ∃ q, q < 2 ^ 31 ∧ S.2.1 14 (5 * r + b) = nI q := by
          rcases ho h126 b hb with z | z
          · exact z.2
          · exact absurd eb0 z.1
        have hA := ho h126 a ha
        have eck : ckA S s r c = ckF S (S.2.1 20 (4 * s + c)) (S.2.1 14 (5 * r + a)) (nI qb) := by
          unfold ckA; rw [ea, eb, tN_n (show a < 2 ^ 31 by omega), tN_n (show b < 2 ^ 31 by omega), eqb]
        refine e_aload dX12_make_129 rfl ?_
        refine e_aload dX12_make_130 rfl ?_
        refine e_aload dX12_make_131 rfl ?_
        refine m_geta dX12_make_132 fg_X12_62 hM (by decide) rfl ?_
        refine e_push dX12_make_135 ?_
        refine e_iload dX12_make_136 rfl ?_
        refine e_imul dX12_make_137 ?_
        refine e_iload dX12_make_138 rfl ?_
        refine e_iadd dX12_make_140 ?_
        refine m_aldN (4 * s + c) dX12_make_141 hM rfl (by decide) (by first | rfl | simp only [li_1, li_2, li_3, li_4, li_5, li_12, li_60, pk_mul, nI_add]) (by first | omega | (simp only [mLen]; omega)) (by decide) ?_
        refine e_aload dX12_make_142 rfl ?_
        refine m_geta dX12_make_143 fg_X12_44 hM (by decide) rfl ?_
        refine e_push dX12_make_146 ?_
        refine e_iload dX12_make_147 rfl ?_
        refine e_imul dX12_make_148 ?_
        refine e_aload dX12_make_149 rfl ?_
        refine m_geta dX12_make_150 fg_X12_65 hM (by decide) rfl ?_
        refine e_push dX12_make_153 ?_
        refine e_iload dX12_make_154 rfl ?_
        refine e_imul dX12_make_155 ?_
        refine e_iload dX12_make_156 rfl ?_
        refine e_iadd dX12_make_158 ?_
        refine m_aldN (4 * s + c) dX12_make_159 hM rfl (by decide) (by first | rfl | simp only [li_1, li_2, li_3, li_4, li_5, li_12, li_60, pk_mul, nI_add]) (by first | omega | (simp only [mLen]; omega)) (by decide) ?_
        refine e_topi ea ?_
        refine e_iadd dX12_make_160 ?_
        refine m_aldN (5 * r + a) dX12_make_161 hM rfl (by decide) (by first | rfl | simp only [li_1, li_2, li_3, li_4, li_5, li_12, li_60, pk_mul, nI_add]) (by first | omega | (simp only [mLen]; omega)) (by decide) ?_
        refine e_aload dX12_make_162 rfl ?_
        refine m_geta dX12_make_163 fg_X12_44 hM (by decide) rfl ?_
        refine e_push dX12_make_166 ?_
        refine e_iload dX12_make_167 rfl ?_
        refine e_imul dX12_make_168 ?_
        refine e_aload dX12_make_169 rfl ?_
        refine m_geta dX12_make_170 fg_X12_68 hM (by decide) rfl ?_
        refine e_push dX12_make_173 ?_
        refine e_iload dX12_make_174 rfl ?_
        refine e_imul dX12_make_175 ?_
        refine e_iload dX12_make_176 rfl ?_
        refine e_iadd dX12_make_178 ?_
        refine m_aldN (4 * s + c) dX12_make_179 hM rfl (by decide) (by first | rfl | simp only [li_1, li_2, li_3, li_4, li_5, li_12, li_60, pk_mul, nI_add]) (by first | omega | (simp only [mLen]; omega)) (by decide) ?_
        refine e_topi eb ?_
        refine e_iadd dX12_make_180 ?_
        refine m_aldN (5 * r + b) dX12_make_181 hM rfl (by decide) (by first | rfl | simp only [li_1, li_2, li_3, li_4, li_5, li_12, li_60, pk_mul, nI_add]) (by first | omega | (simp only [mLen]; omega)) (by decide) ?_
        refine e_topi eqb ?_
        refine n_callV3 dX12_make_182 ca_X12_192 hM.1 ctM_o (c_X12_checked hM I _ _ qb hqb (ck_k hA hkd) ?_) 
        refine e_topi eck.symm ?_
        refine m_put dX12_make_185 fp_X12_185 hM (by decide) rfl ?_
        refine e_aload dX12_make_188 rfl ?_
        refine e_aload dX12_make_189 rfl ?_
        refine m_geti dX12_make_190 fg_X12_185 hM (by decide) rfl ?_
        refine e_if_le dX12_make_193 (fun h193 => ?_) (fun h193 => ?_)
        · have hz : ¬ 0 < ckA S s r c := Int32.not_lt.mpr h193
          refine e_push dX12_make_204 ?_
          refine e_topi (show _ = (if 0 < ckA S s r c then nI (10 + c) else -3) by first | (rw [if_pos hz]; exact nI_add 10 c) | (rw [if_neg hz])) ?_
          refine m_put dX12_make_206 fp_X12_77 hM (by decide) rfl ?_
          refine e_iinc dX12_make_209 rfl (inc1 c) ?_
          refine e_goto dX12_make_212 ?_
          exact e_lvA (ih (c + 1) (wyS (ckA S s r c, S) (10 + c)) (hI.ck h126) (show _ = cmN S s by omega) hq) ⟨rfl, rfl, rfl, rfl, rfl, trivial⟩
        · have hz : 0 < ckA S s r c := Int32.not_le.mp h193
          refine e_push dX12_make_196 ?_
          refine e_iload dX12_make_198 rfl ?_
          refine e_iadd dX12_make_200 ?_
          refine e_goto dX12_make_201 ?_
          refine e_topi (show _ = (if 0 < ckA S s r c then nI (10 + c) else -3) by first | (rw [if_pos hz]; exact nI_add 10 c) | (rw [if_neg hz])) ?_
          refine m_put dX12_make_206 fp_X12_77 hM (by decide) rfl ?_
          refine e_iinc dX12_make_209 rfl (inc1 c) ?_
          refine e_goto dX12_make_212 ?_
          exact e_lvA (ih (c + 1) (wyS (ckA S s r c, S) (10 + c)) (hI.ck h126) (show _ = cmN S s by omega) hq) ⟨rfl, rfl, rfl, rfl, rfl, trivial⟩
set_option maxRecDepth 100000 in
set_option maxHeartbeats 4000000 in
theorem l1_X12_make {b0 : Nat} {D : va_G} {dA : Nat → ClassId} {dm : Nat → Nat → Prop} {ad : Nat → Nat → Nat} {Q : PQ} {ct0 : Nat → Nat → va_E} (hM : dmM dm) {t s pl r : Nat} : ∀ k p S, IM S t s r p → p + k = pmN S s → (∀ S2, IM S2 t s r (pmN S2 s) → S2 = mk1 s r k p S → E b0 D dA yX12_make cX12_make 5 (some .int) (Rm 2) E0 (QFm b0 D dA (Rm 2) Q) 108 (lfA [some (.ref (ad 16 0)), some (.int (nI s)), some (.int (nI pl)), some (.int (nI r))]) [] dm ad (ctM dA ad ct0 S2) 0 0) → E b0 D dA yX12_make cX12_make 5 (some .int) (Rm 2) E0 (QFm b0 D dA (Rm 2) Q) 54 (lfA [some (.ref (ad 16 0)), some (.int (nI s)), some (.int (nI pl)), some (.int (nI r)), some (.int (nI p))]) [] dm ad (ctM dA ad ct0 S) 0 0 := by
  intro k
  induction k with
  | zero =>
    intro p S hI hc kk
    obtain ⟨I, hr, hs, ho⟩ := id hI
    obtain ⟨hpm, hpm5, hcm, hcm4, hso, hch⟩ := I.2.2.2.2.1 s hs
    have ht5 := I.2.2.2.2.2.2.2.1
    have hDt := I.2.2.2.2.2.1.2.1
    refine e_iload dX12_make_54 rfl ?_
    refine e_aload dX12_make_56 rfl ?_
    refine m_geta dX12_make_57 fg_X12_50 hM (by decide) rfl ?_
    refine e_iload dX12_make_60 rfl ?_
    refine m_aldN (s) dX12_make_61 hM rfl (by decide) (by first | rfl | simp only [li_1, li_2, li_3, li_4, li_5, li_12, li_60, pk_mul, nI_add]) (by first | omega | (simp only [mLen]; omega)) (by decide) ?_
    refine e_topi hpm ?_
    refine e_icmp_ge dX12_make_62 (fun h62 => ?_) (fun h62 => ?_)
    · exact e_lvA (kk S (by rw [show pmN S s = p by omega]; exact hI) rfl) ⟨rfl, rfl, rfl, rfl, trivial⟩
    · exact absurd (nI_le (by omega) (by omega)) h62
  | succ k ih =>
    intro p S hI hc kk
    obtain ⟨I, hr, hs, ho⟩ := id hI
    obtain ⟨hpm, hpm5, hcm, hcm4, hso, hch⟩ := I.2.2.2.2.1 s hs
    have ht5 := I.2.2.2.2.2.2.2.1
    have hDt := I.2.2.2.2.2.1.2.1
    refine e_iload dX12_make_54 rfl ?_
    refine e_aload dX12_make_56 rfl ?_
    refine m_geta dX12_make_57 fg_X12_50 hM (by decide) rfl ?_
    refine e_iload dX12_make_60 rfl ?_
    refine m_aldN (s) dX12_make_61 hM rfl (by decide) (by first | rfl | simp only [li_1, li_2, li_3, li_4, li_5, li_12, li_60, pk_mul, nI_add]) (by first | omega | (simp only [mLen]; omega)) (by decide) ?_
    refine e_topi hpm ?_
    refine e_icmp_ge dX12_make_62 (fun h62 => ?_) (fun h62 => ?_)
    · exact absurd h62 (nI_ge (by omega) (by omega))
    · refine e_aload dX12_make_65 rfl ?_
      refine m_geti dX12_make_66 fg_X12_185 hM (by decide) rfl ?_
      refine e_if_ne dX12_make_69 (fun h69 => ?_) (fun h69 => ?_)
      · exact e_lvA (kk S ⟨I, hr, hs, fun z => absurd z h69⟩ (by rw [mk1, if_neg h69])) ⟨rfl, rfl, rfl, rfl, trivial⟩
      · have hst : mk1 s r (k + 1) p S = mk1 s r k (p + 1) (wyS (tkF S s p r) p) := by rw [mk1, if_pos h69]
        have hIn := hI.tk h69 (by omega)
        have e16 : pmN (wyS (tkF S s p r) p) s = pmN S s := by
          have := (mk1_s (s := s) (r := r) 1 p S).1
          rw [mk1, if_pos h69] at this
          unfold pmN
          exact congrArg (fun f => (f s).toNatClampNeg) this
        refine e_aload dX12_make_72 rfl ?_
        refine e_aload dX12_make_73 rfl ?_
        refine e_iload dX12_make_74 rfl ?_
        refine e_iload dX12_make_75 rfl ?_
        refine e_iload dX12_make_77 rfl ?_
        refine n_callV3 dX12_make_78 ca_X12_188 hM.1 ctM_o (c_X12_taken hM I hr hs (by omega) ?_) 
        refine m_put dX12_make_81 fp_X12_185 hM (by decide) rfl ?_
        refine e_aload dX12_make_84 rfl ?_
        refine e_aload dX12_make_85 rfl ?_
        refine m_geti dX12_make_86 fg_X12_185 hM (by decide) rfl ?_
        refine e_if_le dX12_make_89 (fun h89 => ?_) (fun h89 => ?_)
        · have hz : ¬ 0 < (tkF S s p r).1 := Int32.not_lt.mpr h89
          refine e_push dX12_make_97 ?_
          refine e_topi (show _ = (if 0 < (tkF S s p r).1 then nI p else -3) by first | (rw [if_pos hz]) | (rw [if_neg hz])) ?_
          refine m_put dX12_make_99 fp_X12_77 hM (by decide) rfl ?_
          refine e_iinc dX12_make_102 rfl (inc1 p) ?_
          refine e_goto dX12_make_105 ?_
          exact e_lvA (ih (p + 1) (wyS (tkF S s p r) p) hIn (by rw [e16]; omega) (fun S2 h2 e2 => kk S2 h2 (by rw [hst]; exact e2))) ⟨rfl, rfl, rfl, rfl, rfl, trivial⟩
        · have hz : 0 < (tkF S s p r).1 := Int32.not_le.mp h89
          refine e_iload dX12_make_92 rfl ?_
          refine e_goto dX12_make_94 ?_
          refine e_topi (show _ = (if 0 < (tkF S s p r).1 then nI p else -3) by first | (rw [if_pos hz]) | (rw [if_neg hz])) ?_
          refine m_put dX12_make_99 fp_X12_77 hM (by decide) rfl ?_
          refine e_iinc dX12_make_102 rfl (inc1 p) ?_
          refine e_goto dX12_make_105 ?_
          exact e_lvA (ih (p + 1) (wyS (tkF S s p r) p) hIn (by rw [e16]; omega) (fun S2 h2 e2 => kk S2 h2 (by rw [hst]; exact e2))) ⟨rfl, rfl, rfl, rfl, rfl, trivial⟩
set_option maxRecDepth 100000 in
set_option maxHeartbeats 4000000 in
theorem c_X12_make {b0 : Nat} {D : va_G} {dA : Nat → ClassId} {dm : Nat → Nat → Prop} {ad : Nat → Nat → Nat} {Q : PQ} {ct0 : Nat → Nat → va_E} {S : St} (hM : dmM dm) {t : Nat} (I : Inv S t) (s pl : Int32) (ht : t < 512) (hq : Q (some (.int (F_make S s pl).1)) dm ad (ctM dA ad ct0 (F_make S s pl).2)) : Ct b0 D dA yX12_make cX12_make 5 (some .int) (Rm 2) [.ref (ad 16 0), .int s, .int pl] dm ad (ctM dA ad ct0 S) Q := by
  refine ct_of (by decide) (Nat.le_of_ble_eq_true rfl) ?_
  refine e_iload dX12_make_0 rfl ?_
  refine n_callS1 dX12_make_1 ca_X12_179  (c_X12_isShape _ ?_) 
  refine e_if_eqB dX12_make_4 (fun h4 => ?_) (fun h4 => ?_)
  · refine e_push dX12_make_14 ?_
    exact e_iretI dX12_make_15 rfl (qs hq (by first | (simp [F_make, h4]; done) | (simp [F_make, h11]; done))) (by decide) (by decide)
  · obtain ⟨s, s1, s2, rfl⟩ := inB_l (a := 0) (b := 5) rfl rfl (by decide) (by decide) h4
    have ts : tN (nI s) = s := tN_n (by omega)
    obtain ⟨hpm, hpm5, hcm, hcm4, hso, hch⟩ := I.2.2.2.2.1 s (by omega)
    refine e_iload dX12_make_7 rfl ?_
    refine n_callS1 dX12_make_8 ca_X12_153  (c_X12_isPlace _ ?_) 
    refine e_if_neB dX12_make_11 (fun h11 => ?_) (fun h11 => ?_)
    · obtain ⟨pl, pl1, pl2, rfl⟩ := inB_l (a := 0) (b := 9) rfl rfl (by decide) (by decide) h11
      have tpl : tN (nI pl) = pl := tN_n (by omega)
      refine e_aload dX12_make_16 rfl ?_
      refine m_geti dX12_make_17 fg_X12_182 hM (by decide) rfl ?_
      have hDt := I.2.2.2.2.2.1.2.1
      refine e_topi I.2.2.2.2.2.1.1 ?_
      refine e_istore dX12_make_20 ?_
      refine e_aload dX12_make_21 rfl ?_
      refine m_geta dX12_make_22 fg_X12_38 hM (by decide) rfl ?_
      refine e_iload dX12_make_25 rfl ?_
      refine e_iload dX12_make_26 rfl ?_
      refine m_astN (nD S) dX12_make_27 hM rfl (by decide) (by first | rfl | simp only [li_1, li_2, li_3, li_4, li_5, li_12, li_60, pk_mul, nI_add]) (by first | omega | (simp only [mLen]; omega)) (by decide) ?_
      refine e_aload dX12_make_28 rfl ?_
      refine m_geta dX12_make_29 fg_X12_41 hM (by decide) rfl ?_
      refine e_iload dX12_make_32 rfl ?_
      refine e_aload dX12_make_33 rfl ?_
      refine m_geta dX12_make_34 fg_X12_50 hM (by decide) rfl ?_
      refine e_iload dX12_make_37 rfl ?_
      refine m_aldN (s) dX12_make_38 hM rfl (by decide) (by first | rfl | simp only [li_1, li_2, li_3, li_4, li_5, li_12, li_60, pk_mul, nI_add]) (by first | omega | (simp only [mLen]; omega)) (by decide) ?_
      refine m_astN (nD S) dX12_make_39 hM rfl (by decide) (by first | rfl | simp only [li_1, li_2, li_3, li_4, li_5, li_12, li_60, pk_mul, nI_add]) (by first | omega | (simp only [mLen]; omega)) (by decide) ?_
      refine e_aload dX12_make_40 rfl ?_
      refine e_push dX12_make_41 ?_
      refine m_put dX12_make_42 fp_X12_185 hM (by decide) rfl ?_
      refine e_aload dX12_make_45 rfl ?_
      refine e_push dX12_make_46 ?_
      refine m_put dX12_make_48 fp_X12_77 hM (by decide) rfl ?_
      refine e_push dX12_make_51 ?_
      refine e_istore dX12_make_52 ?_
      simp only [F_make, h4, h11, Bool.and_self, if_true, ts, tpl] at hq
      refine e_lvA (l1_X12_make (t := t) (pl := pl) (r := nD S) hM (pmN S s) 0 (mk0 S s) ⟨I.agr mk0_agr, rfl, by omega, fun _ p hp => absurd hp (by omega)⟩ (show _ = pmN S s by omega) (fun S2 h2 e2 => ?_)) ⟨rfl, rfl, rfl, rfl, rfl, trivial⟩
      have ecm : cmN S2 s = cmN S s := by rw [e2]; unfold cmN; rw [(mk1_s _ _ _).2]; rfl
      refine e_push dX12_make_108 ?_
      refine e_istore dX12_make_109 ?_
      exact e_lvA (l2_X12_make hM (by omega) (cmN S2 s) 0 S2 h2 (by omega) (by rw [ecm, e2]; exact hq)) ⟨rfl, rfl, rfl, rfl, rfl, trivial⟩
    · refine e_push dX12_make_14 ?_
      exact e_iretI dX12_make_15 rfl (qs hq (by first | (simp [F_make, h4]; done) | (simp [F_make, h11]; done))) (by decide) (by decide)
