set_option maxRecDepth 100000 in
set_option maxHeartbeats 4000000 in
theorem c_X12_in {b0 : Nat} {D : va_G} {dA : Nat → ClassId} {dm : Nat → Nat → Prop} {ad : Nat → Nat → Nat} {Q : PQ} {ct : Nat → Nat → va_E} (v lo hi : Int32) (hq : Q (some (.int (bI (inB v lo hi)))) dm ad ct) : Ct b0 D dA yX12_in cX12_in 3 (some .boolean) (Rm 0) [.int v, .int lo, .int hi] dm ad ct Q := by
  refine ct_of (by decide) (Nat.le_of_ble_eq_true rfl) ?_
  refine e_iload dX12_in_0 rfl ?_
  refine e_iload dX12_in_1 rfl ?_
  refine e_icmp_lt dX12_in_2 (fun h2 => ?_) (fun h2 => ?_)
  · refine e_push dX12_in_14 ?_
    exact e_iret dX12_in_15 rfl (by first | rfl | exact bI_n _) (qi hq (by first | (rw [inB_f1 (by assumption)]; rfl) | (rw [inB_f2 (by assumption)]; rfl) | (rw [inB_t (by assumption) (by assumption)]; rfl))) (by decide) (by decide)
  · refine e_iload dX12_in_5 rfl ?_
    refine e_iload dX12_in_6 rfl ?_
    refine e_icmp_gt dX12_in_7 (fun h7 => ?_) (fun h7 => ?_)
    · refine e_push dX12_in_14 ?_
      exact e_iret dX12_in_15 rfl (by first | rfl | exact bI_n _) (qi hq (by first | (rw [inB_f1 (by assumption)]; rfl) | (rw [inB_f2 (by assumption)]; rfl) | (rw [inB_t (by assumption) (by assumption)]; rfl))) (by decide) (by decide)
    · refine e_push dX12_in_10 ?_
      refine e_goto dX12_in_11 ?_
      exact e_iret dX12_in_15 rfl (by first | rfl | exact bI_n _) (qi hq (by first | (rw [inB_f1 (by assumption)]; rfl) | (rw [inB_f2 (by assumption)]; rfl) | (rw [inB_t (by assumption) (by assumption)]; rfl))) (by decide) (by decide)
set_option maxRecDepth 100000 in
set_option maxHeartbeats 4000000 in
theorem c_X12_isKind {b0 : Nat} {D : va_G} {dA : Nat → ClassId} {dm : Nat → Nat → Prop} {ad : Nat → Nat → Nat} {Q : PQ} {ct : Nat → Nat → va_E} (v : Int32) (hq : Q (some (.int (bI (inB v 0 5)))) dm ad ct) : Ct b0 D dA yX12_isKind cX12_isKind 1 (some .boolean) (Rm 1) [.int v] dm ad ct Q := by
  refine ct_of (by decide) (Nat.le_of_ble_eq_true rfl) ?_
  refine e_iload dX12_isKind_0 rfl ?_
  refine e_push dX12_isKind_1 ?_
  refine e_push dX12_isKind_2 ?_
  refine n_callS3 dX12_isKind_3 ca_X12_96  (c_X12_in _ _ _ ?_) 
  exact e_iret dX12_isKind_6 rfl (by first | rfl | exact bI_n _) hq (by decide) (by decide)
set_option maxRecDepth 100000 in
set_option maxHeartbeats 4000000 in
theorem c_X12_isPlace {b0 : Nat} {D : va_G} {dA : Nat → ClassId} {dm : Nat → Nat → Prop} {ad : Nat → Nat → Nat} {Q : PQ} {ct : Nat → Nat → va_E} (v : Int32) (hq : Q (some (.int (bI (inB v 0 9)))) dm ad ct) : Ct b0 D dA yX12_isPlace cX12_isPlace 1 (some .boolean) (Rm 1) [.int v] dm ad ct Q := by
  refine ct_of (by decide) (Nat.le_of_ble_eq_true rfl) ?_
  refine e_iload dX12_isPlace_0 rfl ?_
  refine e_push dX12_isPlace_1 ?_
  refine e_push dX12_isPlace_2 ?_
  refine n_callS3 dX12_isPlace_4 ca_X12_96  (c_X12_in _ _ _ ?_) 
  exact e_iret dX12_isPlace_7 rfl (by first | rfl | exact bI_n _) hq (by decide) (by decide)
set_option maxRecDepth 100000 in
set_option maxHeartbeats 4000000 in
theorem c_X12_isShape {b0 : Nat} {D : va_G} {dA : Nat → ClassId} {dm : Nat → Nat → Prop} {ad : Nat → Nat → Nat} {Q : PQ} {ct : Nat → Nat → va_E} (v : Int32) (hq : Q (some (.int (bI (inB v 0 5)))) dm ad ct) : Ct b0 D dA yX12_isShape cX12_isShape 1 (some .boolean) (Rm 1) [.int v] dm ad ct Q := by
  refine ct_of (by decide) (Nat.le_of_ble_eq_true rfl) ?_
  refine e_iload dX12_isShape_0 rfl ?_
  refine e_push dX12_isShape_1 ?_
  refine e_push dX12_isShape_2 ?_
  refine n_callS3 dX12_isShape_3 ca_X12_96  (c_X12_in _ _ _ ?_) 
  exact e_iret dX12_isShape_6 rfl (by first | rfl | exact bI_n _) hq (by decide) (by decide)
set_option maxRecDepth 100000 in
set_option maxHeartbeats 4000000 in
theorem c_X12_isConstant {b0 : Nat} {D : va_G} {dA : Nat → ClassId} {dm : Nat → Nat → Prop} {ad : Nat → Nat → Nat} {Q : PQ} {ct0 : Nat → Nat → va_E} {S : St} (hM : dmM dm) (c : Int32) (hq : Q (some (.int (bI (inB c 0 (S.1 0 - 1))))) dm ad (ctM dA ad ct0 S)) : Ct b0 D dA yX12_isConstant cX12_isConstant 2 (some .boolean) (Rm 1) [.ref (ad 16 0), .int c] dm ad (ctM dA ad ct0 S) Q := by
  refine ct_of (by decide) (Nat.le_of_ble_eq_true rfl) ?_
  refine e_iload dX12_isConstant_0 rfl ?_
  refine e_push dX12_isConstant_1 ?_
  refine e_aload dX12_isConstant_2 rfl ?_
  refine m_geti dX12_isConstant_3 fg_X12_93 hM (by decide) rfl ?_
  refine e_push dX12_isConstant_6 ?_
  refine e_isub dX12_isConstant_7 ?_
  refine n_callS3 dX12_isConstant_8 ca_X12_96  (c_X12_in _ _ _ ?_) 
  exact e_iret dX12_isConstant_11 rfl (by first | rfl | exact bI_n _) hq (by decide) (by decide)
set_option maxRecDepth 100000 in
set_option maxHeartbeats 4000000 in
theorem l_X12_byName {b0 : Nat} {D : va_G} {dA : Nat → ClassId} {dm : Nat → Nat → Prop} {ad : Nat → Nat → Nat} {Q : PQ} {ct0 : Nat → Nat → va_E} {S : St} (hM : dmM dm) (kind : Int32) (name : Int64) {N : Nat} (hC : S.1 0 = nI N) (hN : N ≤ 60) : ∀ k c, c + k = N → Q (some (.int (oI (fnd (byP S kind name) k c)))) dm ad (ctM dA ad ct0 S) → E b0 D dA yX12_byName cX12_byName 5 (some .int) (Rm 0) E0 (QFm b0 D dA (Rm 0) Q) 3 (lfA [some (.ref (ad 16 0)), some (.int kind), some (.long name), none, some (.int (nI c))]) [] dm ad (ctM dA ad ct0 S) 0 0 := by
  intro k
  induction k with
  | zero =>
    intro c hc hq
    refine e_iload dX12_byName_3 rfl ?_
    refine e_aload dX12_byName_5 rfl ?_
    refine m_geti dX12_byName_6 fg_X12_93 hM (by decide) rfl ?_
    refine e_icmp_ge dX12_byName_9 (fun h9 => ?_) (fun h9 => ?_)
    · refine e_push dX12_byName_44 ?_
      exact e_iretI dX12_byName_46 rfl hq (by decide) (by decide)
    · exact absurd (show S.1 0 ≤ nI c by rw [hC]; exact nI_le (by omega) (by omega)) h9
  | succ k ih =>
    intro c hc hq
    refine e_iload dX12_byName_3 rfl ?_
    refine e_aload dX12_byName_5 rfl ?_
    refine m_geti dX12_byName_6 fg_X12_93 hM (by decide) rfl ?_
    refine e_icmp_ge dX12_byName_9 (fun h9 => ?_) (fun h9 => ?_)
    · exact absurd h9 (by rw [hC]; exact nI_ge (by omega) (by omega))
    · refine e_aload dX12_byName_12 rfl ?_
      refine m_geta dX12_byName_13 fg_X12_7 hM (by decide) rfl ?_
      refine e_iload dX12_byName_16 rfl ?_
      refine m_aldN (c) dX12_byName_18 hM rfl (by decide) (by first | rfl | simp only [li_1, li_2, li_3, li_4, li_5, li_12, li_60, pk_mul, nI_add]) (by first | omega | (simp only [mLen]; omega)) (by decide) ?_
      refine e_iload dX12_byName_19 rfl ?_
      refine e_icmp_ne dX12_byName_20 (fun h20 => ?_) (fun h20 => ?_)
      · refine e_iinc dX12_byName_38 rfl (inc1 c) ?_
        refine e_goto dX12_byName_41 ?_
        exact e_lvA (ih (c + 1) (by omega) (by rw [fnd_f] at hq; exact hq; simp_all [byP])) ⟨rfl, rfl, rfl, rfl, trivial⟩
      · refine e_aload dX12_byName_23 rfl ?_
        refine m_geta dX12_byName_24 fg_X12_13 hM (by decide) rfl ?_
        refine e_iload dX12_byName_27 rfl ?_
        refine m_lldN (c) dX12_byName_29 hM (by first | rfl | simp only [li_1, li_2, li_3, li_4, li_5, li_12, li_60, pk_mul, nI_add]) (by first | omega | (simp only [mLen]; omega)) ?_
        refine e_lload dX12_byName_30 rfl ?_
        refine e_lcmp dX12_byName_31 ?_
        refine e_if_ne dX12_byName_32 (fun h32 => ?_) (fun h32 => ?_)
        · have h32 := lcmp_ne h32
          refine e_iinc dX12_byName_38 rfl (inc1 c) ?_
          refine e_goto dX12_byName_41 ?_
          exact e_lvA (ih (c + 1) (by omega) (by rw [fnd_f] at hq; exact hq; simp_all [byP])) ⟨rfl, rfl, rfl, rfl, trivial⟩
        · have h32 := lcmp_eq h32
          refine e_iload dX12_byName_35 rfl ?_
          exact e_iretI dX12_byName_37 rfl (by rw [fnd_t] at hq; exact hq; simp_all [byP]) (by decide) (by decide)
set_option maxRecDepth 100000 in
set_option maxHeartbeats 4000000 in
theorem c_X12_byName {b0 : Nat} {D : va_G} {dA : Nat → ClassId} {dm : Nat → Nat → Prop} {ad : Nat → Nat → Nat} {Q : PQ} {ct0 : Nat → Nat → va_E} {S : St} (hM : dmM dm) (kind : Int32) (name : Int64) {N : Nat} (hC : S.1 0 = nI N) (hN : N ≤ 60) (hq : Q (some (.int (oI (fnd (byP S kind name) N 0)))) dm ad (ctM dA ad ct0 S)) : Ct b0 D dA yX12_byName cX12_byName 5 (some .int) (Rm 0) [.ref (ad 16 0), .int kind, .long name] dm ad (ctM dA ad ct0 S) Q := by
  refine ct_of (by decide) (Nat.le_of_ble_eq_true rfl) ?_
  refine e_push dX12_byName_0 ?_
  refine e_istore dX12_byName_1 ?_
  exact e_lvA (l_X12_byName hM kind name hC hN N 0 (by omega) hq) ⟨rfl, rfl, rfl, rfl, trivial⟩
