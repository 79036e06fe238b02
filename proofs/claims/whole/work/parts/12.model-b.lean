set_option maxRecDepth 100000 in
set_option maxHeartbeats 4000000 in
theorem l_X12_orderOf {b0 : Nat} {D : va_G} {dA : Nat → ClassId} {dm : Nat → Nat → Prop} {ad : Nat → Nat → Nat} {Q : PQ} {ct0 : Nat → Nat → va_E} {S : St} (hM : dmM dm) {c bd b m : Nat} (hb : b < 18) (hm : S.2.1 6 b = nI m) (hm60 : m ≤ 60) : ∀ k i, i + k = m → Q (some (.int (oI (fnd (orP S b (nI c)) k i)))) dm ad (ctM dA ad ct0 S) → E b0 D dA yX12_orderOf cX12_orderOf 5 (some .int) (Rm 0) E0 (QFm b0 D dA (Rm 0) Q) 14 (lfA [some (.ref (ad 16 0)), some (.int (nI c)), some (.int (nI bd)), some (.int (nI b)), some (.int (nI i))]) [] dm ad (ctM dA ad ct0 S) 0 0 := by
  intro k
  induction k with
  | zero =>
    intro i hi hq
    refine e_iload dX12_orderOf_14 rfl ?_
    refine e_aload dX12_orderOf_16 rfl ?_
    refine m_geta dX12_orderOf_17 fg_X12_26 hM (by decide) rfl ?_
    refine e_iload dX12_orderOf_20 rfl ?_
    refine m_aldN (b) dX12_orderOf_21 hM rfl (by decide) (by first | rfl | simp only [li_1, li_2, li_3, li_4, li_5, li_12, li_60, pk_mul, nI_add]) (by first | omega | (simp only [mLen]; omega)) (by decide) ?_
    refine e_topi hm ?_
    refine e_icmp_ge dX12_orderOf_22 (fun h22 => ?_) (fun h22 => ?_)
    · refine e_push dX12_orderOf_50 ?_
      exact e_iretI dX12_orderOf_52 rfl hq (by decide) (by decide)
    · exact absurd (nI_le (by omega) (by omega)) h22
  | succ k ih =>
    intro i hi hq
    refine e_iload dX12_orderOf_14 rfl ?_
    refine e_aload dX12_orderOf_16 rfl ?_
    refine m_geta dX12_orderOf_17 fg_X12_26 hM (by decide) rfl ?_
    refine e_iload dX12_orderOf_20 rfl ?_
    refine m_aldN (b) dX12_orderOf_21 hM rfl (by decide) (by first | rfl | simp only [li_1, li_2, li_3, li_4, li_5, li_12, li_60, pk_mul, nI_add]) (by first | omega | (simp only [mLen]; omega)) (by decide) ?_
    refine e_topi hm ?_
    refine e_icmp_ge dX12_orderOf_22 (fun h22 => ?_) (fun h22 => ?_)
    · exact absurd h22 (nI_ge (by omega) (by omega))
    · refine e_aload dX12_orderOf_25 rfl ?_
      refine m_geta dX12_orderOf_26 fg_X12_29 hM (by decide) rfl ?_
      refine e_push dX12_orderOf_29 ?_
      refine e_iload dX12_orderOf_31 rfl ?_
      refine e_imul dX12_orderOf_32 ?_
      refine e_iload dX12_orderOf_33 rfl ?_
      refine e_iadd dX12_orderOf_35 ?_
      refine m_aldN (60 * b + i) dX12_orderOf_36 hM rfl (by decide) (by first | rfl | simp only [li_1, li_2, li_3, li_4, li_5, li_12, li_60, pk_mul, nI_add]) (by first | omega | (simp only [mLen]; omega)) (by decide) ?_
      refine e_iload dX12_orderOf_37 rfl ?_
      refine e_icmp_ne dX12_orderOf_38 (fun h38 => ?_) (fun h38 => ?_)
      · refine e_iinc dX12_orderOf_44 rfl (inc1 i) ?_
        refine e_goto dX12_orderOf_47 ?_
        exact e_lvA (ih (i + 1) (by omega) (by rw [fnd_f (decide_eq_false h38)] at hq; exact hq)) ⟨rfl, rfl, rfl, rfl, rfl, trivial⟩
      · refine e_iload dX12_orderOf_41 rfl ?_
        exact e_iretI dX12_orderOf_43 rfl (by rw [fnd_t (decide_eq_true h38)] at hq; exact hq) (by decide) (by decide)
set_option maxRecDepth 100000 in
set_option maxHeartbeats 4000000 in
theorem c_X12_orderOf {b0 : Nat} {D : va_G} {dA : Nat → ClassId} {dm : Nat → Nat → Prop} {ad : Nat → Nat → Nat} {Q : PQ} {ct0 : Nat → Nat → va_E} {S : St} (hM : dmM dm) {c k bd b m : Nat} (hc : c < 60) (hk : S.2.1 1 c = nI k) (hbe : b = 3 * k + bd) (hb : b < 18) (hm : S.2.1 6 b = nI m) (hm60 : m ≤ 60) (hq : Q (some (.int (oI (fnd (orP S b (nI c)) m 0)))) dm ad (ctM dA ad ct0 S)) : Ct b0 D dA yX12_orderOf cX12_orderOf 5 (some .int) (Rm 0) [.ref (ad 16 0), .int (nI c), .int (nI bd)] dm ad (ctM dA ad ct0 S) Q := by
  refine ct_of (by decide) (Nat.le_of_ble_eq_true rfl) ?_
  refine e_push dX12_orderOf_0 ?_
  refine e_aload dX12_orderOf_1 rfl ?_
  refine m_geta dX12_orderOf_2 fg_X12_7 hM (by decide) rfl ?_
  refine e_iload dX12_orderOf_5 rfl ?_
  refine m_aldN (c) dX12_orderOf_6 hM rfl (by decide) (by first | rfl | simp only [li_1, li_2, li_3, li_4, li_5, li_12, li_60, pk_mul, nI_add]) (by first | omega | (simp only [mLen]; omega)) (by decide) ?_
  refine e_topi hk ?_
  refine e_imul dX12_orderOf_7 ?_
  refine e_iload dX12_orderOf_8 rfl ?_
  refine e_iadd dX12_orderOf_9 ?_
  refine e_topi (show _ = nI b by rw [hbe]; simp only [li_3, pk_mul, nI_add]) ?_
  refine e_istore dX12_orderOf_10 ?_
  refine e_push dX12_orderOf_11 ?_
  refine e_istore dX12_orderOf_12 ?_
  exact e_lvA (l_X12_orderOf hM hb hm hm60 m 0 (by omega) hq) ⟨rfl, rfl, rfl, rfl, rfl, trivial⟩
set_option maxRecDepth 100000 in
set_option maxHeartbeats 4000000 in
theorem c_X12_append {b0 : Nat} {D : va_G} {dA : Nat → ClassId} {dm : Nat → Nat → Prop} {ad : Nat → Nat → Nat} {Q : PQ} {ct0 : Nat → Nat → va_E} {S : St} (hM : dmM dm) {c k bd b m : Nat} (hc : c < 60) (hk : S.2.1 1 c = nI k) (hbe : b = 3 * k + bd) (hb : b < 18) (hm : S.2.1 6 b = nI m) (hm60 : m < 60) (hq : Q (some (.int (nI m))) dm ad (ctM dA ad ct0 (apS S b m (nI c)))) : Ct b0 D dA yX12_append cX12_append 4 (some .int) (Rm 0) [.ref (ad 16 0), .int (nI c), .int (nI bd)] dm ad (ctM dA ad ct0 S) Q := by
  refine ct_of (by decide) (Nat.le_of_ble_eq_true rfl) ?_
  refine e_push dX12_append_0 ?_
  refine e_aload dX12_append_1 rfl ?_
  refine m_geta dX12_append_2 fg_X12_7 hM (by decide) rfl ?_
  refine e_iload dX12_append_5 rfl ?_
  refine m_aldN (c) dX12_append_6 hM rfl (by decide) (by first | rfl | simp only [li_1, li_2, li_3, li_4, li_5, li_12, li_60, pk_mul, nI_add]) (by first | omega | (simp only [mLen]; omega)) (by decide) ?_
  refine e_topi hk ?_
  refine e_imul dX12_append_7 ?_
  refine e_iload dX12_append_8 rfl ?_
  refine e_iadd dX12_append_9 ?_
  refine e_topi (show _ = nI b by rw [hbe]; simp only [li_3, pk_mul, nI_add]) ?_
  refine e_istore dX12_append_10 ?_
  refine e_aload dX12_append_11 rfl ?_
  refine m_geta dX12_append_12 fg_X12_29 hM (by decide) rfl ?_
  refine e_push dX12_append_15 ?_
  refine e_iload dX12_append_17 rfl ?_
  refine e_imul dX12_append_18 ?_
  refine e_aload dX12_append_19 rfl ?_
  refine m_geta dX12_append_20 fg_X12_26 hM (by decide) rfl ?_
  refine e_iload dX12_append_23 rfl ?_
  refine m_aldN (b) dX12_append_24 hM rfl (by decide) (by first | rfl | simp only [li_1, li_2, li_3, li_4, li_5, li_12, li_60, pk_mul, nI_add]) (by first | omega | (simp only [mLen]; omega)) (by decide) ?_
  refine e_topi hm ?_
  refine e_iadd dX12_append_25 ?_
  refine e_iload dX12_append_26 rfl ?_
  refine m_astN (60 * b + m) dX12_append_27 hM rfl (by decide) (by first | rfl | simp only [li_1, li_2, li_3, li_4, li_5, li_12, li_60, pk_mul, nI_add]) (by first | omega | (simp only [mLen]; omega)) (by decide) ?_
  refine e_aload dX12_append_28 rfl ?_
  refine m_geta dX12_append_29 fg_X12_26 hM (by decide) rfl ?_
  refine e_iload dX12_append_32 rfl ?_
  refine e_dup2 dX12_append_33 ?_
  refine m_aldN (b) dX12_append_34 hM rfl (by decide) (by first | rfl | simp only [li_1, li_2, li_3, li_4, li_5, li_12, li_60, pk_mul, nI_add]) (by first | omega | (simp only [mLen]; omega)) (by decide) ?_
  refine e_topi hm ?_
  refine e_push dX12_append_35 ?_
  refine e_iadd dX12_append_36 ?_
  refine e_topi (nI_1 m) ?_
  refine m_astN (b) dX12_append_37 hM rfl (by decide) (by first | rfl | simp only [li_1, li_2, li_3, li_4, li_5, li_12, li_60, pk_mul, nI_add]) (by first | omega | (simp only [mLen]; omega)) (by decide) ?_
  refine e_aload dX12_append_38 rfl ?_
  refine m_geta dX12_append_39 fg_X12_26 hM (by decide) rfl ?_
  refine e_iload dX12_append_42 rfl ?_
  refine m_aldN (b) dX12_append_43 hM rfl (by decide) (by first | rfl | simp only [li_1, li_2, li_3, li_4, li_5, li_12, li_60, pk_mul, nI_add]) (by first | omega | (simp only [mLen]; omega)) (by decide) ?_
  refine e_topi (u2_s (f := u2 S.2.1 7 (60 * b + m) (nI c)) (k := 6) (i := b)) ?_
  refine e_push dX12_append_44 ?_
  refine e_isub dX12_append_45 ?_
  exact e_iretI dX12_append_46 rfl (qi hq (nI_pred m)) (by decide) (by decide)
theorem pigeon : ∀ (n m : Nat) (f : Nat → Nat), (∀ i, i < m → f i < n) → (∀ i j, i < m → j < m → f i = f j → i = j) → m ≤ n := by
  intro n
  induction n with
  | zero =>
    intro m f h _
    rcases Nat.eq_zero_or_pos m with z | z
    · omega
    · exact absurd (h 0 z) (Nat.not_lt_zero _)
  | succ n ih =>
    intro m f h inj
    by_cases hx : ∃ i, i < m ∧ f i = n
    · obtain ⟨i0, h0, e0⟩ := hx
      have := ih (m - 1) (fun i => if i < i0 then f i else f (i + 1)) (fun i hi => by
        show (if i < i0 then f i else f (i + 1)) < n
        split
        · rename_i hl
          have a := h i (by omega)
          have b : f i ≠ n := fun e => by have := inj i i0 (by omega) h0 (e.trans e0.symm); omega
          omega
        · rename_i hl
          have a := h (i + 1) (by omega)
          have b : f (i + 1) ≠ n := fun e => by have := inj (i + 1) i0 (by omega) h0 (e.trans e0.symm); omega
          omega) (fun i j hi hj e => by
        have e : (if i < i0 then f i else f (i + 1)) = (if j < i0 then f j else f (j + 1)) := e
        by_cases h1 : i < i0
        · by_cases h2 : j < i0
          · rw [if_pos h1, if_pos h2] at e; exact inj i j (by omega) (by omega) e
          · rw [if_pos h1, if_neg h2] at e; have := inj i (j + 1) (by omega) (by omega) e; omega
        · by_cases h2 : j < i0
          · rw [if_neg h1, if_pos h2] at e; have := inj (i + 1) j (by omega) (by omega) e; omega
          · rw [if_neg h1, if_neg h2] at e; have := inj (i + 1) (j + 1) (by omega) (by omega) e; omega)
      omega
    · have := ih m f (fun i hi => by
        have a := h i hi
        have b : f i ≠ n := fun e => hx ⟨i, hi, e⟩
        omega) inj
      omega
set_option maxRecDepth 100000 in
set_option maxHeartbeats 4000000 in
theorem ap_lt {S : St} {t c b : Nat} (I : Inv S t) (hc : c < nC S) (hb : b < 18) (hf : ∀ i, i < mb S b → bc S b i ≠ c) : mb S b < nC S := by
  obtain ⟨hm, hmC, hbi, hbj⟩ := I.2.1 b hb
  have := pigeon (nC S) (mb S b + 1) (fun i => if i < mb S b then bc S b i else c) (fun i hi => by
    show (if i < mb S b then bc S b i else c) < nC S
    split
    · rename_i h; exact (hbi i h).2.1
    · exact hc) (fun i j hi hj e => by
    have e : (if i < mb S b then bc S b i else c) = (if j < mb S b then bc S b j else c) := e
    by_cases h1 : i < mb S b
    · by_cases h2 : j < mb S b
      · rw [if_pos h1, if_pos h2] at e; exact hbj i j h1 h2 e
      · rw [if_pos h1, if_neg h2] at e; exact absurd e (hf i h1)
    · by_cases h2 : j < mb S b
      · rw [if_neg h1, if_pos h2] at e; exact absurd e.symm (hf j h2)
      · omega)
  omega
set_option maxRecDepth 100000 in
set_option maxHeartbeats 4000000 in
theorem c_X12_arrange {b0 : Nat} {D : va_G} {dA : Nat → ClassId} {dm : Nat → Nat → Prop} {ad : Nat → Nat → Nat} {Q : PQ} {ct0 : Nat → Nat → va_E} {S : St} (hM : dmM dm) {t : Nat} (I : Inv S t) (c bd : Int32) (hq : Q (some (.int (F_arrange S c bd).1)) dm ad (ctM dA ad ct0 (F_arrange S c bd).2)) : Ct b0 D dA yX12_arrange cX12_arrange 3 (some .int) (Rm 2) [.ref (ad 16 0), .int c, .int bd] dm ad (ctM dA ad ct0 S) Q := by
  refine ct_of (by decide) (Nat.le_of_ble_eq_true rfl) ?_
  refine e_aload dX12_arrange_0 rfl ?_
  refine e_iload dX12_arrange_1 rfl ?_
  refine n_callV1 dX12_arrange_2 ca_X12_116 hM.1 ctM_o (c_X12_isConstant hM _ ?_) 
  refine e_if_eqB dX12_arrange_5 (fun h5 => ?_) (fun h5 => ?_)
  · refine e_push dX12_arrange_26 ?_
    exact e_iretI dX12_arrange_27 rfl (qs hq (by first | (simp [F_arrange, isC, h5]; done) | (simp [F_arrange, isC, h14]; done) | (simp [F_arrange, isC, h5, h14, tc, tbd, hf]; done))) (by decide) (by decide)
  · have h60 := I.1.2.1
    have e0 := I.1.1
    obtain ⟨c, hc, rfl⟩ := inB_n (N := nC S) (by omega) (by rw [← e0]; exact h5)
    have tc : tN (nI c) = c := tN_n (by omega)
    obtain ⟨hk, hk6, hbo, hw, hw1⟩ := I.1.2.2.1 c hc
    refine e_iload dX12_arrange_8 rfl ?_
    refine e_push dX12_arrange_9 ?_
    refine e_push dX12_arrange_10 ?_
    refine n_callS3 dX12_arrange_11 ca_X12_96  (c_X12_in _ _ _ ?_) 
    refine e_if_eqB dX12_arrange_14 (fun h14 => ?_) (fun h14 => ?_)
    · refine e_push dX12_arrange_26 ?_
      exact e_iretI dX12_arrange_27 rfl (qs hq (by first | (simp [F_arrange, isC, h5]; done) | (simp [F_arrange, isC, h14]; done) | (simp [F_arrange, isC, h5, h14, tc, tbd, hf]; done))) (by decide) (by decide)
    · obtain ⟨bd, bd1, bd2, rfl⟩ := inB_l (a := 1) (b := 2) rfl rfl (by decide) (by decide) h14
      have tbd : tN (nI bd) = bd := tN_n (by omega)
      obtain ⟨hm, hmC, hbi, hbj⟩ := I.2.1 (3 * kN S c + bd) (by omega)
      refine e_aload dX12_arrange_17 rfl ?_
      refine e_iload dX12_arrange_18 rfl ?_
      refine e_iload dX12_arrange_19 rfl ?_
      refine n_callV2 dX12_arrange_20 ca_X12_119 hM.1 ctM_o (c_X12_orderOf hM (by omega) hk rfl (by omega) hm (by omega) ?_) 
      refine e_if_lt dX12_arrange_23 (fun h23 => ?_) (fun h23 => ?_)
      · have hf : fnd (orP S (3 * kN S c + bd) (nI c)) (mb S (3 * kN S c + bd)) 0 = none := by
          cases hf : fnd (orP S (3 * kN S c + bd) (nI c)) (mb S (3 * kN S c + bd)) 0 with
          | none => rfl
          | some j => rw [hf] at h23; exact absurd h23 (nI_pos (by have := fnd_lt hf; omega))
        have hlt : mb S (3 * kN S c + bd) < nC S := ap_lt I hc (by omega) (fun i hi e => by have := fnd_none hf i (Nat.zero_le _) (by omega); rw [orP, (hbi i hi).1, e] at this; simp at this)
        refine e_aload dX12_arrange_28 rfl ?_
        refine e_iload dX12_arrange_29 rfl ?_
        refine e_iload dX12_arrange_30 rfl ?_
        refine n_callV2 dX12_arrange_31 ca_X12_112 hM.1 ctM_o (c_X12_append hM (by omega) hk rfl (by omega) hm (by omega) ?_) 
        exact e_iretI dX12_arrange_34 rfl (qs hq (by simp [F_arrange, isC, h5, h14, tc, tbd, hf])) (by decide) (by decide)
      · obtain ⟨j, hf⟩ : ∃ j, fnd (orP S (3 * kN S c + bd) (nI c)) (mb S (3 * kN S c + bd)) 0 = some j := by
          cases hf : fnd (orP S (3 * kN S c + bd) (nI c)) (mb S (3 * kN S c + bd)) 0 with
          | none => rw [hf] at h23; exact absurd (by decide) h23
          | some j => exact ⟨j, rfl⟩
        refine e_push dX12_arrange_26 ?_
        exact e_iretI dX12_arrange_27 rfl (qs hq (by first | (simp [F_arrange, isC, h5]; done) | (simp [F_arrange, isC, h14]; done) | (simp [F_arrange, isC, h5, h14, tc, tbd, hf]; done))) (by decide) (by decide)
set_option maxRecDepth 100000 in
set_option maxHeartbeats 4000000 in
theorem c_X12_drawOf {b0 : Nat} {D : va_G} {dA : Nat → ClassId} {dm : Nat → Nat → Prop} {ad : Nat → Nat → Nat} {Q : PQ} {ct : Nat → Nat → va_E} (seed : Int64) (n : Int32) (hq : Q (some (.long (drw seed n))) dm ad ct) : Ct b0 D dA yX12_drawOf cX12_drawOf 5 (some .long) (Rm 0) [.long seed, .int n] dm ad ct Q := by
  refine ct_of (by decide) (Nat.le_of_ble_eq_true rfl) ?_
  refine e_lload dX12_drawOf_0 rfl ?_
  refine e_iload dX12_drawOf_1 rfl ?_
  refine e_i2l dX12_drawOf_2 ?_
  refine e_lconst dX12_drawOf_3 rfl ?_
  refine e_ladd dX12_drawOf_4 ?_
  refine e_ldc2 dX12_drawOf_5 kw_X12_122 ?_
  refine e_lmul dX12_drawOf_8 ?_
  refine e_ladd dX12_drawOf_9 ?_
  refine e_lstore dX12_drawOf_10 ?_
  refine e_lload dX12_drawOf_11 rfl ?_
  refine e_lload dX12_drawOf_12 rfl ?_
  refine e_push dX12_drawOf_13 ?_
  refine e_lushr dX12_drawOf_15 ?_
  refine e_lxor dX12_drawOf_16 ?_
  refine e_ldc2 dX12_drawOf_17 kw_X12_124 ?_
  refine e_lmul dX12_drawOf_20 ?_
  refine e_lstore dX12_drawOf_21 ?_
  refine e_lload dX12_drawOf_22 rfl ?_
  refine e_lload dX12_drawOf_23 rfl ?_
  refine e_push dX12_drawOf_24 ?_
  refine e_lushr dX12_drawOf_26 ?_
  refine e_lxor dX12_drawOf_27 ?_
  refine e_ldc2 dX12_drawOf_28 kw_X12_126 ?_
  refine e_lmul dX12_drawOf_31 ?_
  refine e_lstore dX12_drawOf_32 ?_
  refine e_lload dX12_drawOf_33 rfl ?_
  refine e_lload dX12_drawOf_34 rfl ?_
  refine e_push dX12_drawOf_35 ?_
  refine e_lushr dX12_drawOf_37 ?_
  refine e_lxor dX12_drawOf_38 ?_
  exact e_lret dX12_drawOf_39 rfl hq (by decide) (by decide)
set_option maxRecDepth 100000 in
set_option maxHeartbeats 4000000 in
theorem c_X12_modulo {b0 : Nat} {D : va_G} {dA : Nat → ClassId} {dm : Nat → Nat → Prop} {ad : Nat → Nat → Nat} {Q : PQ} {ct : Nat → Nat → va_E} (z : Int64) (n : Int32) (hn : ¬ n.toInt64 = 0) (hq : Q (some (.int (mdl z n))) dm ad ct) : Ct b0 D dA yX12_modulo cX12_modulo 3 (some .int) (Rm 0) [.long z, .int n] dm ad ct Q := by
  refine ct_of (by decide) (Nat.le_of_ble_eq_true rfl) ?_
  refine e_lload dX12_modulo_0 rfl ?_
  refine e_push dX12_modulo_1 ?_
  refine e_lushr dX12_modulo_2 ?_
  refine e_iload dX12_modulo_3 rfl ?_
  refine e_i2l dX12_modulo_4 ?_
  refine e_lrem dX12_modulo_5 hn ?_
  refine e_ldc2 dX12_modulo_6 kw_X12_128 ?_
  refine e_lmul dX12_modulo_9 ?_
  refine e_lload dX12_modulo_10 rfl ?_
  refine e_lconst dX12_modulo_11 rfl ?_
  refine e_land dX12_modulo_12 ?_
  refine e_ladd dX12_modulo_13 ?_
  refine e_iload dX12_modulo_14 rfl ?_
  refine e_i2l dX12_modulo_15 ?_
  refine e_lrem dX12_modulo_16 hn ?_
  refine e_l2i dX12_modulo_17 ?_
  exact e_iretI dX12_modulo_18 rfl hq (by decide) (by decide)
set_option maxRecDepth 100000 in
set_option maxHeartbeats 4000000 in
theorem c_X12_kind {b0 : Nat} {D : va_G} {dA : Nat → ClassId} {dm : Nat → Nat → Prop} {ad : Nat → Nat → Nat} {Q : PQ} {ct0 : Nat → Nat → va_E} {S : St} (hM : dmM dm) {t : Nat} (I : Inv S t) (kind bd i : Int32) (hq : Q (some (.int (F_kind S kind bd i))) dm ad (ctM dA ad ct0 S)) : Ct b0 D dA yX12_kind cX12_kind 5 (some .int) (Rm 2) [.ref (ad 16 0), .int kind, .int bd, .int i] dm ad (ctM dA ad ct0 S) Q := by
  refine ct_of (by decide) (Nat.le_of_ble_eq_true rfl) ?_
  refine e_iload dX12_kind_0 rfl ?_
  refine n_callS1 dX12_kind_1 ca_X12_100  (c_X12_isKind _ ?_) 
  refine e_if_eqB dX12_kind_4 (fun h4 => ?_) (fun h4 => ?_)
  · refine e_push dX12_kind_16 ?_
    exact e_iretI dX12_kind_17 rfl (qi hq (by first | (simp [F_kind, h4]; done) | (simp [F_kind, h13]; done))) (by decide) (by decide)
  · obtain ⟨kind, kind1, kind2, rfl⟩ := inB_l (a := 0) (b := 5) rfl rfl (by decide) (by decide) h4
    have tkind : tN (nI kind) = kind := tN_n (by omega)
    refine e_iload dX12_kind_7 rfl ?_
    refine e_push dX12_kind_8 ?_
    refine e_push dX12_kind_9 ?_
    refine n_callS3 dX12_kind_10 ca_X12_96  (c_X12_in _ _ _ ?_) 
    refine e_if_neB dX12_kind_13 (fun h13 => ?_) (fun h13 => ?_)
    · obtain ⟨bd, bd1, bd2, rfl⟩ := inB_l (a := 0) (b := 2) rfl rfl (by decide) (by decide) h13
      have tbd : tN (nI bd) = bd := tN_n (by omega)
      obtain ⟨hm, hmC, hbi, hbj⟩ := I.2.1 (3 * kind + bd) (by omega)
      have h60 := I.1.2.1
      refine e_push dX12_kind_18 ?_
      refine e_iload dX12_kind_19 rfl ?_
      refine e_imul dX12_kind_20 ?_
      refine e_iload dX12_kind_21 rfl ?_
      refine e_iadd dX12_kind_22 ?_
      refine e_topi (show _ = nI (3 * kind + bd) by simp only [li_1, li_2, li_3, li_4, li_5, li_12, li_60, pk_mul, nI_add]) ?_
      refine e_istore dX12_kind_23 ?_
      refine e_iload dX12_kind_25 rfl ?_
      refine e_push dX12_kind_26 ?_
      refine e_icmp_ne dX12_kind_28 (fun h28 => ?_) (fun h28 => ?_)
      · refine e_iload dX12_kind_41 rfl ?_
        refine e_push dX12_kind_42 ?_
        refine e_aload dX12_kind_43 rfl ?_
        refine m_geta dX12_kind_44 fg_X12_26 hM (by decide) rfl ?_
        refine e_iload dX12_kind_47 rfl ?_
        refine m_aldN (3 * kind + bd) dX12_kind_49 hM rfl (by decide) (by first | rfl | simp only [li_1, li_2, li_3, li_4, li_5, li_12, li_60, pk_mul, nI_add]) (by first | omega | (simp only [mLen]; omega)) (by decide) ?_
        refine e_push dX12_kind_50 ?_
        refine e_isub dX12_kind_51 ?_
        refine n_callS3 dX12_kind_52 ca_X12_96  (c_X12_in _ _ _ ?_) 
        refine e_if_eqB dX12_kind_55 (fun h55 => ?_) (fun h55 => ?_)
        · refine e_push dX12_kind_73 ?_
          exact e_iretI dX12_kind_74 rfl (qi hq (by first | (simp [F_kind, h4, h13, tkind, tbd, h28, h55]; done) | (simp [F_kind, h4, h13, tkind, tbd, h28, hm, h55, ti]; done) | (simp [F_kind, h4, h13, tkind, tbd, h28]; done))) (by decide) (by decide)
        · rw [hm] at h55
          obtain ⟨i, hi, rfl⟩ := inB_n (by omega) h55
          have ti : tN (nI i) = i := tN_n (by omega)
          refine e_aload dX12_kind_58 rfl ?_
          refine m_geta dX12_kind_59 fg_X12_29 hM (by decide) rfl ?_
          refine e_push dX12_kind_62 ?_
          refine e_iload dX12_kind_64 rfl ?_
          refine e_imul dX12_kind_66 ?_
          refine e_iload dX12_kind_67 rfl ?_
          refine e_iadd dX12_kind_68 ?_
          refine m_aldN (60 * (3 * kind + bd) + i) dX12_kind_69 hM rfl (by decide) (by first | rfl | simp only [li_1, li_2, li_3, li_4, li_5, li_12, li_60, pk_mul, nI_add]) (by first | omega | (simp only [mLen]; omega)) (by decide) ?_
          refine e_goto dX12_kind_70 ?_
          exact e_iretI dX12_kind_74 rfl (qi hq (by first | (simp [F_kind, h4, h13, tkind, tbd, h28, h55]; done) | (simp [F_kind, h4, h13, tkind, tbd, h28, hm, h55, ti]; done) | (simp [F_kind, h4, h13, tkind, tbd, h28]; done))) (by decide) (by decide)
      · refine e_aload dX12_kind_31 rfl ?_
        refine m_geta dX12_kind_32 fg_X12_26 hM (by decide) rfl ?_
        refine e_iload dX12_kind_35 rfl ?_
        refine m_aldN (3 * kind + bd) dX12_kind_37 hM rfl (by decide) (by first | rfl | simp only [li_1, li_2, li_3, li_4, li_5, li_12, li_60, pk_mul, nI_add]) (by first | omega | (simp only [mLen]; omega)) (by decide) ?_
        refine e_goto dX12_kind_38 ?_
        exact e_iretI dX12_kind_74 rfl (qi hq (by first | (simp [F_kind, h4, h13, tkind, tbd, h28, h55]; done) | (simp [F_kind, h4, h13, tkind, tbd, h28, hm, h55, ti]; done) | (simp [F_kind, h4, h13, tkind, tbd, h28]; done))) (by decide) (by decide)
    · refine e_push dX12_kind_16 ?_
      exact e_iretI dX12_kind_17 rfl (qi hq (by first | (simp [F_kind, h4]; done) | (simp [F_kind, h13]; done))) (by decide) (by decide)
set_option maxRecDepth 100000 in
set_option maxHeartbeats 4000000 in
theorem c_X12_named {b0 : Nat} {D : va_G} {dA : Nat → ClassId} {dm : Nat → Nat → Prop} {ad : Nat → Nat → Nat} {Q : PQ} {ct0 : Nat → Nat → va_E} {S : St} (hM : dmM dm) {t : Nat} (I : Inv S t) (kind : Int32) (name : Int64) (hq : Q (some (.int (F_named S kind name))) dm ad (ctM dA ad ct0 S)) : Ct b0 D dA yX12_named cX12_named 4 (some .int) (Rm 2) [.ref (ad 16 0), .int kind, .long name] dm ad (ctM dA ad ct0 S) Q := by
  refine ct_of (by decide) (Nat.le_of_ble_eq_true rfl) ?_
  refine e_iload dX12_named_0 rfl ?_
  refine n_callS1 dX12_named_1 ca_X12_100  (c_X12_isKind _ ?_) 
  refine e_if_eqB dX12_named_4 (fun h4 => ?_) (fun h4 => ?_)
  · refine e_push dX12_named_16 ?_
    exact e_iretI dX12_named_17 rfl (qi hq (by simp [F_named, h4])) (by decide) (by decide)
  · refine e_aload dX12_named_7 rfl ?_
    refine e_iload dX12_named_8 rfl ?_
    refine e_lload dX12_named_9 rfl ?_
    refine n_callV2 dX12_named_10 ca_X12_108 hM.1 ctM_o (c_X12_byName hM _ _ I.1.1 I.1.2.1 ?_) 
    refine e_goto dX12_named_13 ?_
    exact e_iretI dX12_named_17 rfl (qi hq (by simp [F_named, h4])) (by decide) (by decide)
set_option maxRecDepth 100000 in
set_option maxHeartbeats 4000000 in
theorem c_X12_order {b0 : Nat} {D : va_G} {dA : Nat → ClassId} {dm : Nat → Nat → Prop} {ad : Nat → Nat → Nat} {Q : PQ} {ct0 : Nat → Nat → va_E} {S : St} (hM : dmM dm) {t : Nat} (I : Inv S t) (c bd : Int32) (hq : Q (some (.int (F_order S c bd))) dm ad (ctM dA ad ct0 S)) : Ct b0 D dA yX12_order cX12_order 3 (some .int) (Rm 2) [.ref (ad 16 0), .int c, .int bd] dm ad (ctM dA ad ct0 S) Q := by
  refine ct_of (by decide) (Nat.le_of_ble_eq_true rfl) ?_
  refine e_aload dX12_order_0 rfl ?_
  refine e_iload dX12_order_1 rfl ?_
  refine n_callV1 dX12_order_2 ca_X12_116 hM.1 ctM_o (c_X12_isConstant hM _ ?_) 
  refine e_if_eqB dX12_order_5 (fun h5 => ?_) (fun h5 => ?_)
  · refine e_push dX12_order_26 ?_
    exact e_iretI dX12_order_27 rfl (qi hq (by first | (simp [F_order, isC, h5]; done) | (simp [F_order, isC, h14]; done) | (simp [F_order, isC, h5, h14, tc, tbd]; done))) (by decide) (by decide)
  · have h60 := I.1.2.1
    have e0 := I.1.1
    obtain ⟨c, hc, rfl⟩ := inB_n (N := nC S) (by omega) (by rw [← e0]; exact h5)
    have tc : tN (nI c) = c := tN_n (by omega)
    obtain ⟨hk, hk6, hbo, hw, hw1⟩ := I.1.2.2.1 c hc
    refine e_iload dX12_order_8 rfl ?_
    refine e_push dX12_order_9 ?_
    refine e_push dX12_order_10 ?_
    refine n_callS3 dX12_order_11 ca_X12_96  (c_X12_in _ _ _ ?_) 
    refine e_if_eqB dX12_order_14 (fun h14 => ?_) (fun h14 => ?_)
    · refine e_push dX12_order_26 ?_
      exact e_iretI dX12_order_27 rfl (qi hq (by first | (simp [F_order, isC, h5]; done) | (simp [F_order, isC, h14]; done) | (simp [F_order, isC, h5, h14, tc, tbd]; done))) (by decide) (by decide)
    · obtain ⟨bd, bd1, bd2, rfl⟩ := inB_l (a := 0) (b := 2) rfl rfl (by decide) (by decide) h14
      have tbd : tN (nI bd) = bd := tN_n (by omega)
      obtain ⟨hm, hmC, hbi, hbj⟩ := I.2.1 (3 * kN S c + bd) (by omega)
      refine e_aload dX12_order_17 rfl ?_
      refine e_iload dX12_order_18 rfl ?_
      refine e_iload dX12_order_19 rfl ?_
      refine n_callV2 dX12_order_20 ca_X12_119 hM.1 ctM_o (c_X12_orderOf hM (by omega) hk rfl (by omega) hm (by omega) ?_) 
      refine e_goto dX12_order_23 ?_
      exact e_iretI dX12_order_27 rfl (qi hq (by first | (simp [F_order, isC, h5]; done) | (simp [F_order, isC, h14]; done) | (simp [F_order, isC, h5, h14, tc, tbd]; done))) (by decide) (by decide)
set_option maxRecDepth 100000 in
set_option maxHeartbeats 4000000 in
theorem c_X12_about {b0 : Nat} {D : va_G} {dA : Nat → ClassId} {dm : Nat → Nat → Prop} {ad : Nat → Nat → Nat} {Q : PQ} {ct0 : Nat → Nat → va_E} {S : St} (hM : dmM dm) {t : Nat} (I : Inv S t) (c what : Int32) (hq : Q (some (.int (F_about S c what))) dm ad (ctM dA ad ct0 S)) : Ct b0 D dA yX12_about cX12_about 3 (some .int) (Rm 2) [.ref (ad 16 0), .int c, .int what] dm ad (ctM dA ad ct0 S) Q := by
  refine ct_of (by decide) (Nat.le_of_ble_eq_true rfl) ?_
  refine e_aload dX12_about_0 rfl ?_
  refine e_iload dX12_about_1 rfl ?_
  refine n_callV1 dX12_about_2 ca_X12_116 hM.1 ctM_o (c_X12_isConstant hM _ ?_) 
  refine e_if_eqB dX12_about_5 (fun h5 => ?_) (fun h5 => ?_)
  · refine e_push dX12_about_17 ?_
    exact e_iretI dX12_about_18 rfl (qi hq (by first | (simp [F_about, isC, h5]; done) | (simp [F_about, isC, h14]; done))) (by decide) (by decide)
  · have h60 := I.1.2.1
    have e0 := I.1.1
    obtain ⟨c, hc, rfl⟩ := inB_n (N := nC S) (by omega) (by rw [← e0]; exact h5)
    have tc : tN (nI c) = c := tN_n (by omega)
    obtain ⟨hk, hk6, hbo, hw, hw1⟩ := I.1.2.2.1 c hc
    refine e_iload dX12_about_8 rfl ?_
    refine e_push dX12_about_9 ?_
    refine e_push dX12_about_10 ?_
    refine n_callS3 dX12_about_11 ca_X12_96  (c_X12_in _ _ _ ?_) 
    refine e_if_neB dX12_about_14 (fun h14 => ?_) (fun h14 => ?_)
    · refine e_iload dX12_about_19 rfl ?_
      refine e_if_ne dX12_about_20 (fun h20 => ?_) (fun h20 => ?_)
      · refine e_iload dX12_about_32 rfl ?_
        refine e_push dX12_about_33 ?_
        refine e_icmp_ne dX12_about_34 (fun h34 => ?_) (fun h34 => ?_)
        · refine e_iload dX12_about_46 rfl ?_
          refine e_push dX12_about_47 ?_
          refine e_icmp_ne dX12_about_48 (fun h48 => ?_) (fun h48 => ?_)
          · refine e_aload dX12_about_60 rfl ?_
            refine m_geta dX12_about_61 fg_X12_23 hM (by decide) rfl ?_
            refine e_iload dX12_about_64 rfl ?_
            refine m_aldN (c) dX12_about_65 hM rfl (by decide) (by first | rfl | simp only [li_1, li_2, li_3, li_4, li_5, li_12, li_60, pk_mul, nI_add]) (by first | omega | (simp only [mLen]; omega)) (by decide) ?_
            exact e_iretI dX12_about_66 rfl (qi hq (by simp only [F_about, isC, h5, h14, Bool.and_self, if_true, tc]; first | (simp [h20]; done) | (simp [h20, h34]; done) | (simp [h20, h34, h48]; done))) (by decide) (by decide)
          · refine e_aload dX12_about_51 rfl ?_
            refine m_geta dX12_about_52 fg_X12_20 hM (by decide) rfl ?_
            refine e_iload dX12_about_55 rfl ?_
            refine m_aldN (c) dX12_about_56 hM rfl (by decide) (by first | rfl | simp only [li_1, li_2, li_3, li_4, li_5, li_12, li_60, pk_mul, nI_add]) (by first | omega | (simp only [mLen]; omega)) (by decide) ?_
            refine e_goto dX12_about_57 ?_
            exact e_iretI dX12_about_66 rfl (qi hq (by simp only [F_about, isC, h5, h14, Bool.and_self, if_true, tc]; first | (simp [h20]; done) | (simp [h20, h34]; done) | (simp [h20, h34, h48]; done))) (by decide) (by decide)
        · refine e_aload dX12_about_37 rfl ?_
          refine m_geta dX12_about_38 fg_X12_17 hM (by decide) rfl ?_
          refine e_iload dX12_about_41 rfl ?_
          refine m_aldN (c) dX12_about_42 hM rfl (by decide) (by first | rfl | simp only [li_1, li_2, li_3, li_4, li_5, li_12, li_60, pk_mul, nI_add]) (by first | omega | (simp only [mLen]; omega)) (by decide) ?_
          refine e_goto dX12_about_43 ?_
          exact e_iretI dX12_about_66 rfl (qi hq (by simp only [F_about, isC, h5, h14, Bool.and_self, if_true, tc]; first | (simp [h20]; done) | (simp [h20, h34]; done) | (simp [h20, h34, h48]; done))) (by decide) (by decide)
      · refine e_aload dX12_about_23 rfl ?_
        refine m_geta dX12_about_24 fg_X12_7 hM (by decide) rfl ?_
        refine e_iload dX12_about_27 rfl ?_
        refine m_aldN (c) dX12_about_28 hM rfl (by decide) (by first | rfl | simp only [li_1, li_2, li_3, li_4, li_5, li_12, li_60, pk_mul, nI_add]) (by first | omega | (simp only [mLen]; omega)) (by decide) ?_
        refine e_goto dX12_about_29 ?_
        exact e_iretI dX12_about_66 rfl (qi hq (by simp only [F_about, isC, h5, h14, Bool.and_self, if_true, tc]; first | (simp [h20]; done) | (simp [h20, h34]; done) | (simp [h20, h34, h48]; done))) (by decide) (by decide)
    · refine e_push dX12_about_17 ?_
      exact e_iretI dX12_about_18 rfl (qi hq (by first | (simp [F_about, isC, h5]; done) | (simp [F_about, isC, h14]; done))) (by decide) (by decide)
set_option maxRecDepth 100000 in
set_option maxHeartbeats 4000000 in
theorem c_X12_starts {b0 : Nat} {D : va_G} {dA : Nat → ClassId} {dm : Nat → Nat → Prop} {ad : Nat → Nat → Nat} {Q : PQ} {ct0 : Nat → Nat → va_E} {S : St} (hM : dmM dm) {c : Nat} (hc : c < 60) (hk : S.2.1 1 c = nI (kN S c)) (hk6 : kN S c < 6) (hq : Q none dm ad (ctM dA ad ct0 (stS S c))) : Ct b0 D dA yX12_starts cX12_starts 2 none (Rm 0) [.ref (ad 16 0), .int (nI c)] dm ad (ctM dA ad ct0 S) Q := by
  refine ct_of (by decide) (Nat.le_of_ble_eq_true rfl) ?_
  refine e_aload dX12_starts_0 rfl ?_
  refine m_geta dX12_starts_1 fg_X12_81 hM (by decide) rfl ?_
  refine e_aload dX12_starts_4 rfl ?_
  refine m_geta dX12_starts_5 fg_X12_7 hM (by decide) rfl ?_
  refine e_iload dX12_starts_8 rfl ?_
  refine m_aldN (c) dX12_starts_9 hM rfl (by decide) (by first | rfl | simp only [li_1, li_2, li_3, li_4, li_5, li_12, li_60, pk_mul, nI_add]) (by first | omega | (simp only [mLen]; omega)) (by decide) ?_
  refine e_topi hk ?_
  refine e_aload dX12_starts_10 rfl ?_
  refine m_geta dX12_starts_11 fg_X12_81 hM (by decide) rfl ?_
  refine e_aload dX12_starts_14 rfl ?_
  refine m_geta dX12_starts_15 fg_X12_7 hM (by decide) rfl ?_
  refine e_iload dX12_starts_18 rfl ?_
  refine m_aldN (c) dX12_starts_19 hM rfl (by decide) (by first | rfl | simp only [li_1, li_2, li_3, li_4, li_5, li_12, li_60, pk_mul, nI_add]) (by first | omega | (simp only [mLen]; omega)) (by decide) ?_
  refine e_topi hk ?_
  refine m_aldN (kN S c) dX12_starts_20 hM rfl (by decide) (by first | rfl | simp only [li_1, li_2, li_3, li_4, li_5, li_12, li_60, pk_mul, nI_add]) (by first | omega | (simp only [mLen]; omega)) (by decide) ?_
  refine e_push dX12_starts_21 ?_
  refine e_icmp_ne dX12_starts_23 (fun h23 => ?_) (fun h23 => ?_)
  · refine e_aload dX12_starts_33 rfl ?_
    refine m_geta dX12_starts_34 fg_X12_81 hM (by decide) rfl ?_
    refine e_aload dX12_starts_37 rfl ?_
    refine m_geta dX12_starts_38 fg_X12_7 hM (by decide) rfl ?_
    refine e_iload dX12_starts_41 rfl ?_
    refine m_aldN (c) dX12_starts_42 hM rfl (by decide) (by first | rfl | simp only [li_1, li_2, li_3, li_4, li_5, li_12, li_60, pk_mul, nI_add]) (by first | omega | (simp only [mLen]; omega)) (by decide) ?_
    refine e_topi hk ?_
    refine m_aldN (kN S c) dX12_starts_43 hM rfl (by decide) (by first | rfl | simp only [li_1, li_2, li_3, li_4, li_5, li_12, li_60, pk_mul, nI_add]) (by first | omega | (simp only [mLen]; omega)) (by decide) ?_
    refine m_astN (kN S c) dX12_starts_44 hM rfl (by decide) (by first | rfl | simp only [li_1, li_2, li_3, li_4, li_5, li_12, li_60, pk_mul, nI_add]) (by first | omega | (simp only [mLen]; omega)) (by decide) ?_
    exact e_vret dX12_starts_45 rfl (qv hq (by simp [stS, h23])) (by decide) (by decide)
  · refine e_aload dX12_starts_26 rfl ?_
    refine m_geti dX12_starts_27 fg_X12_138 hM (by decide) rfl ?_
    refine e_goto dX12_starts_30 ?_
    refine m_astN (kN S c) dX12_starts_44 hM rfl (by decide) (by first | rfl | simp only [li_1, li_2, li_3, li_4, li_5, li_12, li_60, pk_mul, nI_add]) (by first | omega | (simp only [mLen]; omega)) (by decide) ?_
    exact e_vret dX12_starts_45 rfl (qv hq (by simp [stS, h23])) (by decide) (by decide)
set_option maxRecDepth 100000 in
set_option maxHeartbeats 4000000 in
theorem c_X12_worth {b0 : Nat} {D : va_G} {dA : Nat → ClassId} {dm : Nat → Nat → Prop} {ad : Nat → Nat → Nat} {Q : PQ} {ct0 : Nat → Nat → va_E} {S : St} (hM : dmM dm) {t : Nat} (I : Inv S t) (c v : Int32) (hq : Q (some (.int (F_worth S c v).1)) dm ad (ctM dA ad ct0 (F_worth S c v).2)) : Ct b0 D dA yX12_worth cX12_worth 4 (some .int) (Rm 2) [.ref (ad 16 0), .int c, .int v] dm ad (ctM dA ad ct0 S) Q := by
  refine ct_of (by decide) (Nat.le_of_ble_eq_true rfl) ?_
  refine e_aload dX12_worth_0 rfl ?_
  refine e_iload dX12_worth_1 rfl ?_
  refine n_callV1 dX12_worth_2 ca_X12_116 hM.1 ctM_o (c_X12_isConstant hM _ ?_) 
  refine e_if_neB dX12_worth_5 (fun h5 => ?_) (fun h5 => ?_)
  · have h60 := I.1.2.1
    have e0 := I.1.1
    obtain ⟨c, hc, rfl⟩ := inB_n (N := nC S) (by omega) (by rw [← e0]; exact h5)
    have tc : tN (nI c) = c := tN_n (by omega)
    obtain ⟨hk, hk6, hbo, hw, hw1⟩ := I.1.2.2.1 c hc
    obtain ⟨hm, hmC, hbi, hbj⟩ := I.2.1 (3 * kN S c) (by omega)
    refine e_aload dX12_worth_10 rfl ?_
    refine e_iload dX12_worth_11 rfl ?_
    refine n_callV1 dX12_worth_12 ca_X12_141 hM.1 ctM_o (c_X12_starts hM (by omega) hk hk6 ?_) 
    refine e_aload dX12_worth_15 rfl ?_
    refine e_dup dX12_worth_16 ?_
    refine m_geti dX12_worth_17 fg_X12_138 hM (by decide) rfl ?_
    refine e_push dX12_worth_20 ?_
    refine e_iadd dX12_worth_21 ?_
    refine m_put dX12_worth_22 fp_X12_138 hM (by decide) rfl ?_
    refine e_iload dX12_worth_25 rfl ?_
    refine e_aload dX12_worth_26 rfl ?_
    refine e_iload dX12_worth_27 rfl ?_
    refine e_push dX12_worth_28 ?_
    refine n_callV2 dX12_worth_29 ca_X12_119 hM.1 ctM_o (c_X12_orderOf (S := actS (stS S c)) (bd := 0) hM (by omega) hk rfl (by omega) hm (by omega) ?_) 
    refine e_iadd dX12_worth_32 ?_
    refine e_istore dX12_worth_33 ?_
    refine e_aload dX12_worth_34 rfl ?_
    refine m_geta dX12_worth_35 fg_X12_17 hM (by decide) rfl ?_
    refine e_iload dX12_worth_38 rfl ?_
    refine m_aldN (c) dX12_worth_39 hM rfl (by decide) (by first | rfl | simp only [li_1, li_2, li_3, li_4, li_5, li_12, li_60, pk_mul, nI_add]) (by first | omega | (simp only [mLen]; omega)) (by decide) ?_
    refine e_if_ne dX12_worth_40 (fun h40 => ?_) (fun h40 => ?_)
    · refine e_aload dX12_worth_47 rfl ?_
      refine m_geta dX12_worth_48 fg_X12_17 hM (by decide) rfl ?_
      refine e_iload dX12_worth_51 rfl ?_
      refine m_aldN (c) dX12_worth_52 hM rfl (by decide) (by first | rfl | simp only [li_1, li_2, li_3, li_4, li_5, li_12, li_60, pk_mul, nI_add]) (by first | omega | (simp only [mLen]; omega)) (by decide) ?_
      refine e_push dX12_worth_53 ?_
      refine e_icmp_ne dX12_worth_54 (fun h54 => ?_) (fun h54 => ?_)
      · refine e_push dX12_worth_63 ?_
        refine e_iload dX12_worth_64 rfl ?_
        refine e_imul dX12_worth_65 ?_
        refine e_push dX12_worth_66 ?_
        refine e_isub dX12_worth_67 ?_
        exact e_iretI dX12_worth_68 rfl (qs hq (by simp only [F_worth, isC, h5, if_true, tc, wor]; first | (rw [if_pos (by assumption)]; rfl) | (rw [if_neg (by assumption), if_pos (by assumption)]; rfl) | (rw [if_neg (by assumption), if_neg (by assumption)]; rfl))) (by decide) (by decide)
      · refine e_push dX12_worth_57 ?_
        refine e_iload dX12_worth_58 rfl ?_
        refine e_imul dX12_worth_59 ?_
        refine e_goto dX12_worth_60 ?_
        exact e_iretI dX12_worth_68 rfl (qs hq (by simp only [F_worth, isC, h5, if_true, tc, wor]; first | (rw [if_pos (by assumption)]; rfl) | (rw [if_neg (by assumption), if_pos (by assumption)]; rfl) | (rw [if_neg (by assumption), if_neg (by assumption)]; rfl))) (by decide) (by decide)
    · refine e_iload dX12_worth_43 rfl ?_
      refine e_goto dX12_worth_44 ?_
      exact e_iretI dX12_worth_68 rfl (qs hq (by simp only [F_worth, isC, h5, if_true, tc, wor]; first | (rw [if_pos (by assumption)]; rfl) | (rw [if_neg (by assumption), if_pos (by assumption)]; rfl) | (rw [if_neg (by assumption), if_neg (by assumption)]; rfl))) (by decide) (by decide)
  · refine e_push dX12_worth_8 ?_
    exact e_iretI dX12_worth_9 rfl (qs hq (by simp [F_worth, isC, h5])) (by decide) (by decide)
set_option maxRecDepth 100000 in
set_option maxHeartbeats 4000000 in
theorem c_X12_weigh {b0 : Nat} {D : va_G} {dA : Nat → ClassId} {dm : Nat → Nat → Prop} {ad : Nat → Nat → Nat} {Q : PQ} {ct0 : Nat → Nat → va_E} {S : St} (hM : dmM dm) {t : Nat} (I : Inv S t) (c w : Int32) (hq : Q (some (.int (F_weigh S c w).1)) dm ad (ctM dA ad ct0 (F_weigh S c w).2)) : Ct b0 D dA yX12_weigh cX12_weigh 4 (some .int) (Rm 2) [.ref (ad 16 0), .int c, .int w] dm ad (ctM dA ad ct0 S) Q := by
  refine ct_of (by decide) (Nat.le_of_ble_eq_true rfl) ?_
  refine e_aload dX12_weigh_0 rfl ?_
  refine e_iload dX12_weigh_1 rfl ?_
  refine n_callV1 dX12_weigh_2 ca_X12_116 hM.1 ctM_o (c_X12_isConstant hM _ ?_) 
  refine e_if_eqB dX12_weigh_5 (fun h5 => ?_) (fun h5 => ?_)
  · refine e_push dX12_weigh_19 ?_
    exact e_iretI dX12_weigh_20 rfl (qs hq (by first | (simp [F_weigh, isC, h5]; done) | (simp [F_weigh, isC, h16]; done))) (by decide) (by decide)
  · have h60 := I.1.2.1
    have e0 := I.1.1
    obtain ⟨c, hc, rfl⟩ := inB_n (N := nC S) (by omega) (by rw [← e0]; exact h5)
    have tc : tN (nI c) = c := tN_n (by omega)
    obtain ⟨hk, hk6, hbo, hw, hw1⟩ := I.1.2.2.1 c hc
    refine e_iload dX12_weigh_8 rfl ?_
    refine e_push dX12_weigh_9 ?_
    refine e_push dX12_weigh_10 ?_
    refine n_callS3 dX12_weigh_13 ca_X12_96  (c_X12_in _ _ _ ?_) 
    refine e_if_neB dX12_weigh_16 (fun h16 => ?_) (fun h16 => ?_)
    · refine e_aload dX12_weigh_21 rfl ?_
      refine m_geta dX12_weigh_22 fg_X12_20 hM (by decide) rfl ?_
      refine e_iload dX12_weigh_25 rfl ?_
      refine m_aldN (c) dX12_weigh_26 hM rfl (by decide) (by first | rfl | simp only [li_1, li_2, li_3, li_4, li_5, li_12, li_60, pk_mul, nI_add]) (by first | omega | (simp only [mLen]; omega)) (by decide) ?_
      refine e_istore dX12_weigh_27 ?_
      refine e_aload dX12_weigh_28 rfl ?_
      refine m_geta dX12_weigh_29 fg_X12_20 hM (by decide) rfl ?_
      refine e_iload dX12_weigh_32 rfl ?_
      refine e_iload dX12_weigh_33 rfl ?_
      refine m_astN (c) dX12_weigh_34 hM rfl (by decide) (by first | rfl | simp only [li_1, li_2, li_3, li_4, li_5, li_12, li_60, pk_mul, nI_add]) (by first | omega | (simp only [mLen]; omega)) (by decide) ?_
      refine e_iload dX12_weigh_35 rfl ?_
      exact e_iretI dX12_weigh_36 rfl (qs hq (by simp [F_weigh, isC, h5, h16, tc])) (by decide) (by decide)
    · refine e_push dX12_weigh_19 ?_
      exact e_iretI dX12_weigh_20 rfl (qs hq (by first | (simp [F_weigh, isC, h5]; done) | (simp [F_weigh, isC, h16]; done))) (by decide) (by decide)
