theorem i64_of {X : Int} (h0 : 0 ≤ X) (h : X < 2 ^ 63) : (Int64.ofInt X).toInt = X := Int64.toInt_ofInt_of_le (by omega) h
theorem lrm_n {x : Int64} {n : Nat} (h0 : 0 < n) (hn : n < 2 ^ 31) (hx : 0 ≤ x.toInt) : (lrm x (Int64.ofInt n)).toInt = x.toInt % n := by
  have hX : x.toInt < 2 ^ 63 := Int64.toInt_lt x
  have hN : (Int64.ofInt (n : Int)).toInt = n := i64_of (by omega) (by omega)
  have d0 : 0 ≤ x.toInt / n := Int.ediv_nonneg hx (by omega)
  have d1 : x.toInt / n ≤ x.toInt := Int.ediv_le_self _ hx
  have d2 : x.toInt / n * n ≤ x.toInt := Int.ediv_mul_le _ (by omega)
  have d3 : 0 ≤ x.toInt / n * n := Int.mul_nonneg d0 (by omega)
  have e1 : (x / Int64.ofInt n).toInt = x.toInt / n := by
    rw [Int64.toInt_div, hN, Int.tdiv_eq_ediv_of_nonneg hx]
    exact Int.bmod_eq_of_le (by omega) (by omega)
  have e2 : (x / Int64.ofInt n * Int64.ofInt n).toInt = x.toInt / n * n := by
    rw [Int64.toInt_mul, e1, hN]
    exact Int.bmod_eq_of_le (by omega) (by omega)
  unfold lrm
  rw [Int64.toInt_sub, e2, Int.bmod_eq_of_le (by omega) (by omega)]
  have := Int.mul_ediv_add_emod x.toInt n
  rw [Int.mul_comm] at this
  omega
theorem usr_pos (z : Int64) : 0 ≤ (usr z 1).toInt := by
  unfold usr
  rw [show (Int32.toInt64 1).toUInt64 &&& Int64.toUInt64 63 = 1 from by decide]
  have h1 : (z.toUInt64 >>> 1).toNat < 2 ^ 63 := by
    rw [UInt64.toNat_shiftRight, show (UInt64.toNat 1) % 64 = 1 from rfl, Nat.shiftRight_eq_div_pow]
    have := UInt64.toNat_lt z.toUInt64
    omega
  have e : ((z.toUInt64 >>> 1).toInt64).toInt = ((z.toUInt64 >>> 1).toNat : Int) := by
    show BitVec.toInt _ = _
    exact BitVec.toInt_eq_toNat_of_lt (by show 2 * (z.toUInt64 >>> 1).toNat < 2 ^ 64; omega)
  rw [e]
  omega
theorem and1 (z : Int64) : 0 ≤ (z &&& 1).toInt ∧ (z &&& 1).toInt ≤ 1 := by
  have h : (z &&& 1).toBitVec.toNat = z.toBitVec.toNat % 2 := by
    rw [Int64.toBitVec_and, BitVec.toNat_and]
    exact Nat.and_one_is_mod _
  have e : (z &&& 1).toInt = ((z &&& 1).toBitVec.toNat : Int) := BitVec.toInt_eq_toNat_of_lt (by omega)
  rw [e]
  omega
theorem mdl_lt (z : Int64) {n : Nat} (h0 : 0 < n) (hn : n < 2 ^ 31) : ∃ j, j < n ∧ mdl z (nI n) = nI j := by
  have hl : (nI n).toInt64 = Int64.ofInt n := nI_l hn
  have a1 := lrm_n (x := usr z 1) h0 hn (usr_pos z)
  have a2 := Int.emod_nonneg (usr z 1).toInt (show (n : Int) ≠ 0 by omega)
  have a3 := Int.emod_lt_of_pos (usr z 1).toInt (show (0 : Int) < n by omega)
  obtain ⟨b1, b2⟩ := and1 z
  have e1 : (lrm (usr z 1) (Int64.ofInt n) * 2).toInt = (usr z 1).toInt % n * 2 := by
    rw [Int64.toInt_mul, a1]
    exact Int.bmod_eq_of_le (by show _ ≤ (usr z 1).toInt % n * 2; omega) (by show (usr z 1).toInt % n * 2 < _; omega)
  have e2 : (lrm (usr z 1) (Int64.ofInt n) * 2 + (z &&& 1)).toInt = (usr z 1).toInt % n * 2 + (z &&& 1).toInt := by
    rw [Int64.toInt_add, e1]
    exact Int.bmod_eq_of_le (by omega) (by omega)
  have a4 := lrm_n (x := lrm (usr z 1) (Int64.ofInt n) * 2 + (z &&& 1)) h0 hn (by rw [e2]; omega)
  have a5 := Int.emod_nonneg (lrm (usr z 1) (Int64.ofInt n) * 2 + (z &&& 1)).toInt (show (n : Int) ≠ 0 by omega)
  have a6 := Int.emod_lt_of_pos (lrm (usr z 1) (Int64.ofInt n) * 2 + (z &&& 1)).toInt (show (0 : Int) < n by omega)
  rw [← a4] at a5 a6
  refine ⟨(lrm (lrm (usr z 1) (Int64.ofInt n) * 2 + (z &&& 1)) (Int64.ofInt n)).toInt.toNat, by omega, ?_⟩
  unfold mdl
  rw [hl]
  apply Int32.toInt_inj.mp
  rw [nI_toInt (by omega), Int64.toInt_toInt32, Int.bmod_eq_of_le (by omega) (by omega)]
  omega
theorem n64 {n : Nat} (h0 : 0 < n) (hn : n < 2 ^ 31) : ¬ (nI n).toInt64 = 0 := by
  rw [nI_l hn]; intro h
  have := (lN_eq hn (b := 0) (by decide)).mp h
  omega
set_option maxRecDepth 100000 in
set_option maxHeartbeats 4000000 in
theorem l_X12_shuffle {b0 : Nat} {D : va_G} {dA : Nat → ClassId} {dm : Nat → Nat → Prop} {ad : Nat → Nat → Nat} {Q : PQ} {ct0 : Nat → Nat → va_E} {S : St} (hM : dmM dm) {kd bd : Int32} {seed : Int64} {b m : Nat} (hb : b < 18) (hm60 : m ≤ 60) : ∀ i a, a 6 b = nI m → (i = 0 ∨ i < m) → Q (some (.int (a 6 b))) dm ad (ctM dA ad ct0 (S.1, shufA seed b i a, S.2.2)) → E b0 D dA yX12_shuffle cX12_shuffle 9 (some .int) (Rm 2) E0 (QFm b0 D dA (Rm 2) Q) 36 (lfA [some (.ref (ad 16 0)), some (.int kd), some (.int bd), some (.long seed), none, some (.int (nI b)), some (.int (nI i))]) [] dm ad (ctM dA ad ct0 (S.1, a, S.2.2)) 0 0 := by
  intro i
  induction i with
  | zero =>
    intro a hm hi hq
    refine e_iload dX12_shuffle_36 rfl ?_
    refine e_if_le dX12_shuffle_38 (fun h38 => ?_) (fun h38 => ?_)
    · refine e_aload dX12_shuffle_118 rfl ?_
      refine m_geta dX12_shuffle_119 fg_X12_26 hM (by decide) rfl ?_
      refine e_iload dX12_shuffle_122 rfl ?_
      refine m_aldN (b) dX12_shuffle_124 hM rfl (by decide) (by first | rfl | simp only [li_1, li_2, li_3, li_4, li_5, li_12, li_60, pk_mul, nI_add]) (by first | omega | (simp only [mLen]; omega)) (by decide) ?_
      exact e_iretI dX12_shuffle_125 rfl hq (by decide) (by decide)
    · exact absurd (Int32.le_refl 0) h38
  | succ i ih =>
    intro a hm hi hq
    refine e_iload dX12_shuffle_36 rfl ?_
    refine e_if_le dX12_shuffle_38 (fun h38 => ?_) (fun h38 => ?_)
    · exact absurd h38 (nI_nle (by omega) (by omega))
    · refine e_lload dX12_shuffle_41 rfl ?_
      refine e_iload dX12_shuffle_42 rfl ?_
      refine n_callS2 dX12_shuffle_44 ca_X12_130  (c_X12_drawOf _ _ ?_) 
      refine e_iload dX12_shuffle_47 rfl ?_
      refine e_push dX12_shuffle_49 ?_
      refine e_iadd dX12_shuffle_50 ?_
      refine e_topi (nI_1 (i + 1)) ?_
      refine n_callS2 dX12_shuffle_51 ca_X12_134  (c_X12_modulo _ _ (n64 (by omega) (by omega)) ?_) 
      obtain ⟨j, hj, ej⟩ := mdl_lt (drw seed (nI (i + 1))) (n := i + 2) (by omega) (by omega)
      refine e_topi ej ?_
      refine e_istore dX12_shuffle_54 ?_
      refine e_aload dX12_shuffle_56 rfl ?_
      refine m_geta dX12_shuffle_57 fg_X12_29 hM (by decide) rfl ?_
      refine e_push dX12_shuffle_60 ?_
      refine e_iload dX12_shuffle_62 rfl ?_
      refine e_imul dX12_shuffle_64 ?_
      refine e_iload dX12_shuffle_65 rfl ?_
      refine e_iadd dX12_shuffle_67 ?_
      refine m_aldN (60 * b + (i + 1)) dX12_shuffle_68 hM rfl (by decide) (by first | rfl | simp only [li_1, li_2, li_3, li_4, li_5, li_12, li_60, pk_mul, nI_add]) (by first | omega | (simp only [mLen]; omega)) (by decide) ?_
      refine e_istore dX12_shuffle_69 ?_
      refine e_aload dX12_shuffle_71 rfl ?_
      refine m_geta dX12_shuffle_72 fg_X12_29 hM (by decide) rfl ?_
      refine e_push dX12_shuffle_75 ?_
      refine e_iload dX12_shuffle_77 rfl ?_
      refine e_imul dX12_shuffle_79 ?_
      refine e_iload dX12_shuffle_80 rfl ?_
      refine e_iadd dX12_shuffle_82 ?_
      refine e_aload dX12_shuffle_83 rfl ?_
      refine m_geta dX12_shuffle_84 fg_X12_29 hM (by decide) rfl ?_
      refine e_push dX12_shuffle_87 ?_
      refine e_iload dX12_shuffle_89 rfl ?_
      refine e_imul dX12_shuffle_91 ?_
      refine e_iload dX12_shuffle_92 rfl ?_
      refine e_iadd dX12_shuffle_94 ?_
      refine m_aldN (60 * b + j) dX12_shuffle_95 hM rfl (by decide) (by first | rfl | simp only [li_1, li_2, li_3, li_4, li_5, li_12, li_60, pk_mul, nI_add]) (by first | omega | (simp only [mLen]; omega)) (by decide) ?_
      refine m_astN (60 * b + (i + 1)) dX12_shuffle_96 hM rfl (by decide) (by first | rfl | simp only [li_1, li_2, li_3, li_4, li_5, li_12, li_60, pk_mul, nI_add]) (by first | omega | (simp only [mLen]; omega)) (by decide) ?_
      refine e_aload dX12_shuffle_97 rfl ?_
      refine m_geta dX12_shuffle_98 fg_X12_29 hM (by decide) rfl ?_
      refine e_push dX12_shuffle_101 ?_
      refine e_iload dX12_shuffle_103 rfl ?_
      refine e_imul dX12_shuffle_105 ?_
      refine e_iload dX12_shuffle_106 rfl ?_
      refine e_iadd dX12_shuffle_108 ?_
      refine e_iload dX12_shuffle_109 rfl ?_
      refine m_astN (60 * b + j) dX12_shuffle_111 hM rfl (by decide) (by first | rfl | simp only [li_1, li_2, li_3, li_4, li_5, li_12, li_60, pk_mul, nI_add]) (by first | omega | (simp only [mLen]; omega)) (by decide) ?_
      refine e_iinc dX12_shuffle_112 rfl (dec1 i) ?_
      refine e_goto dX12_shuffle_115 ?_
      exact e_lvA (ih (swp a (60 * b + (i + 1)) (60 * b + j)) hm (by omega) (by rw [show shufA seed b (i + 1) a = shufA seed b i (swp a (60 * b + (i + 1)) (60 * b + j)) by show shufA seed b i _ = _; rw [show mdl (drw seed (nI (i + 1))) (nI (i + 2)) = nI j from ej, tN_n (by omega)]] at hq; exact hq)) ⟨rfl, rfl, rfl, rfl, rfl, rfl, trivial⟩
set_option maxRecDepth 100000 in
set_option maxHeartbeats 4000000 in
theorem c_X12_shuffle {b0 : Nat} {D : va_G} {dA : Nat → ClassId} {dm : Nat → Nat → Prop} {ad : Nat → Nat → Nat} {Q : PQ} {ct0 : Nat → Nat → va_E} {S : St} (hM : dmM dm) {t : Nat} (I : Inv S t) (kind bd : Int32) (seed : Int64) (hq : Q (some (.int (F_shuffle S kind bd seed).1)) dm ad (ctM dA ad ct0 (F_shuffle S kind bd seed).2)) : Ct b0 D dA yX12_shuffle cX12_shuffle 9 (some .int) (Rm 2) [.ref (ad 16 0), .int kind, .int bd, .long seed] dm ad (ctM dA ad ct0 S) Q := by
  refine ct_of (by decide) (Nat.le_of_ble_eq_true rfl) ?_
  refine e_iload dX12_shuffle_0 rfl ?_
  refine n_callS1 dX12_shuffle_1 ca_X12_100  (c_X12_isKind _ ?_) 
  refine e_if_eqB dX12_shuffle_4 (fun h4 => ?_) (fun h4 => ?_)
  · refine e_push dX12_shuffle_16 ?_
    exact e_iretI dX12_shuffle_17 rfl (qs hq (by first | (simp [F_shuffle, h4]; done) | (simp [F_shuffle, h13]; done))) (by decide) (by decide)
  · obtain ⟨kind, kind1, kind2, rfl⟩ := inB_l (a := 0) (b := 5) rfl rfl (by decide) (by decide) h4
    have tkind : tN (nI kind) = kind := tN_n (by omega)
    refine e_iload dX12_shuffle_7 rfl ?_
    refine e_push dX12_shuffle_8 ?_
    refine e_push dX12_shuffle_9 ?_
    refine n_callS3 dX12_shuffle_10 ca_X12_96  (c_X12_in _ _ _ ?_) 
    refine e_if_neB dX12_shuffle_13 (fun h13 => ?_) (fun h13 => ?_)
    · obtain ⟨bd, bd1, bd2, rfl⟩ := inB_l (a := 1) (b := 2) rfl rfl (by decide) (by decide) h13
      have tbd : tN (nI bd) = bd := tN_n (by omega)
      obtain ⟨hm, hmC, hbi, hbj⟩ := I.2.1 (3 * kind + bd) (by omega)
      have h60 := I.1.2.1
      refine e_push dX12_shuffle_18 ?_
      refine e_iload dX12_shuffle_19 rfl ?_
      refine e_imul dX12_shuffle_20 ?_
      refine e_iload dX12_shuffle_21 rfl ?_
      refine e_iadd dX12_shuffle_22 ?_
      refine e_topi (show _ = nI (3 * kind + bd) by simp only [li_1, li_2, li_3, li_4, li_5, li_12, li_60, pk_mul, nI_add]) ?_
      refine e_istore dX12_shuffle_23 ?_
      refine e_aload dX12_shuffle_25 rfl ?_
      refine m_geta dX12_shuffle_26 fg_X12_26 hM (by decide) rfl ?_
      refine e_iload dX12_shuffle_29 rfl ?_
      refine m_aldN (3 * kind + bd) dX12_shuffle_31 hM rfl (by decide) (by first | rfl | simp only [li_1, li_2, li_3, li_4, li_5, li_12, li_60, pk_mul, nI_add]) (by first | omega | (simp only [mLen]; omega)) (by decide) ?_
      refine e_topi hm ?_
      refine e_push dX12_shuffle_32 ?_
      refine e_isub dX12_shuffle_33 ?_
      refine e_istore dX12_shuffle_34 ?_
      simp only [F_shuffle, h4, h13, Bool.and_self, if_true, tkind, tbd] at hq
      cases hz : mb S (3 * kind + bd) with
      | zero =>
        rw [hz] at hq hm
        refine e_iload dX12_shuffle_36 rfl ?_
        refine e_if_le dX12_shuffle_38 (fun h38 => ?_) (fun h38 => ?_)
        · refine e_aload dX12_shuffle_118 rfl ?_
          refine m_geta dX12_shuffle_119 fg_X12_26 hM (by decide) rfl ?_
          refine e_iload dX12_shuffle_122 rfl ?_
          refine m_aldN (3 * kind + bd) dX12_shuffle_124 hM rfl (by decide) rfl (by simp only [mLen]; omega) (by decide) ?_
          exact e_iretI dX12_shuffle_125 rfl hq (by decide) (by decide)
        · exact absurd (by decide) h38
      | succ m =>
        rw [hz] at hq hm
        exact e_lvA (l_X12_shuffle (m := m + 1) hM (by omega) (by omega) m S.2.1 hm (by omega) hq) ⟨rfl, rfl, rfl, rfl, rfl, congrArg (fun z => some (Value.int z)) (nI_pred m), trivial⟩
    · refine e_push dX12_shuffle_16 ?_
      exact e_iretI dX12_shuffle_17 rfl (qs hq (by first | (simp [F_shuffle, h4]; done) | (simp [F_shuffle, h13]; done))) (by decide) (by decide)
set_option maxRecDepth 100000 in
set_option maxHeartbeats 4000000 in
theorem l_X12_lacks {b0 : Nat} {D : va_G} {dA : Nat → ClassId} {dm : Nat → Nat → Prop} {ad : Nat → Nat → Nat} {Q : PQ} {ct0 : Nat → Nat → va_E} {S : St} (hM : dmM dm) {b : Nat} (hb : b < 18) (hm : S.2.1 6 b = nI (mb S b)) (hm60 : mb S b ≤ 60) (hbi : ∀ i, i < mb S b → S.2.1 7 (60 * b + i) = nI (bc S b i) ∧ bc S b i < 60) : ∀ k i, i + k = mb S b → Q (some (.int (lackM S b (fnd (laP S b) k i)))) dm ad (ctM dA ad ct0 S) → E b0 D dA yX12_lacks cX12_lacks 3 (some .int) (Rm 0) E0 (QFm b0 D dA (Rm 0) Q) 2 (lfA [some (.ref (ad 16 0)), some (.int (nI b)), some (.int (nI i))]) [] dm ad (ctM dA ad ct0 S) 0 0 := by
  intro k
  induction k with
  | zero =>
    intro i hi hq
    refine e_iload dX12_lacks_2 rfl ?_
    refine e_aload dX12_lacks_3 rfl ?_
    refine m_geta dX12_lacks_4 fg_X12_26 hM (by decide) rfl ?_
    refine e_iload dX12_lacks_7 rfl ?_
    refine m_aldN (b) dX12_lacks_8 hM rfl (by decide) (by first | rfl | simp only [li_1, li_2, li_3, li_4, li_5, li_12, li_60, pk_mul, nI_add]) (by first | omega | (simp only [mLen]; omega)) (by decide) ?_
    refine e_topi hm ?_
    refine e_icmp_ge dX12_lacks_9 (fun h9 => ?_) (fun h9 => ?_)
    · refine e_aload dX12_lacks_52 rfl ?_
      refine m_geta dX12_lacks_53 fg_X12_26 hM (by decide) rfl ?_
      refine e_iload dX12_lacks_56 rfl ?_
      refine m_aldN (b) dX12_lacks_57 hM rfl (by decide) (by first | rfl | simp only [li_1, li_2, li_3, li_4, li_5, li_12, li_60, pk_mul, nI_add]) (by first | omega | (simp only [mLen]; omega)) (by decide) ?_
      refine e_if_ne dX12_lacks_58 (fun h58 => ?_) (fun h58 => ?_)
      · refine e_push dX12_lacks_65 ?_
        exact e_iretI dX12_lacks_66 rfl (qi hq (by simp [fnd, lackM, h58])) (by decide) (by decide)
      · refine e_push dX12_lacks_61 ?_
        refine e_goto dX12_lacks_62 ?_
        exact e_iretI dX12_lacks_66 rfl (qi hq (by simp [fnd, lackM, h58])) (by decide) (by decide)
    · exact absurd (nI_le (by omega) (by omega)) h9
  | succ k ih =>
    intro i hi hq
    refine e_iload dX12_lacks_2 rfl ?_
    refine e_aload dX12_lacks_3 rfl ?_
    refine m_geta dX12_lacks_4 fg_X12_26 hM (by decide) rfl ?_
    refine e_iload dX12_lacks_7 rfl ?_
    refine m_aldN (b) dX12_lacks_8 hM rfl (by decide) (by first | rfl | simp only [li_1, li_2, li_3, li_4, li_5, li_12, li_60, pk_mul, nI_add]) (by first | omega | (simp only [mLen]; omega)) (by decide) ?_
    refine e_topi hm ?_
    refine e_icmp_ge dX12_lacks_9 (fun h9 => ?_) (fun h9 => ?_)
    · exact absurd h9 (nI_ge (by omega) (by omega))
    · obtain ⟨hc, hc6⟩ := hbi i (by omega)
      refine e_aload dX12_lacks_12 rfl ?_
      refine m_geta dX12_lacks_13 fg_X12_20 hM (by decide) rfl ?_
      refine e_aload dX12_lacks_16 rfl ?_
      refine m_geta dX12_lacks_17 fg_X12_29 hM (by decide) rfl ?_
      refine e_push dX12_lacks_20 ?_
      refine e_iload dX12_lacks_22 rfl ?_
      refine e_imul dX12_lacks_23 ?_
      refine e_iload dX12_lacks_24 rfl ?_
      refine e_iadd dX12_lacks_25 ?_
      refine m_aldN (60 * b + i) dX12_lacks_26 hM rfl (by decide) (by first | rfl | simp only [li_1, li_2, li_3, li_4, li_5, li_12, li_60, pk_mul, nI_add]) (by first | omega | (simp only [mLen]; omega)) (by decide) ?_
      refine e_topi hc ?_
      refine m_aldN (bc S b i) dX12_lacks_27 hM rfl (by decide) (by first | rfl | simp only [li_1, li_2, li_3, li_4, li_5, li_12, li_60, pk_mul, nI_add]) (by first | omega | (simp only [mLen]; omega)) (by decide) ?_
      refine e_if_ne dX12_lacks_28 (fun h28 => ?_) (fun h28 => ?_)
      · refine e_iinc dX12_lacks_46 rfl (inc1 i) ?_
        refine e_goto dX12_lacks_49 ?_
        exact e_lvA (ih (i + 1) (by omega) (by rw [fnd_f (decide_eq_false h28)] at hq; exact hq)) ⟨rfl, rfl, rfl, trivial⟩
      · refine e_push dX12_lacks_31 ?_
        refine e_aload dX12_lacks_33 rfl ?_
        refine m_geta dX12_lacks_34 fg_X12_29 hM (by decide) rfl ?_
        refine e_push dX12_lacks_37 ?_
        refine e_iload dX12_lacks_39 rfl ?_
        refine e_imul dX12_lacks_40 ?_
        refine e_iload dX12_lacks_41 rfl ?_
        refine e_iadd dX12_lacks_42 ?_
        refine m_aldN (60 * b + i) dX12_lacks_43 hM rfl (by decide) (by first | rfl | simp only [li_1, li_2, li_3, li_4, li_5, li_12, li_60, pk_mul, nI_add]) (by first | omega | (simp only [mLen]; omega)) (by decide) ?_
        refine e_isub dX12_lacks_44 ?_
        exact e_iretI dX12_lacks_45 rfl (by rw [fnd_t (decide_eq_true h28)] at hq; exact hq) (by decide) (by decide)
set_option maxRecDepth 100000 in
set_option maxHeartbeats 4000000 in
theorem c_X12_lacks {b0 : Nat} {D : va_G} {dA : Nat → ClassId} {dm : Nat → Nat → Prop} {ad : Nat → Nat → Nat} {Q : PQ} {ct0 : Nat → Nat → va_E} {S : St} (hM : dmM dm) {b : Nat} (hb : b < 18) (hm : S.2.1 6 b = nI (mb S b)) (hm60 : mb S b ≤ 60) (hbi : ∀ i, i < mb S b → S.2.1 7 (60 * b + i) = nI (bc S b i) ∧ bc S b i < 60) (hq : Q (some (.int (lackF S b))) dm ad (ctM dA ad ct0 S)) : Ct b0 D dA yX12_lacks cX12_lacks 3 (some .int) (Rm 0) [.ref (ad 16 0), .int (nI b)] dm ad (ctM dA ad ct0 S) Q := by
  refine ct_of (by decide) (Nat.le_of_ble_eq_true rfl) ?_
  refine e_push dX12_lacks_0 ?_
  refine e_istore dX12_lacks_1 ?_
  exact e_lvA (l_X12_lacks hM hb hm hm60 hbi (mb S b) 0 (by omega) hq) ⟨rfl, rfl, rfl, trivial⟩
set_option maxRecDepth 100000 in
set_option maxHeartbeats 4000000 in
theorem c_X12_table {b0 : Nat} {D : va_G} {dA : Nat → ClassId} {dm : Nat → Nat → Prop} {ad : Nat → Nat → Nat} {Q : PQ} {ct0 : Nat → Nat → va_E} {S : St} (hM : dmM dm) {t : Nat} (I : Inv S t) (kind bd : Int32) (hq : Q (some (.int (F_table S kind bd))) dm ad (ctM dA ad ct0 S)) : Ct b0 D dA yX12_table cX12_table 3 (some .int) (Rm 2) [.ref (ad 16 0), .int kind, .int bd] dm ad (ctM dA ad ct0 S) Q := by
  refine ct_of (by decide) (Nat.le_of_ble_eq_true rfl) ?_
  refine e_iload dX12_table_0 rfl ?_
  refine n_callS1 dX12_table_1 ca_X12_100  (c_X12_isKind _ ?_) 
  refine e_if_eqB dX12_table_4 (fun h4 => ?_) (fun h4 => ?_)
  · refine e_push dX12_table_28 ?_
    exact e_iretI dX12_table_29 rfl (qi hq (by first | (simp [F_table, h4]; done) | (simp [F_table, h13]; done) | (simp [F_table, h4, h13, tkind, tbd]; done))) (by decide) (by decide)
  · obtain ⟨kind, kind1, kind2, rfl⟩ := inB_l (a := 0) (b := 5) rfl rfl (by decide) (by decide) h4
    have tkind : tN (nI kind) = kind := tN_n (by omega)
    refine e_iload dX12_table_7 rfl ?_
    refine e_push dX12_table_8 ?_
    refine e_push dX12_table_9 ?_
    refine n_callS3 dX12_table_10 ca_X12_96  (c_X12_in _ _ _ ?_) 
    refine e_if_eqB dX12_table_13 (fun h13 => ?_) (fun h13 => ?_)
    · refine e_push dX12_table_28 ?_
      exact e_iretI dX12_table_29 rfl (qi hq (by first | (simp [F_table, h4]; done) | (simp [F_table, h13]; done) | (simp [F_table, h4, h13, tkind, tbd]; done))) (by decide) (by decide)
    · obtain ⟨bd, bd1, bd2, rfl⟩ := inB_l (a := 0) (b := 2) rfl rfl (by decide) (by decide) h13
      have tbd : tN (nI bd) = bd := tN_n (by omega)
      obtain ⟨hm, hmC, hbi, hbj⟩ := I.2.1 (3 * kind + bd) (by omega)
      have h60 := I.1.2.1
      refine e_aload dX12_table_16 rfl ?_
      refine e_push dX12_table_17 ?_
      refine e_iload dX12_table_18 rfl ?_
      refine e_imul dX12_table_19 ?_
      refine e_iload dX12_table_20 rfl ?_
      refine e_iadd dX12_table_21 ?_
      refine e_topi (show _ = nI (3 * kind + bd) by simp only [li_1, li_2, li_3, li_4, li_5, li_12, li_60, pk_mul, nI_add]) ?_
      refine n_callV1 dX12_table_22 ca_X12_145 hM.1 ctM_o (c_X12_lacks hM (by omega) hm (by omega) (fun i hi => ⟨(hbi i hi).1, by have := (hbi i hi).2.1; omega⟩) ?_) 
      refine e_goto dX12_table_25 ?_
      exact e_iretI dX12_table_29 rfl (qi hq (by first | (simp [F_table, h4]; done) | (simp [F_table, h13]; done) | (simp [F_table, h4, h13, tkind, tbd]; done))) (by decide) (by decide)
set_option maxRecDepth 100000 in
set_option maxHeartbeats 4000000 in
theorem l2_X12_draw {b0 : Nat} {D : va_G} {dA : Nat → ClassId} {dm : Nat → Nat → Prop} {ad : Nat → Nat → Nat} {Q : PQ} {ct0 : Nat → Nat → va_E} {S : St} (hM : dmM dm) {kd bd n sm : Int32} {seed : Int64} {b : Nat} (hb : b < 18) (hm : S.2.1 6 b = nI (mb S b)) (hm60 : mb S b ≤ 60) (hbi : ∀ i, i < mb S b → S.2.1 7 (60 * b + i) = nI (bc S b i) ∧ bc S b i < 60 ∧ S.2.1 1 (bc S b i) = nI (kN S (bc S b i)) ∧ kN S (bc S b i) < 6 ∧ S.2.1 4 (bc S b i) = nI (wN S (bc S b i)) ∧ wN S (bc S b i) ≤ 1000) : ∀ k l i, i + k = mb S b → l + sumW S b i < sumW S b (mb S b) → Q (some (.int (nI (bc S b (pick S b k l i))))) dm ad (ctM dA ad ct0 (drS S (bc S b (pick S b k l i)))) → E b0 D dA yX12_draw cX12_draw 11 (some .int) (Rm 2) E0 (QFm b0 D dA (Rm 2) Q) 105 (lfA [some (.ref (ad 16 0)), some (.int kd), some (.int bd), some (.long seed), none, some (.int n), some (.int (nI b)), some (.int sm), some (.int (nI l)), some (.int (nI i))]) [] dm ad (ctM dA ad ct0 S) 0 0 := by
  intro k
  induction k with
  | zero =>
    intro l i hi hs
    rw [Nat.add_zero] at hi
    subst hi
    omega
  | succ k ih =>
    intro l i hi hs hq
    have hc := hbi i (by omega)
    have hsw : sumW S b (mb S b) ≤ 60000 := sumW_le hm60 (fun i hi => (hbi i hi).2.2.2.2.2)
    refine e_iload dX12_draw_105 rfl ?_
    refine e_aload dX12_draw_107 rfl ?_
    refine m_geta dX12_draw_108 fg_X12_20 hM (by decide) rfl ?_
    refine e_aload dX12_draw_111 rfl ?_
    refine m_geta dX12_draw_112 fg_X12_29 hM (by decide) rfl ?_
    refine e_push dX12_draw_115 ?_
    refine e_iload dX12_draw_117 rfl ?_
    refine e_imul dX12_draw_119 ?_
    refine e_iload dX12_draw_120 rfl ?_
    refine e_iadd dX12_draw_122 ?_
    refine m_aldN (60 * b + i) dX12_draw_123 hM rfl (by decide) (by first | rfl | simp only [li_1, li_2, li_3, li_4, li_5, li_12, li_60, pk_mul, nI_add]) (by first | omega | (simp only [mLen]; omega)) (by decide) ?_
    refine e_topi hc.1 ?_
    refine m_aldN (bc S b i) dX12_draw_124 hM rfl (by decide) (by first | rfl | simp only [li_1, li_2, li_3, li_4, li_5, li_12, li_60, pk_mul, nI_add]) (by first | omega | (simp only [mLen]; omega)) (by decide) ?_
    refine e_topi hc.2.2.2.2.1 ?_
    refine e_icmp_lt dX12_draw_125 (fun h125 => ?_) (fun h125 => ?_)
    · have hlt := (nI_ltI (by omega) (by omega)).mp h125
      rw [pick, if_neg (by omega)] at hq
      refine e_aload dX12_draw_157 rfl ?_
      refine m_geta dX12_draw_158 fg_X12_29 hM (by decide) rfl ?_
      refine e_push dX12_draw_161 ?_
      refine e_iload dX12_draw_163 rfl ?_
      refine e_imul dX12_draw_165 ?_
      refine e_iload dX12_draw_166 rfl ?_
      refine e_iadd dX12_draw_168 ?_
      refine m_aldN (60 * b + i) dX12_draw_169 hM rfl (by decide) (by first | rfl | simp only [li_1, li_2, li_3, li_4, li_5, li_12, li_60, pk_mul, nI_add]) (by first | omega | (simp only [mLen]; omega)) (by decide) ?_
      refine e_topi hc.1 ?_
      refine e_istore dX12_draw_170 ?_
      refine e_aload dX12_draw_172 rfl ?_
      refine m_geta dX12_draw_173 fg_X12_23 hM (by decide) rfl ?_
      refine e_iload dX12_draw_176 rfl ?_
      refine e_dup2 dX12_draw_178 ?_
      refine m_aldN (bc S b i) dX12_draw_179 hM rfl (by decide) (by first | rfl | simp only [li_1, li_2, li_3, li_4, li_5, li_12, li_60, pk_mul, nI_add]) (by first | omega | (simp only [mLen]; omega)) (by decide) ?_
      refine e_push dX12_draw_180 ?_
      refine e_iadd dX12_draw_181 ?_
      refine m_astN (bc S b i) dX12_draw_182 hM rfl (by decide) (by first | rfl | simp only [li_1, li_2, li_3, li_4, li_5, li_12, li_60, pk_mul, nI_add]) (by first | omega | (simp only [mLen]; omega)) (by decide) ?_
      refine e_aload dX12_draw_183 rfl ?_
      refine e_dup dX12_draw_184 ?_
      refine m_geti dX12_draw_185 fg_X12_149 hM (by decide) rfl ?_
      refine e_push dX12_draw_188 ?_
      refine e_iadd dX12_draw_189 ?_
      refine m_put dX12_draw_190 fp_X12_149 hM (by decide) rfl ?_
      refine e_aload dX12_draw_193 rfl ?_
      refine e_iload dX12_draw_194 rfl ?_
      refine n_callV1 dX12_draw_196 ca_X12_141 hM.1 ctM_o (c_X12_starts hM hc.2.1 hc.2.2.1 hc.2.2.2.1 ?_) 
      refine e_aload dX12_draw_199 rfl ?_
      refine e_dup dX12_draw_200 ?_
      refine m_geti dX12_draw_201 fg_X12_138 hM (by decide) rfl ?_
      refine e_push dX12_draw_204 ?_
      refine e_iadd dX12_draw_205 ?_
      refine m_put dX12_draw_206 fp_X12_138 hM (by decide) rfl ?_
      refine e_iload dX12_draw_209 rfl ?_
      exact e_iretI dX12_draw_211 rfl hq (by decide) (by decide)
    · have hle : wN S (bc S b i) ≤ l := Nat.le_of_not_lt (fun z => h125 ((nI_ltI (by omega) (by omega)).mpr z))
      refine e_iload dX12_draw_128 rfl ?_
      refine e_aload dX12_draw_130 rfl ?_
      refine m_geta dX12_draw_131 fg_X12_20 hM (by decide) rfl ?_
      refine e_aload dX12_draw_134 rfl ?_
      refine m_geta dX12_draw_135 fg_X12_29 hM (by decide) rfl ?_
      refine e_push dX12_draw_138 ?_
      refine e_iload dX12_draw_140 rfl ?_
      refine e_imul dX12_draw_142 ?_
      refine e_iload dX12_draw_143 rfl ?_
      refine e_iadd dX12_draw_145 ?_
      refine m_aldN (60 * b + i) dX12_draw_146 hM rfl (by decide) (by first | rfl | simp only [li_1, li_2, li_3, li_4, li_5, li_12, li_60, pk_mul, nI_add]) (by first | omega | (simp only [mLen]; omega)) (by decide) ?_
      refine e_topi hc.1 ?_
      refine m_aldN (bc S b i) dX12_draw_147 hM rfl (by decide) (by first | rfl | simp only [li_1, li_2, li_3, li_4, li_5, li_12, li_60, pk_mul, nI_add]) (by first | omega | (simp only [mLen]; omega)) (by decide) ?_
      refine e_topi hc.2.2.2.2.1 ?_
      refine e_isub dX12_draw_148 ?_
      refine e_topi (pk_sub hle) ?_
      refine e_istore dX12_draw_149 ?_
      refine e_iinc dX12_draw_151 rfl (inc1 i) ?_
      refine e_goto dX12_draw_154 ?_
      exact e_lvA (ih (l - wN S (bc S b i)) (i + 1) (by omega) (by rw [sumW] at *; omega) (by rw [pick, if_pos hle] at hq; exact hq)) ⟨rfl, rfl, rfl, rfl, rfl, rfl, rfl, rfl, rfl, trivial⟩
set_option maxRecDepth 100000 in
set_option maxHeartbeats 4000000 in
theorem l1_X12_draw {b0 : Nat} {D : va_G} {dA : Nat → ClassId} {dm : Nat → Nat → Prop} {ad : Nat → Nat → Nat} {Q : PQ} {ct0 : Nat → Nat → va_E} {S : St} (hM : dmM dm) {kd bd n : Int32} {seed : Int64} {b : Nat} (hb : b < 18) (hm : S.2.1 6 b = nI (mb S b)) (hm60 : mb S b ≤ 60) (hbi : ∀ i, i < mb S b → S.2.1 7 (60 * b + i) = nI (bc S b i) ∧ bc S b i < 60 ∧ S.2.1 1 (bc S b i) = nI (kN S (bc S b i)) ∧ kN S (bc S b i) < 6 ∧ S.2.1 4 (bc S b i) = nI (wN S (bc S b i)) ∧ wN S (bc S b i) ≤ 1000) (hs0 : 0 < sumW S b (mb S b)) (hq : ∀ l, l < sumW S b (mb S b) → mdl (drw seed n) (nI (sumW S b (mb S b))) = nI l → Q (some (.int (nI (bc S b (pick S b (mb S b) l 0))))) dm ad (ctM dA ad ct0 (drS S (bc S b (pick S b (mb S b) l 0))))) : ∀ k i, i + k = mb S b → E b0 D dA yX12_draw cX12_draw 11 (some .int) (Rm 2) E0 (QFm b0 D dA (Rm 2) Q) 48 (lfA [some (.ref (ad 16 0)), some (.int kd), some (.int bd), some (.long seed), none, some (.int n), some (.int (nI b)), some (.int (nI (sumW S b i))), some (.int (nI i))]) [] dm ad (ctM dA ad ct0 S) 0 0 := by
  have hsw : sumW S b (mb S b) ≤ 60000 := sumW_le hm60 (fun i hi => (hbi i hi).2.2.2.2.2)
  intro k
  induction k with
  | zero =>
    intro i hi
    refine e_iload dX12_draw_48 rfl ?_
    refine e_aload dX12_draw_50 rfl ?_
    refine m_geta dX12_draw_51 fg_X12_26 hM (by decide) rfl ?_
    refine e_iload dX12_draw_54 rfl ?_
    refine m_aldN (b) dX12_draw_56 hM rfl (by decide) (by first | rfl | simp only [li_1, li_2, li_3, li_4, li_5, li_12, li_60, pk_mul, nI_add]) (by first | omega | (simp only [mLen]; omega)) (by decide) ?_
    refine e_topi hm ?_
    refine e_icmp_ge dX12_draw_57 (fun h57 => ?_) (fun h57 => ?_)
    · rw [Nat.add_zero] at hi
      subst hi
      refine e_lload dX12_draw_89 rfl ?_
      refine e_iload dX12_draw_90 rfl ?_
      refine n_callS2 dX12_draw_92 ca_X12_130  (c_X12_drawOf _ _ ?_) 
      refine e_iload dX12_draw_95 rfl ?_
      refine n_callS2 dX12_draw_97 ca_X12_134  (c_X12_modulo _ _ (n64 hs0 (by omega)) ?_) 
      obtain ⟨l, hl, el⟩ := mdl_lt (drw seed n) (n := sumW S b (mb S b)) hs0 (by omega)
      refine e_topi el ?_
      refine e_istore dX12_draw_100 ?_
      refine e_push dX12_draw_102 ?_
      refine e_istore dX12_draw_103 ?_
      exact e_lvA (l2_X12_draw hM hb hm hm60 hbi (mb S b) l 0 (by omega) (by simpa [sumW] using hl) (hq l hl el)) ⟨rfl, rfl, rfl, rfl, rfl, rfl, rfl, rfl, rfl, trivial⟩
    · exact absurd (nI_le (by omega) (by omega)) h57
  | succ k ih =>
    intro i hi
    refine e_iload dX12_draw_48 rfl ?_
    refine e_aload dX12_draw_50 rfl ?_
    refine m_geta dX12_draw_51 fg_X12_26 hM (by decide) rfl ?_
    refine e_iload dX12_draw_54 rfl ?_
    refine m_aldN (b) dX12_draw_56 hM rfl (by decide) (by first | rfl | simp only [li_1, li_2, li_3, li_4, li_5, li_12, li_60, pk_mul, nI_add]) (by first | omega | (simp only [mLen]; omega)) (by decide) ?_
    refine e_topi hm ?_
    refine e_icmp_ge dX12_draw_57 (fun h57 => ?_) (fun h57 => ?_)
    · exact absurd h57 (nI_ge (by omega) (by omega))
    · have hc := hbi i (by omega)
      refine e_iload dX12_draw_60 rfl ?_
      refine e_aload dX12_draw_62 rfl ?_
      refine m_geta dX12_draw_63 fg_X12_20 hM (by decide) rfl ?_
      refine e_aload dX12_draw_66 rfl ?_
      refine m_geta dX12_draw_67 fg_X12_29 hM (by decide) rfl ?_
      refine e_push dX12_draw_70 ?_
      refine e_iload dX12_draw_72 rfl ?_
      refine e_imul dX12_draw_74 ?_
      refine e_iload dX12_draw_75 rfl ?_
      refine e_iadd dX12_draw_77 ?_
      refine m_aldN (60 * b + i) dX12_draw_78 hM rfl (by decide) (by first | rfl | simp only [li_1, li_2, li_3, li_4, li_5, li_12, li_60, pk_mul, nI_add]) (by first | omega | (simp only [mLen]; omega)) (by decide) ?_
      refine e_topi hc.1 ?_
      refine m_aldN (bc S b i) dX12_draw_79 hM rfl (by decide) (by first | rfl | simp only [li_1, li_2, li_3, li_4, li_5, li_12, li_60, pk_mul, nI_add]) (by first | omega | (simp only [mLen]; omega)) (by decide) ?_
      refine e_topi hc.2.2.2.2.1 ?_
      refine e_iadd dX12_draw_80 ?_
      refine e_topi (nI_add _ _) ?_
      refine e_istore dX12_draw_81 ?_
      refine e_iinc dX12_draw_83 rfl (inc1 i) ?_
      refine e_goto dX12_draw_86 ?_
      exact e_lvA (ih (i + 1) (by omega)) ⟨rfl, rfl, rfl, rfl, rfl, rfl, rfl, rfl, trivial⟩
set_option maxRecDepth 100000 in
set_option maxHeartbeats 4000000 in
theorem c_X12_draw {b0 : Nat} {D : va_G} {dA : Nat → ClassId} {dm : Nat → Nat → Prop} {ad : Nat → Nat → Nat} {Q : PQ} {ct0 : Nat → Nat → va_E} {S : St} (hM : dmM dm) {t : Nat} (I : Inv S t) (kind bd : Int32) (seed : Int64) (n : Int32) (hq : Q (some (.int (F_draw S kind bd seed n).1)) dm ad (ctM dA ad ct0 (F_draw S kind bd seed n).2)) : Ct b0 D dA yX12_draw cX12_draw 11 (some .int) (Rm 2) [.ref (ad 16 0), .int kind, .int bd, .long seed, .int n] dm ad (ctM dA ad ct0 S) Q := by
  refine ct_of (by decide) (Nat.le_of_ble_eq_true rfl) ?_
  refine e_iload dX12_draw_0 rfl ?_
  refine n_callS1 dX12_draw_1 ca_X12_100  (c_X12_isKind _ ?_) 
  refine e_if_eqB dX12_draw_4 (fun h4 => ?_) (fun h4 => ?_)
  · refine e_push dX12_draw_21 ?_
    exact e_iretI dX12_draw_22 rfl (qs hq (by first | (simp [F_draw, h4]; done) | (simp [F_draw, h13]; done) | (simp [F_draw, h18]; done))) (by decide) (by decide)
  · obtain ⟨kind, kind1, kind2, rfl⟩ := inB_l (a := 0) (b := 5) rfl rfl (by decide) (by decide) h4
    have tkind : tN (nI kind) = kind := tN_n (by omega)
    refine e_iload dX12_draw_7 rfl ?_
    refine e_push dX12_draw_8 ?_
    refine e_push dX12_draw_9 ?_
    refine n_callS3 dX12_draw_10 ca_X12_96  (c_X12_in _ _ _ ?_) 
    refine e_if_eqB dX12_draw_13 (fun h13 => ?_) (fun h13 => ?_)
    · refine e_push dX12_draw_21 ?_
      exact e_iretI dX12_draw_22 rfl (qs hq (by first | (simp [F_draw, h4]; done) | (simp [F_draw, h13]; done) | (simp [F_draw, h18]; done))) (by decide) (by decide)
    · obtain ⟨bd, bd1, bd2, rfl⟩ := inB_l (a := 0) (b := 2) rfl rfl (by decide) (by decide) h13
      have tbd : tN (nI bd) = bd := tN_n (by omega)
      obtain ⟨hm, hmC, hbi, hbj⟩ := I.2.1 (3 * kind + bd) (by omega)
      have h60 := I.1.2.1
      refine e_iload dX12_draw_16 rfl ?_
      refine e_if_ge dX12_draw_18 (fun h18 => ?_) (fun h18 => ?_)
      · refine e_push dX12_draw_23 ?_
        refine e_iload dX12_draw_24 rfl ?_
        refine e_imul dX12_draw_25 ?_
        refine e_iload dX12_draw_26 rfl ?_
        refine e_iadd dX12_draw_27 ?_
        refine e_topi (show _ = nI (3 * kind + bd) by simp only [li_1, li_2, li_3, li_4, li_5, li_12, li_60, pk_mul, nI_add]) ?_
        refine e_istore dX12_draw_28 ?_
        refine e_aload dX12_draw_30 rfl ?_
        refine e_iload dX12_draw_31 rfl ?_
        refine n_callV1 dX12_draw_33 ca_X12_145 hM.1 ctM_o (c_X12_lacks hM (by omega) hm (by omega) (fun i hi => ⟨(hbi i hi).1, by have := (hbi i hi).2.1; omega⟩) ?_) 
        refine e_if_eq dX12_draw_36 (fun h36 => ?_) (fun h36 => ?_)
        · refine e_push dX12_draw_42 ?_
          refine e_istore dX12_draw_43 ?_
          refine e_push dX12_draw_45 ?_
          refine e_istore dX12_draw_46 ?_
          simp only [F_draw, h4, h13, h18, decide_true, Bool.and_self, if_true, tkind, tbd] at hq
          rw [if_pos h36] at hq
          have hbi' : ∀ i, i < mb S (3 * kind + bd) → S.2.1 7 (60 * (3 * kind + bd) + i) = nI (bc S (3 * kind + bd) i) ∧ bc S (3 * kind + bd) i < 60 ∧ S.2.1 1 (bc S (3 * kind + bd) i) = nI (kN S (bc S (3 * kind + bd) i)) ∧ kN S (bc S (3 * kind + bd) i) < 6 ∧ S.2.1 4 (bc S (3 * kind + bd) i) = nI (wN S (bc S (3 * kind + bd) i)) ∧ wN S (bc S (3 * kind + bd) i) ≤ 1000 := fun i hi => by
            obtain ⟨g1, g2, -⟩ := hbi i hi
            obtain ⟨f1, f2, -, f4, f5⟩ := I.1.2.2.1 _ g2
            exact ⟨g1, by omega, f1, f2, f4, f5⟩
          have hs0 := lack_sum (fun i hi => ⟨(hbi' i hi).2.2.2.2.1, (hbi' i hi).1, (hbi' i hi).2.1⟩) hm h36
          exact e_lvA (l1_X12_draw hM (by omega) hm (by omega) hbi' hs0 (fun l hl el => by
            have hsw := sumW_le (S := S) (b := 3 * kind + bd) (m := mb S (3 * kind + bd)) (by omega) (fun i hi => (hbi' i hi).2.2.2.2.2)
            rw [el, tN_n (by omega)] at hq
            have hp : pick S (3 * kind + bd) (mb S (3 * kind + bd)) l 0 < mb S (3 * kind + bd) := pick_lt hl
            rw [(hbi' _ hp).1] at hq
            exact hq) (mb S (3 * kind + bd)) 0 (by omega)) ⟨rfl, rfl, rfl, rfl, rfl, rfl, rfl, rfl, trivial⟩
        · skip
          refine e_push dX12_draw_39 ?_
          exact e_iretI dX12_draw_41 rfl (qs hq (by simp only [F_draw, h4, h13, h18, decide_true, Bool.and_self, if_true, tkind, tbd]; rw [if_neg h36])) (by decide) (by decide)
      · refine e_push dX12_draw_21 ?_
        exact e_iretI dX12_draw_22 rfl (qs hq (by first | (simp [F_draw, h4]; done) | (simp [F_draw, h13]; done) | (simp [F_draw, h18]; done))) (by decide) (by decide)
