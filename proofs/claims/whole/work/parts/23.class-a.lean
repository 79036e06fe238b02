set_option maxRecDepth 100000 in
set_option maxHeartbeats 4000000 in
theorem c_X11_isIn {b0 : Nat} {D : va_G} {dA : Nat → ClassId} {dm : Nat → Nat → Prop} {ad : Nat → Nat → Nat} {Q : PQ} {ct : Nat → Nat → va_E} (v lo hi : Int32) (hq : Q (some (.int (bI (inB v lo hi)))) dm ad ct) : Ct b0 D dA yX11_isIn cX11_isIn 3 (some .boolean) (Rm 0) [.int v, .int lo, .int hi] dm ad ct Q := by
  refine ct_of (by decide) (Nat.le_of_ble_eq_true rfl) ?_
  refine e_iload dX11_isIn_0 rfl ?_
  refine e_iload dX11_isIn_1 rfl ?_
  refine e_icmp_lt dX11_isIn_2 (fun h2 => ?_) (fun h2 => ?_)
  · refine e_push dX11_isIn_14 ?_
    exact e_iret dX11_isIn_15 rfl (by first | rfl | exact bI_n _) (qi hq (by first | (rw [inB_f1 (by assumption)]; rfl) | (rw [inB_f2 (by assumption)]; rfl) | (rw [inB_t (by assumption) (by assumption)]; rfl))) (by decide) (by decide)
  · refine e_iload dX11_isIn_5 rfl ?_
    refine e_iload dX11_isIn_6 rfl ?_
    refine e_icmp_gt dX11_isIn_7 (fun h7 => ?_) (fun h7 => ?_)
    · refine e_push dX11_isIn_14 ?_
      exact e_iret dX11_isIn_15 rfl (by first | rfl | exact bI_n _) (qi hq (by first | (rw [inB_f1 (by assumption)]; rfl) | (rw [inB_f2 (by assumption)]; rfl) | (rw [inB_t (by assumption) (by assumption)]; rfl))) (by decide) (by decide)
    · refine e_push dX11_isIn_10 ?_
      refine e_goto dX11_isIn_11 ?_
      exact e_iret dX11_isIn_15 rfl (by first | rfl | exact bI_n _) (qi hq (by first | (rw [inB_f1 (by assumption)]; rfl) | (rw [inB_f2 (by assumption)]; rfl) | (rw [inB_t (by assumption) (by assumption)]; rfl))) (by decide) (by decide)
set_option maxRecDepth 100000 in
set_option maxHeartbeats 4000000 in
theorem c_X11_isPlace {b0 : Nat} {D : va_G} {dA : Nat → ClassId} {dm : Nat → Nat → Prop} {ad : Nat → Nat → Nat} {Q : PQ} {ct : Nat → Nat → va_E} (v : Int32) (hq : Q (some (.int (bI (inB v 0 9)))) dm ad ct) : Ct b0 D dA yX11_isPlace cX11_isPlace 1 (some .boolean) (Rm 1) [.int v] dm ad ct Q := by
  refine ct_of (by decide) (Nat.le_of_ble_eq_true rfl) ?_
  refine e_iload dX11_isPlace_0 rfl ?_
  refine e_push dX11_isPlace_1 ?_
  refine e_push dX11_isPlace_2 ?_
  refine n_callS3 dX11_isPlace_4 ca_X11_78  (c_X11_isIn _ _ _ ?_) 
  exact e_iret dX11_isPlace_7 rfl (by first | rfl | exact bI_n _) hq (by decide) (by decide)
set_option maxRecDepth 100000 in
set_option maxHeartbeats 4000000 in
theorem c_X11_scramble {b0 : Nat} {D : va_G} {dA : Nat → ClassId} {dm : Nat → Nat → Prop} {ad : Nat → Nat → Nat} {Q : PQ} {ct : Nat → Nat → va_E} (seed : Int64) (n : Int32) (hq : Q (some (.long (drw seed n))) dm ad ct) : Ct b0 D dA yX11_scramble cX11_scramble 5 (some .long) (Rm 0) [.long seed, .int n] dm ad ct Q := by
  refine ct_of (by decide) (Nat.le_of_ble_eq_true rfl) ?_
  refine e_lload dX11_scramble_0 rfl ?_
  refine e_iload dX11_scramble_1 rfl ?_
  refine e_i2l dX11_scramble_2 ?_
  refine e_lconst dX11_scramble_3 rfl ?_
  refine e_ladd dX11_scramble_4 ?_
  refine e_ldc2 dX11_scramble_5 kw_X11_260 ?_
  refine e_lmul dX11_scramble_8 ?_
  refine e_ladd dX11_scramble_9 ?_
  refine e_lstore dX11_scramble_10 ?_
  refine e_lload dX11_scramble_11 rfl ?_
  refine e_lload dX11_scramble_12 rfl ?_
  refine e_push dX11_scramble_13 ?_
  refine e_lushr dX11_scramble_15 ?_
  refine e_lxor dX11_scramble_16 ?_
  refine e_ldc2 dX11_scramble_17 kw_X11_262 ?_
  refine e_lmul dX11_scramble_20 ?_
  refine e_lstore dX11_scramble_21 ?_
  refine e_lload dX11_scramble_22 rfl ?_
  refine e_lload dX11_scramble_23 rfl ?_
  refine e_push dX11_scramble_24 ?_
  refine e_lushr dX11_scramble_26 ?_
  refine e_lxor dX11_scramble_27 ?_
  refine e_ldc2 dX11_scramble_28 kw_X11_264 ?_
  refine e_lmul dX11_scramble_31 ?_
  refine e_lstore dX11_scramble_32 ?_
  refine e_lload dX11_scramble_33 rfl ?_
  refine e_lload dX11_scramble_34 rfl ?_
  refine e_push dX11_scramble_35 ?_
  refine e_lushr dX11_scramble_37 ?_
  refine e_lxor dX11_scramble_38 ?_
  exact e_lret dX11_scramble_39 rfl hq (by decide) (by decide)
set_option maxRecDepth 100000 in
set_option maxHeartbeats 4000000 in
theorem c_X0_at {b0 : Nat} {D : va_G} {dA : Nat → ClassId} {dm : Nat → Nat → Prop} {ad : Nat → Nat → Nat} {Q : PQ} {ct : Nat → Nat → va_E} (i : Int32) {b m : Nat} {f : Nat → Option Nat} (h2 : dm 2 b) (e2 : ct 2 b = .inr (0, [.ref (ad 3 b), .int (nI m)])) (h3 : dm 3 b) (e3 : ct 3 b = rfs dA 2 60 f) (hm : m ≤ 60) (hq : Q (some (va_rf (if inB i 0 (nI m - 1) = true then f (tN i) else none))) dm ad ct) : Ct b0 D dA yX0_at cX0_at 2 (some (.object "ConstantKinds$Constant")) (Rm 1) [.ref (ad 2 b), .int i] dm ad ct Q := by
  refine ct_of (by decide) (Nat.le_of_ble_eq_true rfl) ?_
  refine e_iload dX0_at_0 rfl ?_
  refine e_push dX0_at_1 ?_
  refine e_aload dX0_at_2 rfl ?_
  refine x_get dX0_at_3 fg_X0_17 rfl h2 e2 rfl ?_
  refine e_push dX0_at_6 ?_
  refine e_isub dX0_at_7 ?_
  refine n_callSN3 dX0_at_8 ca_X0_21  (c_X11_isIn _ _ _ ?_) 
  refine e_if_eqB dX0_at_11 (fun h11 => ?_) (fun h11 => ?_)
  · refine e_null dX0_at_23 ?_
    exact e_aret dX0_at_24 rfl (qa hq (by first | (rw [if_neg (by rw [h11]; decide)]; rfl) | (rw [if_pos h11, tN_n (by omega)]))) (by decide) (by decide)
  · obtain ⟨j, hj, rfl⟩ := inB_n (by omega) h11
    refine e_aload dX0_at_14 rfl ?_
    refine x_get dX0_at_15 fg_X0_11 rfl h2 e2 rfl ?_
    refine e_iload dX0_at_18 rfl ?_
    refine x_ald (j) dX0_at_19 rfl h3 e3 rfl rfl (by omega) (by decide) rfl ?_
    refine e_goto dX0_at_20 ?_
    exact e_aret dX0_at_24 rfl (qa hq (by first | (rw [if_neg (by rw [h11]; decide)]; rfl) | (rw [if_pos h11, tN_n (by omega)]))) (by decide) (by decide)
set_option maxRecDepth 100000 in
set_option maxHeartbeats 4000000 in
theorem l_X0_orderOf {b0 : Nat} {D : va_G} {dA : Nat → ClassId} {dm : Nat → Nat → Prop} {ad : Nat → Nat → Nat} {Q : PQ} {ct : Nat → Nat → va_E} {w : Nat} {b m : Nat} {f : Nat → Option Nat} (h2 : dm 2 b) (e2 : ct 2 b = .inr (0, [.ref (ad 3 b), .int (nI m)])) (h3 : dm 3 b) (e3 : ct 3 b = rfs dA 2 60 f) (hm : m ≤ 60) : ∀ k i, i + k = m → Q (some (.int (oI (fnd (fun i => decide (f i = some w)) k i)))) dm ad ct → E b0 D dA yX0_orderOf cX0_orderOf 3 (some .int) (Rm 0) E0 (QFm b0 D dA (Rm 0) Q) 2 (lfA [some (.ref (ad 2 b)), some (.ref w), some (.int (nI i))]) [] dm ad ct 0 0 := by
  intro k
  induction k with
  | zero =>
    intro i hi hq
    refine e_iload dX0_orderOf_2 rfl ?_
    refine e_aload dX0_orderOf_3 rfl ?_
    refine x_get dX0_orderOf_4 fg_X0_17 rfl h2 e2 rfl ?_
    refine e_icmp_ge dX0_orderOf_7 (fun h7 => ?_) (fun h7 => ?_)
    · refine e_push dX0_orderOf_28 ?_
      exact e_iretI dX0_orderOf_30 rfl hq (by decide) (by decide)
    · exact absurd (nI_le (by omega) (by omega)) h7
  | succ k ih =>
    intro i hi hq
    refine e_iload dX0_orderOf_2 rfl ?_
    refine e_aload dX0_orderOf_3 rfl ?_
    refine x_get dX0_orderOf_4 fg_X0_17 rfl h2 e2 rfl ?_
    refine e_icmp_ge dX0_orderOf_7 (fun h7 => absurd h7 (nI_ge (by omega) (by omega))) (fun h7 => ?_)
    refine e_aload dX0_orderOf_10 rfl ?_
    refine x_get dX0_orderOf_11 fg_X0_11 rfl h2 e2 rfl ?_
    refine e_iload dX0_orderOf_14 rfl ?_
    refine x_ald (i) dX0_orderOf_15 rfl h3 e3 rfl rfl (by omega) (by decide) rfl ?_
    refine e_aload dX0_orderOf_16 rfl ?_
    refine e_acmp_ne (r1 := f i) (r2 := some w) dX0_orderOf_17 (fun h17 => ?_) (fun h17 => ?_)
    · refine e_iinc dX0_orderOf_22 rfl (inc1 i) ?_
      refine e_goto dX0_orderOf_25 ?_
      exact e_lvA (ih (i + 1) (by omega) (by rw [fnd_f (decide_eq_false h17)] at hq; exact hq)) ⟨rfl, rfl, rfl, trivial⟩
    · refine e_iload dX0_orderOf_20 rfl ?_
      exact e_iretI dX0_orderOf_21 rfl (by rw [fnd_t (decide_eq_true h17)] at hq; exact hq) (by decide) (by decide)
set_option maxRecDepth 100000 in
set_option maxHeartbeats 4000000 in
theorem c_X0_orderOf {b0 : Nat} {D : va_G} {dA : Nat → ClassId} {dm : Nat → Nat → Prop} {ad : Nat → Nat → Nat} {Q : PQ} {ct : Nat → Nat → va_E} (w : Nat) {b m : Nat} {f : Nat → Option Nat} (h2 : dm 2 b) (e2 : ct 2 b = .inr (0, [.ref (ad 3 b), .int (nI m)])) (h3 : dm 3 b) (e3 : ct 3 b = rfs dA 2 60 f) (hm : m ≤ 60) (hq : Q (some (.int (oI (fnd (fun i => decide (f i = some w)) m 0)))) dm ad ct) : Ct b0 D dA yX0_orderOf cX0_orderOf 3 (some .int) (Rm 0) [.ref (ad 2 b), .ref w] dm ad ct Q := by
  refine ct_of (by decide) (Nat.le_of_ble_eq_true rfl) ?_
  refine e_push dX0_orderOf_0 ?_
  refine e_istore dX0_orderOf_1 ?_
  exact e_lvA (l_X0_orderOf h2 e2 h3 e3 hm m 0 (by omega) hq) ⟨rfl, rfl, rfl, trivial⟩
set_option maxRecDepth 100000 in
set_option maxHeartbeats 4000000 in
theorem l_X0_bearing {b0 : Nat} {D : va_G} {dA : Nat → ClassId} {dm : Nat → Nat → Prop} {ad : Nat → Nat → Nat} {Q : PQ} {ct : Nat → Nat → va_E} {name : Int64} {b m : Nat} {f : Nat → Option Nat} (h2 : dm 2 b) (e2 : ct 2 b = .inr (0, [.ref (ad 3 b), .int (nI m)])) (h3 : dm 3 b) (e3 : ct 3 b = rfs dA 2 60 f) (hm : m ≤ 60) {g : Nat → Nat} {ci : Nat → Nat} {vs : Nat → List Value} {ls : Nat → Int32 × Int32 × Int64 × Int32} (hg : ∀ i, i < m → f i = some (ad 4 (g i)) ∧ dm 4 (g i) ∧ ct 4 (g i) = .inr (ci (g i), .ref (ad 5 (g i)) :: vs (g i)) ∧ (ci (g i) = 3 ∨ ci (g i) = 5 ∨ ci (g i) = 8) ∧ dm 5 (g i) ∧ ct 5 (g i) = .inr (2, [.int (ls (g i)).1, .int (ls (g i)).2.1, .long (ls (g i)).2.2.1, .int (ls (g i)).2.2.2])) : ∀ k i, i + k = m → Q (some (va_rf ((fnd (fun i => decide ((ls (g i)).2.2.1 = name)) k i).bind f))) dm ad ct → E b0 D dA yX0_bearing cX0_bearing 4 (some (.object "ConstantKinds$Constant")) (Rm 0) E0 (QFm b0 D dA (Rm 0) Q) 2 (lfA [some (.ref (ad 2 b)), some (.long name), none, some (.int (nI i))]) [] dm ad ct 0 0 := by
  intro k
  induction k with
  | zero =>
    intro i hi hq
    refine e_iload dX0_bearing_2 rfl ?_
    refine e_aload dX0_bearing_3 rfl ?_
    refine x_get dX0_bearing_4 fg_X0_17 rfl h2 e2 rfl ?_
    refine e_icmp_ge dX0_bearing_7 (fun h7 => ?_) (fun h7 => ?_)
    · refine e_null dX0_bearing_40 ?_
      exact e_aret dX0_bearing_41 rfl hq (by decide) (by decide)
    · exact absurd (nI_le (by omega) (by omega)) h7
  | succ k ih =>
    intro i hi hq
    refine e_iload dX0_bearing_2 rfl ?_
    refine e_aload dX0_bearing_3 rfl ?_
    refine x_get dX0_bearing_4 fg_X0_17 rfl h2 e2 rfl ?_
    refine e_icmp_ge dX0_bearing_7 (fun h7 => ?_) (fun h7 => ?_)
    · exact absurd h7 (nI_ge (by omega) (by omega))
    · obtain ⟨g1, g2, g3, g4, g5, g6⟩ := hg i (by omega)
      refine e_aload dX0_bearing_10 rfl ?_
      refine x_get dX0_bearing_11 fg_X0_11 rfl h2 e2 rfl ?_
      refine e_iload dX0_bearing_14 rfl ?_
      refine x_ald (i) dX0_bearing_15 rfl h3 e3 rfl rfl (by omega) (by decide) g1 ?_
      refine x_get dX0_bearing_16 (fg_X0_25 g4) rfl g2 g3 rfl ?_
      refine x_get dX0_bearing_19 fg_X0_29 rfl g5 g6 rfl ?_
      refine e_lload dX0_bearing_22 rfl ?_
      refine e_lcmp dX0_bearing_23 ?_
      refine e_if_ne dX0_bearing_24 (fun h24 => ?_) (fun h24 => ?_)
      · have h24 := lcmp_ne h24
        refine e_iinc dX0_bearing_34 rfl (inc1 i) ?_
        refine e_goto dX0_bearing_37 ?_
        exact e_lvA (ih (i + 1) (by omega) (by rw [fnd_f (decide_eq_false h24)] at hq; exact hq)) ⟨rfl, rfl, rfl, trivial⟩
      · have h24 := lcmp_eq h24
        refine e_aload dX0_bearing_27 rfl ?_
        refine x_get dX0_bearing_28 fg_X0_11 rfl h2 e2 rfl ?_
        refine e_iload dX0_bearing_31 rfl ?_
        refine x_ald (i) dX0_bearing_32 rfl h3 e3 rfl rfl (by omega) (by decide) g1 ?_
        exact e_aret dX0_bearing_33 rfl (by rw [fnd_t (decide_eq_true h24)] at hq; exact qa hq (by rw [show (some i : Option Nat).bind f = f i from rfl, g1])) (by decide) (by decide)
set_option maxRecDepth 100000 in
set_option maxHeartbeats 4000000 in
theorem c_X0_bearing {b0 : Nat} {D : va_G} {dA : Nat → ClassId} {dm : Nat → Nat → Prop} {ad : Nat → Nat → Nat} {Q : PQ} {ct : Nat → Nat → va_E} (name : Int64) {b m : Nat} {f : Nat → Option Nat} (h2 : dm 2 b) (e2 : ct 2 b = .inr (0, [.ref (ad 3 b), .int (nI m)])) (h3 : dm 3 b) (e3 : ct 3 b = rfs dA 2 60 f) (hm : m ≤ 60) {g : Nat → Nat} {ci : Nat → Nat} {vs : Nat → List Value} {ls : Nat → Int32 × Int32 × Int64 × Int32} (hg : ∀ i, i < m → f i = some (ad 4 (g i)) ∧ dm 4 (g i) ∧ ct 4 (g i) = .inr (ci (g i), .ref (ad 5 (g i)) :: vs (g i)) ∧ (ci (g i) = 3 ∨ ci (g i) = 5 ∨ ci (g i) = 8) ∧ dm 5 (g i) ∧ ct 5 (g i) = .inr (2, [.int (ls (g i)).1, .int (ls (g i)).2.1, .long (ls (g i)).2.2.1, .int (ls (g i)).2.2.2])) (hq : Q (some (va_rf ((fnd (fun i => decide ((ls (g i)).2.2.1 = name)) m 0).bind f))) dm ad ct) : Ct b0 D dA yX0_bearing cX0_bearing 4 (some (.object "ConstantKinds$Constant")) (Rm 0) [.ref (ad 2 b), .long name] dm ad ct Q := by
  refine ct_of (by decide) (Nat.le_of_ble_eq_true rfl) ?_
  refine e_push dX0_bearing_0 ?_
  refine e_istore dX0_bearing_1 ?_
  exact e_lvA (l_X0_bearing h2 e2 h3 e3 hm hg m 0 (by omega) hq) ⟨rfl, rfl, rfl, trivial⟩
set_option maxRecDepth 100000 in
set_option maxHeartbeats 4000000 in
theorem c_X0_append {b0 : Nat} {D : va_G} {dA : Nat → ClassId} {dm : Nat → Nat → Prop} {ad : Nat → Nat → Nat} {Q : PQ} {ct : Nat → Nat → va_E} {k2 i2 ci : Nat} {fs : List Value} {b m : Nat} {f : Nat → Option Nat} (h2 : dm 2 b) (e2 : ct 2 b = .inr (0, [.ref (ad 3 b), .int (nI m)])) (h3 : dm 3 b) (e3 : ct 3 b = rfs dA 2 60 f) (hm : m < 60) (hk2 : dm k2 i2) (he2 : ct k2 i2 = .inr (ci, fs)) (hci : ci = 3 ∨ ci = 5 ∨ ci = 8) (hn2 : k2 ≠ 2 ∧ k2 ≠ 3) (hq : Q (some (.int (nI m))) dm ad (u2 (u2 ct 3 b (rfs dA 2 60 (va_up f m (some (ad k2 i2))))) 2 b (.inr (0, [.ref (ad 3 b), .int (nI (m + 1))])))) : Ct b0 D dA yX0_append cX0_append 2 (some .int) (Rm 0) [.ref (ad 2 b), .ref (ad k2 i2)] dm ad ct Q := by
  refine ct_of (by decide) (Nat.le_of_ble_eq_true rfl) ?_
  refine e_aload dX0_append_0 rfl ?_
  refine x_get dX0_append_1 fg_X0_17 rfl h2 e2 rfl ?_
  refine e_push dX0_append_4 ?_
  refine e_icmp_lt dX0_append_6 (fun h6 => ?_) (fun h6 => ?_)
  · refine e_aload dX0_append_12 rfl ?_
    refine x_get dX0_append_13 fg_X0_11 rfl h2 e2 rfl ?_
    refine e_aload dX0_append_16 rfl ?_
    refine x_get dX0_append_17 fg_X0_17 rfl h2 e2 rfl ?_
    refine e_aload dX0_append_20 rfl ?_
    refine x_ast (m) dX0_append_21 rfl h3 e3 rfl rfl (by omega) (by decide) rfl hk2 he2 (fa_c hci) ?_
    refine e_aload dX0_append_22 rfl ?_
    refine e_dup dX0_append_23 ?_
    refine x_get dX0_append_24 fg_X0_17 rfl h2 e2 rfl ?_
    refine e_push dX0_append_27 ?_
    refine e_iadd dX0_append_28 ?_
    refine e_topi (nI_1 m) ?_
    refine x_put dX0_append_29 fp_X0_17 rfl h2 e2 rfl rfl (Nat.le_of_ble_eq_true rfl) ?_
    refine e_aload dX0_append_32 rfl ?_
    refine x_get dX0_append_33 fg_X0_17 rfl h2 u2_s rfl ?_
    refine e_push dX0_append_36 ?_
    refine e_isub dX0_append_37 ?_
    exact e_iretI dX0_append_38 rfl (qi hq (nI_pred m)) (by decide) (by decide)
  · exact absurd (show nI m < nI 60 from (nI_ltI (by omega) (by decide)).mpr hm) h6
set_option maxRecDepth 100000 in
set_option maxHeartbeats 4000000 in
theorem c_X0_swap {b0 : Nat} {D : va_G} {dA : Nat → ClassId} {dm : Nat → Nat → Prop} {ad : Nat → Nat → Nat} {Q : PQ} {ct : Nat → Nat → va_E} {i j : Nat} {g : Nat → Nat} {ci : Nat → Nat} {vs : Nat → List Value} {b m : Nat} {f : Nat → Option Nat} (h2 : dm 2 b) (e2 : ct 2 b = .inr (0, [.ref (ad 3 b), .int (nI m)])) (h3 : dm 3 b) (e3 : ct 3 b = rfs dA 2 60 f) (hm : m ≤ 60) (hg : ∀ i, i < m → f i = some (ad 4 (g i)) ∧ dm 4 (g i) ∧ ct 4 (g i) = .inr (ci (g i), vs (g i)) ∧ (ci (g i) = 3 ∨ ci (g i) = 5 ∨ ci (g i) = 8)) (hi : i < m) (hj : j < m) (hq : Q none dm ad (u2 ct 3 b (rfs dA 2 60 (va_up (va_up f i (f j)) j (f i))))) : Ct b0 D dA yX0_swap cX0_swap 4 none (Rm 1) [.ref (ad 2 b), .int (nI i), .int (nI j)] dm ad ct Q := by
  refine ct_of (by decide) (Nat.le_of_ble_eq_true rfl) ?_
  refine e_iload dX0_swap_0 rfl ?_
  refine e_push dX0_swap_1 ?_
  refine e_aload dX0_swap_2 rfl ?_
  refine x_get dX0_swap_3 fg_X0_17 rfl h2 e2 rfl ?_
  refine e_push dX0_swap_6 ?_
  refine e_isub dX0_swap_7 ?_
  refine n_callSN3 dX0_swap_8 ca_X0_21  (c_X11_isIn _ _ _ ?_) 
  refine e_if_eqB dX0_swap_11 (fun h11 => ?_) (fun h11 => ?_)
  · exact absurd (inB_nN (by omega) hi) (by rw [h11]; decide)
  · refine e_iload dX0_swap_14 rfl ?_
    refine e_push dX0_swap_15 ?_
    refine e_aload dX0_swap_16 rfl ?_
    refine x_get dX0_swap_17 fg_X0_17 rfl h2 e2 rfl ?_
    refine e_push dX0_swap_20 ?_
    refine e_isub dX0_swap_21 ?_
    refine n_callSN3 dX0_swap_22 ca_X0_21  (c_X11_isIn _ _ _ ?_) 
    refine e_if_eqB dX0_swap_25 (fun h25 => ?_) (fun h25 => ?_)
    · exact absurd (inB_nN (by omega) hj) (by rw [h25]; decide)
    · obtain ⟨i1, i2, i3, i4⟩ := hg i hi
      obtain ⟨j1, j2, j3, j4⟩ := hg j hj
      rw [i1, j1] at hq
      refine e_aload dX0_swap_28 rfl ?_
      refine x_get dX0_swap_29 fg_X0_11 rfl h2 e2 rfl ?_
      refine e_iload dX0_swap_32 rfl ?_
      refine x_ald (i) dX0_swap_33 rfl h3 e3 rfl rfl (by omega) (by decide) i1 ?_
      refine e_astore dX0_swap_34 ?_
      refine e_aload dX0_swap_35 rfl ?_
      refine x_get dX0_swap_36 fg_X0_11 rfl h2 e2 rfl ?_
      refine e_iload dX0_swap_39 rfl ?_
      refine e_aload dX0_swap_40 rfl ?_
      refine x_get dX0_swap_41 fg_X0_11 rfl h2 e2 rfl ?_
      refine e_iload dX0_swap_44 rfl ?_
      refine x_ald (j) dX0_swap_45 rfl h3 e3 rfl rfl (by omega) (by decide) j1 ?_
      refine x_ast (i) dX0_swap_46 rfl h3 e3 rfl rfl (by omega) (by decide) rfl j2 j3 (fa_c j4) ?_
      refine e_aload dX0_swap_47 rfl ?_
      refine x_get dX0_swap_48 fg_X0_11 rfl h2 e2 rfl ?_
      refine e_iload dX0_swap_51 rfl ?_
      refine e_aload dX0_swap_52 rfl ?_
      refine x_ast (j) dX0_swap_53 rfl h3 u2_s rfl rfl (by omega) (by decide) rfl i2 i3 (fa_c i4) ?_
      exact e_vret dX0_swap_54 rfl (by rw [u2_u2]; exact hq) (by decide) (by decide)
