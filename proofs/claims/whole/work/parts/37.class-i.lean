set_option maxRecDepth 100000 in
set_option maxHeartbeats 4000000 in
theorem c_X9_init {b0 : Nat} {D : va_G} {dA : Nat → ClassId} {dm : Nat → Nat → Prop} {ad : Nat → Nat → Nat} {Q : PQ} {ct : Nat → Nat → va_E} {a : Nat} (hq : Q none dm ad ct) : Ct b0 D dA yX9_init cX9_init 1 none (Rm 1) [.ref a] dm ad ct Q := by
  refine ct_of (by decide) (Nat.le_of_ble_eq_true rfl) ?_
  refine e_aload dX9_init_0 rfl ?_
  refine e_objInit dX9_init_1 oi_X9_1 ow_i ow_c (by decide) (by decide) ?_
  exact e_vret dX9_init_4 rfl hq (by decide) (by decide)
set_option maxRecDepth 100000 in
set_option maxHeartbeats 4000000 in
theorem c_X1_init {b0 : Nat} {D : va_G} {dA : Nat → ClassId} {dm : Nat → Nat → Prop} {ad : Nat → Nat → Nat} {Q : PQ} {ct : Nat → Nat → va_E} {x a0 : Nat} (kd a b : Int32) (ha : ad 15 x = a0) (h : dm 15 x) (e : ct 15 x = .inr (1, [.int 0, .int 0, .int 0])) (hq : Q none dm ad (u2 ct 15 x (.inr (1, [.int kd, .int a, .int b])))) : Ct b0 D dA yX1_init cX1_init 4 none (Rm 1) [.ref a0, .int kd, .int a, .int b] dm ad ct Q := by
  refine ct_of (by decide) (Nat.le_of_ble_eq_true rfl) ?_
  refine e_aload dX1_init_0 rfl ?_
  refine e_objInit dX1_init_1 oi_X1_3 ow_i ow_c (by decide) (by decide) ?_
  refine e_aload dX1_init_4 rfl ?_
  refine e_iload dX1_init_5 rfl ?_
  refine x_putF dX1_init_6 fp_X1_9 rfl ha h e rfl rfl (Nat.le_of_ble_eq_true rfl) ?_
  refine e_aload dX1_init_9 rfl ?_
  refine e_iload dX1_init_10 rfl ?_
  refine x_putF dX1_init_11 fp_X1_15 rfl ha h u2_s rfl rfl (Nat.le_of_ble_eq_true rfl) ?_
  refine e_aload dX1_init_14 rfl ?_
  refine e_iload dX1_init_15 rfl ?_
  refine x_putF dX1_init_16 fp_X1_18 rfl ha h u2_s rfl rfl (Nat.le_of_ble_eq_true rfl) ?_
  exact e_vret dX1_init_19 rfl (by rw [u2_u2, u2_u2]; exact hq) (by decide) (by decide)
set_option maxRecDepth 100000 in
set_option maxHeartbeats 4000000 in
theorem c_X3_init {b0 : Nat} {D : va_G} {dA : Nat → ClassId} {dm : Nat → Nat → Prop} {ad : Nat → Nat → Nat} {Q : PQ} {ct : Nat → Nat → va_E} {x a0 : Nat} (n kd : Int32) (nm : Int64) (fo0 : Int32) (ha : ad 5 x = a0) (h : dm 5 x) (e : ct 5 x = .inr (2, [.int 0, .int 0, .long 0, .int 0])) (hq : Q none dm ad (u2 ct 5 x (.inr (2, [.int n, .int kd, .long nm, .int fo0])))) : Ct b0 D dA yX3_init cX3_init 6 none (Rm 1) [.ref a0, .int n, .int kd, .long nm, .int fo0] dm ad ct Q := by
  refine ct_of (by decide) (Nat.le_of_ble_eq_true rfl) ?_
  refine e_aload dX3_init_0 rfl ?_
  refine e_objInit dX3_init_1 oi_X3_1 ow_i ow_c (by decide) (by decide) ?_
  refine e_aload dX3_init_4 rfl ?_
  refine e_iload dX3_init_5 rfl ?_
  refine x_putF dX3_init_6 fp_X3_7 rfl ha h e rfl rfl (Nat.le_of_ble_eq_true rfl) ?_
  refine e_aload dX3_init_9 rfl ?_
  refine e_iload dX3_init_10 rfl ?_
  refine x_putF dX3_init_11 fp_X3_13 rfl ha h u2_s rfl rfl (Nat.le_of_ble_eq_true rfl) ?_
  refine e_aload dX3_init_14 rfl ?_
  refine e_lload dX3_init_15 rfl ?_
  refine x_putF dX3_init_16 fp_X3_16 rfl ha h u2_s rfl rfl (Nat.le_of_ble_eq_true rfl) ?_
  refine e_aload dX3_init_19 rfl ?_
  refine e_iload dX3_init_20 rfl ?_
  refine x_putF dX3_init_22 fp_X3_20 rfl ha h u2_s rfl rfl (Nat.le_of_ble_eq_true rfl) ?_
  exact e_vret dX3_init_25 rfl (by rw [u2_u2, u2_u2, u2_u2]; exact hq) (by decide) (by decide)
set_option maxRecDepth 100000 in
set_option maxHeartbeats 4000000 in
theorem c_X2_init {b0 : Nat} {D : va_G} {dA : Nat → ClassId} {dm : Nat → Nat → Prop} {ad : Nat → Nat → Nat} {Q : PQ} {ct : Nat → Nat → va_E} {c ci l a0 : Nat} (ha : ad 4 c = a0) (h : dm 4 c) (e : ct 4 c = .inr (ci, [.null, .int 0, .int 0])) (hci : ci = 3 ∨ ci = 5 ∨ ci = 8) (hq : Q none dm ad (u2 ct 4 c (.inr (ci, [.ref l, .int 0, .int 0])))) : Ct b0 D dA yX2_init cX2_init 2 none (Rm 2) [.ref a0, .ref l] dm ad ct Q := by
  refine ct_of (by decide) (Nat.le_of_ble_eq_true rfl) ?_
  refine e_aload dX2_init_0 rfl ?_
  refine n_callIN0 dX2_init_1 ca_X2_1  (c_X9_init ?_) 
  refine e_aload dX2_init_4 rfl ?_
  refine e_push dX2_init_5 ?_
  refine x_put dX2_init_6 (fp_X2_7 hci) ha h e rfl rfl (Nat.le_of_ble_eq_true rfl) ?_
  refine e_aload dX2_init_9 rfl ?_
  refine e_push dX2_init_10 ?_
  refine x_put dX2_init_11 (fp_X2_13 hci) ha h u2_s rfl rfl (Nat.le_of_ble_eq_true rfl) ?_
  refine e_aload dX2_init_14 rfl ?_
  refine e_aload dX2_init_15 rfl ?_
  refine x_putF dX2_init_16 (fp_X2_16 hci) rfl ha h u2_s rfl rfl (Nat.le_of_ble_eq_true rfl) ?_
  exact e_vret dX2_init_19 rfl (by rw [u2_u2, u2_u2]; exact hq) (by decide) (by decide)
set_option maxRecDepth 100000 in
set_option maxHeartbeats 4000000 in
theorem c_X6_init {b0 : Nat} {D : va_G} {dA : Nat → ClassId} {dm : Nat → Nat → Prop} {ad : Nat → Nat → Nat} {Q : PQ} {ct : Nat → Nat → va_E} {c ci l a0 : Nat} (ha : ad 4 c = a0) (h : dm 4 c) (e : ct 4 c = .inr (ci, [.null, .int 0, .int 0])) (hci : ci = 3 ∨ ci = 5 ∨ ci = 8) (hq : Q none dm ad (u2 ct 4 c (.inr (ci, [.ref l, .int 0, .int 0])))) : Ct b0 D dA yX6_init cX6_init 2 none (Rm 3) [.ref a0, .ref l] dm ad ct Q := by
  refine ct_of (by decide) (Nat.le_of_ble_eq_true rfl) ?_
  refine e_aload dX6_init_0 rfl ?_
  refine e_aload dX6_init_1 rfl ?_
  refine n_callI1 dX6_init_2 ca_X6_3  (c_X2_init ha h e hci ?_) 
  exact e_vret dX6_init_5 rfl hq (by decide) (by decide)
set_option maxRecDepth 100000 in
set_option maxHeartbeats 4000000 in
theorem c_X10_init {b0 : Nat} {D : va_G} {dA : Nat → ClassId} {dm : Nat → Nat → Prop} {ad : Nat → Nat → Nat} {Q : PQ} {ct : Nat → Nat → va_E} {c ci l a0 : Nat} (ha : ad 4 c = a0) (h : dm 4 c) (e : ct 4 c = .inr (ci, [.null, .int 0, .int 0])) (hci : ci = 3 ∨ ci = 5 ∨ ci = 8) (hq : Q none dm ad (u2 ct 4 c (.inr (ci, [.ref l, .int 0, .int 0])))) : Ct b0 D dA yX10_init cX10_init 2 none (Rm 3) [.ref a0, .ref l] dm ad ct Q := by
  refine ct_of (by decide) (Nat.le_of_ble_eq_true rfl) ?_
  refine e_aload dX10_init_0 rfl ?_
  refine e_aload dX10_init_1 rfl ?_
  refine n_callI1 dX10_init_2 ca_X10_3  (c_X2_init ha h e hci ?_) 
  exact e_vret dX10_init_5 rfl hq (by decide) (by decide)
set_option maxRecDepth 100000 in
set_option maxHeartbeats 4000000 in
theorem c_X4_init {b0 : Nat} {D : va_G} {dA : Nat → ClassId} {dm : Nat → Nat → Prop} {ad : Nat → Nat → Nat} {Q : PQ} {ct : Nat → Nat → va_E} {c ci l a0 : Nat} (ha : ad 4 c = a0) (h : dm 4 c) (e : ct 4 c = .inr (ci, [.null, .int 0, .int 0])) (hci : ci = 3 ∨ ci = 5 ∨ ci = 8) (hq : Q none dm ad (u2 ct 4 c (.inr (ci, [.ref l, .int 0, .int 0])))) : Ct b0 D dA yX4_init cX4_init 2 none (Rm 4) [.ref a0, .ref l] dm ad ct Q := by
  refine ct_of (by decide) (Nat.le_of_ble_eq_true rfl) ?_
  refine e_aload dX4_init_0 rfl ?_
  refine e_aload dX4_init_1 rfl ?_
  refine n_callI1 dX4_init_2 ca_X4_3  (c_X10_init ha h e hci ?_) 
  exact e_vret dX4_init_5 rfl hq (by decide) (by decide)
set_option maxRecDepth 100000 in
set_option maxHeartbeats 4000000 in
theorem c_X11_newConstant {b0 : Nat} {D : va_G} {dA : Nat → ClassId} {dm : Nat → Nat → Prop} {ad : Nat → Nat → Nat} {Q : PQ} {ct : Nat → Nat → va_E} (c : Nat) {l : Nat} (bo : Int32) (hbo : bo = 0 ∨ bo = 1 ∨ bo = 2) (hq : ∀ a, Q (some (.ref a)) (dmU dm 4 c) (u2 ad 4 c a) (u2 ct 4 c (.inr (cb bo, [.ref l, .int 0, .int 0])))) : Ct b0 D dA yX11_newConstant cX11_newConstant 2 (some (.object "ConstantKinds$Constant")) (RmA 5 1 3) [.int bo, .ref l] dm ad ct Q := by
  refine ct_of (by decide) (Nat.le_of_ble_eq_true rfl) ?_
  refine e_iload dX11_newConstant_0 rfl ?_
  rcases hbo with rfl | rfl | rfl
  · refine e_look (off := 45) (t := 46) dX11_newConstant_1 (by decide) (by decide) (by decide) ?_
    refine e_new 4 c dX11_newConstant_46 fn_X11_257 (by decide) (by decide) (fun a => ?_)
    refine e_dup dX11_newConstant_49 ?_
    refine e_aload dX11_newConstant_50 rfl ?_
    refine n_callI1 dX11_newConstant_51 ca_X11_259 (c_X6_init (c := c) u2_s (Or.inr ⟨rfl, rfl⟩) u2_s (Or.inr (Or.inl rfl)) ?_)
    exact e_aret dX11_newConstant_54 rfl (by rw [u2_u2]; exact hq a) (by decide) (by decide)
  · refine e_look (off := 27) (t := 28) dX11_newConstant_1 (by decide) (by decide) (by decide) ?_
    refine e_new 4 c dX11_newConstant_28 fn_X11_249 (by decide) (by decide) (fun a => ?_)
    refine e_dup dX11_newConstant_31 ?_
    refine e_aload dX11_newConstant_32 rfl ?_
    refine n_callI1 dX11_newConstant_33 ca_X11_251 (c_X10_init (c := c) u2_s (Or.inr ⟨rfl, rfl⟩) u2_s (Or.inr (Or.inr rfl)) ?_)
    exact e_aret dX11_newConstant_36 rfl (by rw [u2_u2]; exact hq a) (by decide) (by decide)
  · refine e_look (off := 36) (t := 37) dX11_newConstant_1 (by decide) (by decide) (by decide) ?_
    refine e_new 4 c dX11_newConstant_37 fn_X11_254 (by decide) (by decide) (fun a => ?_)
    refine e_dup dX11_newConstant_40 ?_
    refine e_aload dX11_newConstant_41 rfl ?_
    refine n_callI1 dX11_newConstant_42 ca_X11_256 (c_X4_init (c := c) u2_s (Or.inr ⟨rfl, rfl⟩) u2_s (Or.inl rfl) ?_)
    exact e_aret dX11_newConstant_45 rfl (by rw [u2_u2]; exact hq a) (by decide) (by decide)
set_option maxRecDepth 100000 in
set_option maxHeartbeats 4000000 in
theorem c_X7_init {b0 : Nat} {D : va_G} {dA : Nat → ClassId} {dm : Nat → Nat → Prop} {ad : Nat → Nat → Nat} {Q : PQ} {ct : Nat → Nat → va_E} {r n a0 : Nat} {v : Value} (hn : n ≤ 12) (ha : ad 6 r = a0) (h : dm 6 r) (e : ct 6 r = .inr (6, [v])) (hq : ∀ a, Q none (dmU dm 7 r) (u2 ad 7 r a) (u2 (u2 ct 7 r (ins dA n (fun _ => 0))) 6 r (.inr (6, [.ref a])))) : Ct b0 D dA yX7_init cX7_init 2 none (RmA 2 1 12) [.ref a0, .int (nI n)] dm ad ct Q := by
  refine ct_of (by decide) (Nat.le_of_ble_eq_true rfl) ?_
  refine e_aload dX7_init_0 rfl ?_
  refine n_callIN0 dX7_init_1 ca_X7_3  (c_X9_init ?_) 
  refine e_aload dX7_init_4 rfl ?_
  refine e_iload dX7_init_5 rfl ?_
  refine e_push dX7_init_6 ?_
  refine e_push dX7_init_7 ?_
  refine n_callSN3 dX7_init_9 ca_X7_9  (c_X11_isIn _ _ _ ?_) 
  refine e_if_eqB dX7_init_12 (fun h12 => ?_) (fun h12 => ?_)
  · rw [show inB (nI n) 0 12 = true from inB_ln (a := 0) (b := 12) (by omega) hn (by decide)] at h12; cases h12
  · refine e_iload dX7_init_15 rfl ?_
    refine e_goto dX7_init_16 ?_
    refine e_newi (7) (r) dX7_init_20 rfl (by omega) (by decide) (show 0 + n ≤ 12 by omega) aw_int (fun a => ?_)
    refine x_putF dX7_init_22 fp_X7_13 rfl (show u2 ad 7 r a 6 r = a0 from ha) (show dmU dm 7 r 6 r from Or.inl h) (show u2 ct 7 r (ins dA n (fun _ => 0)) 6 r = .inr (6, [v]) from e) rfl rfl (Nat.le_of_ble_eq_true rfl) ?_
    exact e_vret dX7_init_25 rfl (hq a) (by decide) (show 0 + n ≤ 12 by omega)
set_option maxRecDepth 100000 in
set_option maxHeartbeats 4000000 in
theorem c_X11_isPartAllowed {b0 : Nat} {D : va_G} {dA : Nat → ClassId} {dm : Nat → Nat → Prop} {ad : Nat → Nat → Nat} {Q : PQ} {ct : Nat → Nat → va_E} (sort k : Int32) (hq : Q (some (.int (bI (paB sort k)))) dm ad ct) : Ct b0 D dA yX11_isPartAllowed cX11_isPartAllowed 2 (some .boolean) (Rm 1) [.int sort, .int k] dm ad ct Q := by
  refine ct_of (by decide) (Nat.le_of_ble_eq_true rfl) ?_
  refine e_iload dX11_isPartAllowed_0 rfl ?_
  rcases sw_04 sort with rfl | rfl | rfl | rfl | rfl | ⟨w0, w1, w2, w3, w4, w5⟩
  · refine e_tab (off := 35) (t := 36) dX11_isPartAllowed_1 (by decide) (by decide) (by decide) (by decide) ?_
    refine e_iload dX11_isPartAllowed_36 rfl ?_
    refine e_push dX11_isPartAllowed_37 ?_
    refine e_push dX11_isPartAllowed_38 ?_
    refine n_callS3 dX11_isPartAllowed_41 ca_X11_78  (c_X11_isIn _ _ _ ?_) 
    exact e_iret dX11_isPartAllowed_44 rfl (by first | rfl | exact bI_n _) (qi hq (by congr 1; unfold paB; rw [show inB (0 : Int32) 0 4 = true from by decide]; try simp)) (by decide) (by decide)
  · refine e_tab (off := 44) (t := 45) dX11_isPartAllowed_1 (by decide) (by decide) (by decide) (by decide) ?_
    refine e_iload dX11_isPartAllowed_45 rfl ?_
    refine e_push dX11_isPartAllowed_46 ?_
    refine e_push dX11_isPartAllowed_47 ?_
    refine n_callS3 dX11_isPartAllowed_48 ca_X11_78  (c_X11_isIn _ _ _ ?_) 
    exact e_iret dX11_isPartAllowed_51 rfl (by first | rfl | exact bI_n _) (qi hq rfl) (by decide) (by decide)
  · refine e_tab (off := 58) (t := 59) dX11_isPartAllowed_1 (by decide) (by decide) (by decide) (by decide) ?_
    refine e_iload dX11_isPartAllowed_59 rfl ?_
    refine e_push dX11_isPartAllowed_60 ?_
    refine e_icmp_eq dX11_isPartAllowed_61 (fun h61 => ?_) (fun h61 => ?_)
    · refine e_push dX11_isPartAllowed_69 ?_
      refine e_goto dX11_isPartAllowed_70 ?_
      exact e_iret dX11_isPartAllowed_74 rfl (by first | rfl | exact bI_n _) (qi hq (by first | (exact absurd rfl h61; done) | (exact absurd h61 (by decide); done) | (exact absurd rfl h66; done) | (exact absurd h66 (by decide); done) | exact (congrArg bI (pa_2 k)).symm | exact (congrArg bI (pa_3 k)).symm | (exact absurd h61 w2; done) | (exact absurd h66 w3; done) | (unfold paB; rw [w5]; rfl))) (by decide) (by decide)
    · refine e_iload dX11_isPartAllowed_64 rfl ?_
      refine e_push dX11_isPartAllowed_65 ?_
      refine e_icmp_ne dX11_isPartAllowed_66 (fun h66 => ?_) (fun h66 => ?_)
      · refine e_push dX11_isPartAllowed_73 ?_
        exact e_iret dX11_isPartAllowed_74 rfl (by first | rfl | exact bI_n _) (qi hq (by first | (exact absurd rfl h61; done) | (exact absurd h61 (by decide); done) | (exact absurd rfl h66; done) | (exact absurd h66 (by decide); done) | exact (congrArg bI (pa_2 k)).symm | exact (congrArg bI (pa_3 k)).symm | (exact absurd h61 w2; done) | (exact absurd h66 w3; done) | (unfold paB; rw [w5]; rfl))) (by decide) (by decide)
      · refine e_push dX11_isPartAllowed_69 ?_
        refine e_goto dX11_isPartAllowed_70 ?_
        exact e_iret dX11_isPartAllowed_74 rfl (by first | rfl | exact bI_n _) (qi hq (by first | (exact absurd rfl h61; done) | (exact absurd h61 (by decide); done) | (exact absurd rfl h66; done) | (exact absurd h66 (by decide); done) | exact (congrArg bI (pa_2 k)).symm | exact (congrArg bI (pa_3 k)).symm | (exact absurd h61 w2; done) | (exact absurd h66 w3; done) | (unfold paB; rw [w5]; rfl))) (by decide) (by decide)
  · refine e_tab (off := 58) (t := 59) dX11_isPartAllowed_1 (by decide) (by decide) (by decide) (by decide) ?_
    refine e_iload dX11_isPartAllowed_59 rfl ?_
    refine e_push dX11_isPartAllowed_60 ?_
    refine e_icmp_eq dX11_isPartAllowed_61 (fun h61 => ?_) (fun h61 => ?_)
    · refine e_push dX11_isPartAllowed_69 ?_
      refine e_goto dX11_isPartAllowed_70 ?_
      exact e_iret dX11_isPartAllowed_74 rfl (by first | rfl | exact bI_n _) (qi hq (by first | (exact absurd rfl h61; done) | (exact absurd h61 (by decide); done) | (exact absurd rfl h66; done) | (exact absurd h66 (by decide); done) | exact (congrArg bI (pa_2 k)).symm | exact (congrArg bI (pa_3 k)).symm | (exact absurd h61 w2; done) | (exact absurd h66 w3; done) | (unfold paB; rw [w5]; rfl))) (by decide) (by decide)
    · refine e_iload dX11_isPartAllowed_64 rfl ?_
      refine e_push dX11_isPartAllowed_65 ?_
      refine e_icmp_ne dX11_isPartAllowed_66 (fun h66 => ?_) (fun h66 => ?_)
      · refine e_push dX11_isPartAllowed_73 ?_
        exact e_iret dX11_isPartAllowed_74 rfl (by first | rfl | exact bI_n _) (qi hq (by first | (exact absurd rfl h61; done) | (exact absurd h61 (by decide); done) | (exact absurd rfl h66; done) | (exact absurd h66 (by decide); done) | exact (congrArg bI (pa_2 k)).symm | exact (congrArg bI (pa_3 k)).symm | (exact absurd h61 w2; done) | (exact absurd h66 w3; done) | (unfold paB; rw [w5]; rfl))) (by decide) (by decide)
      · refine e_push dX11_isPartAllowed_69 ?_
        refine e_goto dX11_isPartAllowed_70 ?_
        exact e_iret dX11_isPartAllowed_74 rfl (by first | rfl | exact bI_n _) (qi hq (by first | (exact absurd rfl h61; done) | (exact absurd h61 (by decide); done) | (exact absurd rfl h66; done) | (exact absurd h66 (by decide); done) | exact (congrArg bI (pa_2 k)).symm | exact (congrArg bI (pa_3 k)).symm | (exact absurd h61 w2; done) | (exact absurd h66 w3; done) | (unfold paB; rw [w5]; rfl))) (by decide) (by decide)
  · refine e_tab (off := 51) (t := 52) dX11_isPartAllowed_1 (by decide) (by decide) (by decide) (by decide) ?_
    refine e_iload dX11_isPartAllowed_52 rfl ?_
    refine e_push dX11_isPartAllowed_53 ?_
    refine e_push dX11_isPartAllowed_54 ?_
    refine n_callS3 dX11_isPartAllowed_55 ca_X11_78  (c_X11_isIn _ _ _ ?_) 
    exact e_iret dX11_isPartAllowed_58 rfl (by first | rfl | exact bI_n _) (qi hq rfl) (by decide) (by decide)
  · refine e_tabD (t := 59) dX11_isPartAllowed_1 (sw_f w5) (by decide) ?_
    refine e_iload dX11_isPartAllowed_59 rfl ?_
    refine e_push dX11_isPartAllowed_60 ?_
    refine e_icmp_eq dX11_isPartAllowed_61 (fun h61 => ?_) (fun h61 => ?_)
    · refine e_push dX11_isPartAllowed_69 ?_
      refine e_goto dX11_isPartAllowed_70 ?_
      exact e_iret dX11_isPartAllowed_74 rfl (by first | rfl | exact bI_n _) (qi hq (by first | (exact absurd rfl h61; done) | (exact absurd h61 (by decide); done) | (exact absurd rfl h66; done) | (exact absurd h66 (by decide); done) | exact (congrArg bI (pa_2 k)).symm | exact (congrArg bI (pa_3 k)).symm | (exact absurd h61 w2; done) | (exact absurd h66 w3; done) | (unfold paB; rw [w5]; rfl))) (by decide) (by decide)
    · refine e_iload dX11_isPartAllowed_64 rfl ?_
      refine e_push dX11_isPartAllowed_65 ?_
      refine e_icmp_ne dX11_isPartAllowed_66 (fun h66 => ?_) (fun h66 => ?_)
      · refine e_push dX11_isPartAllowed_73 ?_
        exact e_iret dX11_isPartAllowed_74 rfl (by first | rfl | exact bI_n _) (qi hq (by first | (exact absurd rfl h61; done) | (exact absurd h61 (by decide); done) | (exact absurd rfl h66; done) | (exact absurd h66 (by decide); done) | exact (congrArg bI (pa_2 k)).symm | exact (congrArg bI (pa_3 k)).symm | (exact absurd h61 w2; done) | (exact absurd h66 w3; done) | (unfold paB; rw [w5]; rfl))) (by decide) (by decide)
      · refine e_push dX11_isPartAllowed_69 ?_
        refine e_goto dX11_isPartAllowed_70 ?_
        exact e_iret dX11_isPartAllowed_74 rfl (by first | rfl | exact bI_n _) (qi hq (by first | (exact absurd rfl h61; done) | (exact absurd h61 (by decide); done) | (exact absurd rfl h66; done) | (exact absurd h66 (by decide); done) | exact (congrArg bI (pa_2 k)).symm | exact (congrArg bI (pa_3 k)).symm | (exact absurd h61 w2; done) | (exact absurd h66 w3; done) | (unfold paB; rw [w5]; rfl))) (by decide) (by decide)
set_option maxRecDepth 100000 in
set_option maxHeartbeats 4000000 in
theorem c_X8_addPart {b0 : Nat} {D : va_G} {dA : Nat → ClassId} {ad : Nat → Nat → Nat} {Q : PQ} {Sm S : St} {f : Nat} {t : Nat} (I : Inv S t) {s : Nat} (hs : s < 6) (sort k : Int32) (hq0 : S.2.1 16 s = 5 → Q (some (.int (-2))) (dmW S 0) ad (cw dA ad Sm S f)) (hq1 : ¬ S.2.1 16 s = 5 → Q (some (.int (S.2.1 16 s))) (dmW (paS S s sort k) 0) ad (cw dA ad Sm (paS S s sort k) f)) : Ct b0 D dA yX8_addPart cX8_addPart 3 (some .int) (Rm 0) [.ref (ad 11 s), .int sort, .int k] (dmW S 0) ad (cw dA ad Sm S f) Q := by
  obtain ⟨hp, hp5, -⟩ := I.2.2.2.2.1 s hs
  refine ct_of (by decide) (Nat.le_of_ble_eq_true rfl) ?_
  refine e_aload dX8_addPart_0 rfl ?_
  refine x_get dX8_addPart_1 fg_X8_18 rfl (show dmW S 0 11 s from hs) (cw_11 (dA := dA) (ad := ad) (Sm := Sm) (S := S) (f := f) (i := s)) rfl ?_
  refine e_push dX8_addPart_4 ?_
  refine e_icmp_lt dX8_addPart_5 (fun h5 => ?_) (fun h5 => ?_)
  · have hpm : pmN S s < 5 := by rw [hp] at h5; exact (nI_ltI (by omega) (by decide)).mp h5
    have hn5 : ¬ S.2.1 16 s = 5 := by rw [hp]; exact fun z => absurd ((nI_eq (b := 5) (by omega) (by decide)).mp z) (by omega)
    refine e_aload dX8_addPart_11 rfl ?_
    refine x_get dX8_addPart_12 fg_X8_9 rfl (show dmW S 0 11 s from hs) (cw_11 (dA := dA) (ad := ad) (Sm := Sm) (S := S) (f := f) (i := s)) rfl ?_
    refine e_aload dX8_addPart_15 rfl ?_
    refine x_get dX8_addPart_16 fg_X8_18 rfl (show dmW S 0 11 s from hs) (cw_11 (dA := dA) (ad := ad) (Sm := Sm) (S := S) (f := f) (i := s)) rfl ?_
    refine e_iload dX8_addPart_19 rfl ?_
    refine x_ist (pmN S s) dX8_addPart_20 rfl (show dmW S 0 12 s from hs) cw_12 hp (by omega) (by omega) ?_
    refine e_aload dX8_addPart_21 rfl ?_
    refine x_get dX8_addPart_22 fg_X8_15 rfl (show dmW S 0 11 s from hs) (cw_11 (dA := dA) (ad := ad) (Sm := Sm) (S := S) (f := f) (i := s)) rfl ?_
    refine e_aload dX8_addPart_25 rfl ?_
    refine x_get dX8_addPart_26 fg_X8_18 rfl (show dmW S 0 11 s from hs) (cw_11 (dA := dA) (ad := ad) (Sm := Sm) (S := S) (f := f) (i := s)) rfl ?_
    refine e_iload dX8_addPart_29 rfl ?_
    refine x_ist (pmN S s) dX8_addPart_30 rfl (show dmW S 0 13 s from hs) (cw_13 (dA := dA) (ad := ad) (Sm := Sm) (S := S) (f := f) (i := s)) hp (by omega) (by omega) ?_
    refine e_aload dX8_addPart_31 rfl ?_
    refine e_dup dX8_addPart_32 ?_
    refine x_get dX8_addPart_33 fg_X8_18 rfl (show dmW S 0 11 s from hs) (cw_11 (dA := dA) (ad := ad) (Sm := Sm) (S := S) (f := f) (i := s)) rfl ?_
    refine e_push dX8_addPart_36 ?_
    refine e_iadd dX8_addPart_37 ?_
    refine x_put dX8_addPart_38 fp_X8_18 rfl (show dmW S 0 11 s from hs) (cw_11 (dA := dA) (ad := ad) (Sm := Sm) (S := S) (f := f) (i := s)) rfl rfl (Nat.le_of_ble_eq_true rfl) ?_
    refine e_conv (pa_cv (sort := sort) (k := k) I hs hpm) ?_
    refine e_aload dX8_addPart_41 rfl ?_
    refine x_get dX8_addPart_42 fg_X8_18 rfl (show dmW (paS S s sort k) 0 11 s from hs) cw_11 rfl ?_
    refine e_topi (show (paS S s sort k).2.1 16 s = S.2.1 16 s + 1 by rw [pa_16, if_pos rfl]) ?_
    refine e_push dX8_addPart_45 ?_
    refine e_isub dX8_addPart_46 ?_
    exact e_iretI dX8_addPart_47 rfl (qi (hq1 hn5) (by rw [hp]; exact nI_pm _)) (by decide) (by decide)
  · have h55 : S.2.1 16 s = 5 := by
      rw [hp] at h5 ⊢
      rcases Nat.lt_or_ge (pmN S s) 5 with z | z
      · exact absurd ((nI_ltI (by omega) (by decide)).mpr z) h5
      · rw [show pmN S s = 5 by omega]; rfl
    refine e_push dX8_addPart_8 ?_
    exact e_iretI dX8_addPart_10 rfl (hq0 h55) (by decide) (by decide)
set_option maxRecDepth 100000 in
set_option maxHeartbeats 4000000 in
theorem c_X11_part {b0 : Nat} {D : va_G} {dA : Nat → ClassId} {ad : Nat → Nat → Nat} {Q : PQ} {Sm S : St} {f : Nat} {t : Nat} (I : Inv S t) (s sort k : Int32) (hq : Q (some (.int (F_part S s sort k).1)) (dmW (F_part S s sort k).2 0) ad (cw dA ad Sm (F_part S s sort k).2 f)) : Ct b0 D dA yX11_part cX11_part 5 (some .int) (Rm 2) [.ref (ad 0 0), .int s, .int sort, .int k] (dmW S 0) ad (cw dA ad Sm S f) Q := by
  refine ct_of (by decide) (Nat.le_of_ble_eq_true rfl) ?_
  refine e_aload dX11_part_0 rfl ?_
  refine e_iload dX11_part_1 rfl ?_
  refine n_callV1 dX11_part_2 ca_X11_191 (show dmW S 0 0 0 from rfl) cw_0 (c2_X11_shapeAt _ (fun hs0 => ?_) (fun s hs5 es hs1 => ?_))
  · skip
    refine e_astore dX11_part_5 ?_
    refine e_aload dX11_part_7 rfl ?_
    refine e_ifnull_0 dX11_part_9 ?_
    refine e_push dX11_part_20 ?_
    exact e_iretI dX11_part_21 rfl (qx hq (by first | (simp [F_part, hs0]; done) | (simp [F_part, h17]; done))) (by decide) (by decide)
  · subst es
    have ts : tN (nI s) = s := tN_n (by omega)
    have hs : s < 6 := by omega
    refine e_astore dX11_part_5 ?_
    refine e_aload dX11_part_7 rfl ?_
    refine e_ifnull_r dX11_part_9 ?_
    refine e_iload dX11_part_12 rfl ?_
    refine e_iload dX11_part_13 rfl ?_
    refine n_callS2 dX11_part_14 ca_X11_195  (c_X11_isPartAllowed _ _ ?_) 
    refine e_if_neB dX11_part_17 (fun h17 => ?_) (fun h17 => ?_)
    · rw [F_part, if_pos (by rw [hs1, h17]; rfl), ts] at hq
      refine e_aload dX11_part_22 rfl ?_
      refine e_iload dX11_part_24 rfl ?_
      refine e_iload dX11_part_25 rfl ?_
      refine n_callV2 dX11_part_26 ca_X11_199 (show dmW S 0 11 s from hs) cw_11 (c_X8_addPart I hs _ _ (fun e => ?_) (fun e => ?_)) 
      rotate_left
      · exact e_iretI dX11_part_29 rfl (qx hq (by rw [if_neg e])) (by decide) (by decide)
      rw [if_pos e] at hq
      exact e_iretI dX11_part_29 rfl hq (by decide) (by decide)
    · refine e_push dX11_part_20 ?_
      exact e_iretI dX11_part_21 rfl (qx hq (by first | (simp [F_part, hs0]; done) | (simp [F_part, h17]; done))) (by decide) (by decide)
set_option maxRecDepth 100000 in
set_option maxHeartbeats 4000000 in
theorem c_X8_hasPart {b0 : Nat} {D : va_G} {dA : Nat → ClassId} {ad : Nat → Nat → Nat} {Q : PQ} {Sm S : St} {f τ : Nat} {s : Nat} (hs : s < 6) (p : Int32) (hq : Q (some (.int (bI (inB p 0 (S.2.1 16 s - 1))))) (dmW S τ) ad (cw dA ad Sm S f)) : Ct b0 D dA yX8_hasPart cX8_hasPart 2 (some .boolean) (Rm 1) [.ref (ad 11 s), .int p] (dmW S τ) ad (cw dA ad Sm S f) Q := by
  refine ct_of (by decide) (Nat.le_of_ble_eq_true rfl) ?_
  refine e_iload dX8_hasPart_0 rfl ?_
  refine e_push dX8_hasPart_1 ?_
  refine e_aload dX8_hasPart_2 rfl ?_
  refine x_get dX8_hasPart_3 fg_X8_18 rfl (show dmW S τ 11 s from hs) cw_11 rfl ?_
  refine e_push dX8_hasPart_6 ?_
  refine e_isub dX8_hasPart_7 ?_
  refine n_callSN3 dX8_hasPart_8 ca_X8_34  (c_X11_isIn _ _ _ ?_) 
  exact e_iret dX8_hasPart_11 rfl (by first | rfl | exact bI_n _) hq (by decide) (by decide)
set_option maxRecDepth 100000 in
set_option maxHeartbeats 4000000 in
theorem c_X11_isCheckOver {b0 : Nat} {D : va_G} {dA : Nat → ClassId} {dm : Nat → Nat → Prop} {ad : Nat → Nat → Nat} {Q : PQ} {ct : Nat → Nat → va_E} (kd so : Int32) (hq : Q (some (.int (bI (inB kd 0 5 && fitB kd so)))) dm ad ct) : Ct b0 D dA yX11_isCheckOver cX11_isCheckOver 2 (some .boolean) (Rm 0) [.int kd, .int so] dm ad ct Q := by
  refine ct_of (by decide) (Nat.le_of_ble_eq_true rfl) ?_
  refine e_iload dX11_isCheckOver_0 rfl ?_
  rcases sw_05 kd with rfl | rfl | rfl | rfl | rfl | rfl | ⟨w0, w1, w2, w3, w4, w5, w6⟩
  · refine e_tab (off := 39) (t := 40) dX11_isCheckOver_1 (by decide) (by decide) (by decide) (by decide) ?_
    refine e_iload dX11_isCheckOver_40 rfl ?_
    refine e_if_ne dX11_isCheckOver_41 (fun h41 => ?_) (fun h41 => ?_)
    · refine e_push dX11_isCheckOver_48 ?_
      exact e_iret dX11_isCheckOver_49 rfl (by first | rfl | exact bI_n _) (qi hq (by simp [fitB, h41, show inB (0 : Int32) 0 5 = true from by decide, show inB (1 : Int32) 0 5 = true from by decide, bI])) (by decide) (by decide)
    · refine e_push dX11_isCheckOver_44 ?_
      refine e_goto dX11_isCheckOver_45 ?_
      exact e_iret dX11_isCheckOver_49 rfl (by first | rfl | exact bI_n _) (qi hq (by simp [fitB, h41, show inB (0 : Int32) 0 5 = true from by decide, show inB (1 : Int32) 0 5 = true from by decide, bI])) (by decide) (by decide)
  · refine e_tab (off := 39) (t := 40) dX11_isCheckOver_1 (by decide) (by decide) (by decide) (by decide) ?_
    refine e_iload dX11_isCheckOver_40 rfl ?_
    refine e_if_ne dX11_isCheckOver_41 (fun h41 => ?_) (fun h41 => ?_)
    · refine e_push dX11_isCheckOver_48 ?_
      exact e_iret dX11_isCheckOver_49 rfl (by first | rfl | exact bI_n _) (qi hq (by simp [fitB, h41, show inB (0 : Int32) 0 5 = true from by decide, show inB (1 : Int32) 0 5 = true from by decide, bI])) (by decide) (by decide)
    · refine e_push dX11_isCheckOver_44 ?_
      refine e_goto dX11_isCheckOver_45 ?_
      exact e_iret dX11_isCheckOver_49 rfl (by first | rfl | exact bI_n _) (qi hq (by simp [fitB, h41, show inB (0 : Int32) 0 5 = true from by decide, show inB (1 : Int32) 0 5 = true from by decide, bI])) (by decide) (by decide)
  · refine e_tab (off := 49) (t := 50) dX11_isCheckOver_1 (by decide) (by decide) (by decide) (by decide) ?_
    refine e_iload dX11_isCheckOver_50 rfl ?_
    refine e_push dX11_isCheckOver_51 ?_
    refine e_icmp_ne dX11_isCheckOver_52 (fun h52 => ?_) (fun h52 => ?_)
    · refine e_push dX11_isCheckOver_59 ?_
      exact e_iret dX11_isCheckOver_60 rfl (by first | rfl | exact bI_n _) (qi hq (by simp [fitB, h52, show inB (2 : Int32) 0 5 = true from by decide, show inB (3 : Int32) 0 5 = true from by decide, bI])) (by decide) (by decide)
    · refine e_push dX11_isCheckOver_55 ?_
      refine e_goto dX11_isCheckOver_56 ?_
      exact e_iret dX11_isCheckOver_60 rfl (by first | rfl | exact bI_n _) (qi hq (by simp [fitB, h52, show inB (2 : Int32) 0 5 = true from by decide, show inB (3 : Int32) 0 5 = true from by decide, bI])) (by decide) (by decide)
  · refine e_tab (off := 49) (t := 50) dX11_isCheckOver_1 (by decide) (by decide) (by decide) (by decide) ?_
    refine e_iload dX11_isCheckOver_50 rfl ?_
    refine e_push dX11_isCheckOver_51 ?_
    refine e_icmp_ne dX11_isCheckOver_52 (fun h52 => ?_) (fun h52 => ?_)
    · refine e_push dX11_isCheckOver_59 ?_
      exact e_iret dX11_isCheckOver_60 rfl (by first | rfl | exact bI_n _) (qi hq (by simp [fitB, h52, show inB (2 : Int32) 0 5 = true from by decide, show inB (3 : Int32) 0 5 = true from by decide, bI])) (by decide) (by decide)
    · refine e_push dX11_isCheckOver_55 ?_
      refine e_goto dX11_isCheckOver_56 ?_
      exact e_iret dX11_isCheckOver_60 rfl (by first | rfl | exact bI_n _) (qi hq (by simp [fitB, h52, show inB (2 : Int32) 0 5 = true from by decide, show inB (3 : Int32) 0 5 = true from by decide, bI])) (by decide) (by decide)
  · refine e_tab (off := 60) (t := 61) dX11_isCheckOver_1 (by decide) (by decide) (by decide) (by decide) ?_
    refine e_iload dX11_isCheckOver_61 rfl ?_
    refine e_push dX11_isCheckOver_62 ?_
    refine e_icmp_eq dX11_isCheckOver_63 (fun h63 => ?_) (fun h63 => ?_)
    · refine e_push dX11_isCheckOver_71 ?_
      refine e_goto dX11_isCheckOver_72 ?_
      exact e_iret dX11_isCheckOver_76 rfl (by first | rfl | exact bI_n _) (qi hq (by first | (simp [fitB, h63, show inB (4 : Int32) 0 5 = true from by decide, bI]; done) | (simp [fitB, h63, h68, show inB (4 : Int32) 0 5 = true from by decide, bI]; done))) (by decide) (by decide)
    · refine e_iload dX11_isCheckOver_66 rfl ?_
      refine e_push dX11_isCheckOver_67 ?_
      refine e_icmp_ne dX11_isCheckOver_68 (fun h68 => ?_) (fun h68 => ?_)
      · refine e_push dX11_isCheckOver_75 ?_
        exact e_iret dX11_isCheckOver_76 rfl (by first | rfl | exact bI_n _) (qi hq (by first | (simp [fitB, h63, show inB (4 : Int32) 0 5 = true from by decide, bI]; done) | (simp [fitB, h63, h68, show inB (4 : Int32) 0 5 = true from by decide, bI]; done))) (by decide) (by decide)
      · refine e_push dX11_isCheckOver_71 ?_
        refine e_goto dX11_isCheckOver_72 ?_
        exact e_iret dX11_isCheckOver_76 rfl (by first | rfl | exact bI_n _) (qi hq (by first | (simp [fitB, h63, show inB (4 : Int32) 0 5 = true from by decide, bI]; done) | (simp [fitB, h63, h68, show inB (4 : Int32) 0 5 = true from by decide, bI]; done))) (by decide) (by decide)
  · refine e_tab (off := 76) (t := 77) dX11_isCheckOver_1 (by decide) (by decide) (by decide) (by decide) ?_
    refine e_iload dX11_isCheckOver_77 rfl ?_
    refine e_push dX11_isCheckOver_78 ?_
    refine e_icmp_ne dX11_isCheckOver_79 (fun h79 => ?_) (fun h79 => ?_)
    · refine e_push dX11_isCheckOver_86 ?_
      exact e_iret dX11_isCheckOver_87 rfl (by first | rfl | exact bI_n _) (qi hq (by simp [fitB, h79, show inB (5 : Int32) 0 5 = true from by decide, bI])) (by decide) (by decide)
    · refine e_push dX11_isCheckOver_82 ?_
      refine e_goto dX11_isCheckOver_83 ?_
      exact e_iret dX11_isCheckOver_87 rfl (by first | rfl | exact bI_n _) (qi hq (by simp [fitB, h79, show inB (5 : Int32) 0 5 = true from by decide, bI])) (by decide) (by decide)
  · refine e_tabD (t := 88) dX11_isCheckOver_1 (sw_f w6) (by decide) ?_
    refine e_push dX11_isCheckOver_88 ?_
    exact e_iret dX11_isCheckOver_89 rfl (by first | rfl | exact bI_n _) (qi hq (by rw [w6]; rfl)) (by decide) (by decide)
set_option maxRecDepth 100000 in
set_option maxHeartbeats 4000000 in
theorem c_X8_addCheck {b0 : Nat} {D : va_G} {dA : Nat → ClassId} {ad : Nat → Nat → Nat} {Q : PQ} {Sm S : St} {f : Nat} {t : Nat} (I : Inv S t) {s : Nat} (hs : s < 6) (kd a b : Int32) (hq0 : S.2.1 19 s = 4 → Q (some (.int (-2))) (dmW S 0) ad (cw dA ad Sm S f)) (hq1 : ¬ S.2.1 19 s = 4 → ∀ ad2 : Nat → Nat → Nat, ad2 0 0 = ad 0 0 → ad2 16 0 = ad 16 0 → Q (some (.int (S.2.1 19 s))) (dmW (chS S s kd a b) 0) ad2 (cw dA ad2 Sm (chS S s kd a b) f)) : Ct b0 D dA yX8_addCheck cX8_addCheck 4 (some .int) (RmA 2 1 3) [.ref (ad 11 s), .int kd, .int a, .int b] (dmW S 0) ad (cw dA ad Sm S f) Q := by
  obtain ⟨-, -, hp, hp5, -⟩ := I.2.2.2.2.1 s hs
  refine ct_of (by decide) (Nat.le_of_ble_eq_true rfl) ?_
  refine e_aload dX8_addCheck_0 rfl ?_
  refine x_get dX8_addCheck_1 fg_X8_28 rfl (show dmW S 0 11 s from hs) (cw_11 (dA := dA) (ad := ad) (Sm := Sm) (S := S) (f := f) (i := s)) rfl ?_
  refine e_push dX8_addCheck_4 ?_
  refine e_icmp_lt dX8_addCheck_5 (fun h5 => ?_) (fun h5 => ?_)
  · have hcm : cmN S s < 4 := by rw [hp] at h5; exact (nI_ltI (by omega) (by decide)).mp h5
    have hn5 : ¬ S.2.1 19 s = 4 := by rw [hp]; exact fun z => absurd ((nI_eq (b := 4) (by omega) (by decide)).mp z) (by omega)
    refine e_aload dX8_addCheck_11 rfl ?_
    refine x_get dX8_addCheck_12 fg_X8_24 rfl (show dmW S 0 11 s from hs) (cw_11 (dA := dA) (ad := ad) (Sm := Sm) (S := S) (f := f) (i := s)) rfl ?_
    refine e_aload dX8_addCheck_15 rfl ?_
    refine x_get dX8_addCheck_16 fg_X8_28 rfl (show dmW S 0 11 s from hs) (cw_11 (dA := dA) (ad := ad) (Sm := Sm) (S := S) (f := f) (i := s)) rfl ?_
    refine e_new (15) (4 * s + cmN S s) dX8_addCheck_19 fn_X8_22 (by decide) (by decide) (fun a0 => ?_)
    refine e_dup dX8_addCheck_22 ?_
    refine e_iload dX8_addCheck_23 rfl ?_
    refine e_iload dX8_addCheck_24 rfl ?_
    refine e_iload dX8_addCheck_25 rfl ?_
    refine n_callI3 dX8_addCheck_26 ca_X8_38  (c_X1_init (x := 4 * s + cmN S s) kd a b u2_s (Or.inr ⟨rfl, rfl⟩) u2_s ?_) 
    refine x_ast (cmN S s) dX8_addCheck_29 rfl (show dmU (dmW S 0) 15 (4 * s + cmN S s) 14 s from Or.inl hs) (cw_14 (dA := dA) (ad := ad) (Sm := Sm) (S := S) (f := f) (i := s)) rfl hp (by omega) (by decide) u2_s (Or.inr ⟨rfl, rfl⟩) u2_s fa_1 ?_
    refine e_aload dX8_addCheck_30 rfl ?_
    refine e_dup dX8_addCheck_31 ?_
    refine x_get dX8_addCheck_32 fg_X8_28 rfl (show dmU (dmW S 0) 15 (4 * s + cmN S s) 11 s from Or.inl hs) (cw_11 (dA := dA) (ad := ad) (Sm := Sm) (S := S) (f := f) (i := s)) rfl ?_
    refine e_push dX8_addCheck_35 ?_
    refine e_iadd dX8_addCheck_36 ?_
    refine x_put dX8_addCheck_37 fp_X8_28 rfl (show dmU (dmW S 0) 15 (4 * s + cmN S s) 11 s from Or.inl hs) (cw_11 (dA := dA) (ad := ad) (Sm := Sm) (S := S) (f := f) (i := s)) rfl rfl (Nat.le_of_ble_eq_true rfl) ?_
    refine e_conv (ch_cv (kd := kd) (a := a) (b := b) (a0 := a0) I hs hcm) ?_
    refine e_aload dX8_addCheck_40 rfl ?_
    refine x_get dX8_addCheck_41 fg_X8_28 rfl (show dmW (chS S s kd a b) 0 11 s from hs) cw_11 rfl ?_
    refine e_topi (show (chS S s kd a b).2.1 19 s = S.2.1 19 s + 1 by rw [ch_19, if_pos rfl]) ?_
    refine e_push dX8_addCheck_44 ?_
    refine e_isub dX8_addCheck_45 ?_
    exact e_iretI dX8_addCheck_46 rfl (qi (hq1 hn5 _ rfl rfl) (by rw [hp]; exact nI_pm _)) (by decide) (by decide)
  · have h55 : S.2.1 19 s = 4 := by
      rw [hp] at h5 ⊢
      rcases Nat.lt_or_ge (cmN S s) 4 with z | z
      · exact absurd ((nI_ltI (by omega) (by decide)).mpr z) h5
      · rw [show cmN S s = 4 by omega]; rfl
    refine e_push dX8_addCheck_8 ?_
    exact e_iretI dX8_addCheck_10 rfl (hq0 h55) (by decide) (by decide)
set_option maxRecDepth 100000 in
set_option maxHeartbeats 4000000 in
theorem c_X11_check {b0 : Nat} {D : va_G} {dA : Nat → ClassId} {ad : Nat → Nat → Nat} {Q : PQ} {Sm S : St} {f : Nat} {t : Nat} (I : Inv S t) (s kd a b : Int32) (hq : ∀ ad2 : Nat → Nat → Nat, ad2 0 0 = ad 0 0 → ad2 16 0 = ad 16 0 → Q (some (.int (F_check S s kd a b).1)) (dmW (F_check S s kd a b).2 0) ad2 (cw dA ad2 Sm (F_check S s kd a b).2 f)) : Ct b0 D dA yX11_check cX11_check 6 (some .int) (RmA 3 1 3) [.ref (ad 0 0), .int s, .int kd, .int a, .int b] (dmW S 0) ad (cw dA ad Sm S f) Q := by
  refine ct_of (by decide) (Nat.le_of_ble_eq_true rfl) ?_
  refine e_aload dX11_check_0 rfl ?_
  refine e_iload dX11_check_1 rfl ?_
  refine n_callV1 dX11_check_2 ca_X11_191 (show dmW S 0 0 0 from rfl) cw_0 (c2_X11_shapeAt _ (fun hs0 => ?_) (fun s hs5 es hs1 => ?_))
  · skip
    refine e_astore dX11_check_5 ?_
    refine e_aload dX11_check_7 rfl ?_
    refine e_ifnull_0 dX11_check_9 ?_
    refine e_push dX11_check_31 ?_
    exact e_iretI dX11_check_32 rfl (qx (hq ad rfl rfl) (by first | (simp [F_check, ckB, hs0]; done) | (rw [F_check, if_neg (ckB_a (by rw [ts]; exact h18))]; done) | (rw [F_check, if_neg (ckB_b (by rw [ts]; exact h28))]; done))) (by decide) (by decide)
  · subst es
    have ts : tN (nI s) = s := tN_n (by omega)
    have hs : s < 6 := by omega
    obtain ⟨hp, hp5, -⟩ := I.2.2.2.2.1 s hs
    refine e_astore dX11_check_5 ?_
    refine e_aload dX11_check_7 rfl ?_
    refine e_ifnull_r dX11_check_9 ?_
    refine e_aload dX11_check_12 rfl ?_
    refine e_iload dX11_check_14 rfl ?_
    refine n_callV1 dX11_check_15 ca_X11_203 (show dmW S 0 11 s from hs) cw_11 (c_X8_hasPart hs _ ?_) 
    refine e_if_eqB dX11_check_18 (fun h18 => ?_) (fun h18 => ?_)
    · refine e_push dX11_check_31 ?_
      exact e_iretI dX11_check_32 rfl (qx (hq ad rfl rfl) (by first | (simp [F_check, ckB, hs0]; done) | (rw [F_check, if_neg (ckB_a (by rw [ts]; exact h18))]; done) | (rw [F_check, if_neg (ckB_b (by rw [ts]; exact h28))]; done))) (by decide) (by decide)
    · have h18b := h18
      rw [hp] at h18b
      obtain ⟨a, ha, rfl⟩ := inB_n (by omega) h18b
      have ta : tN (nI a) = a := tN_n (by omega)
      refine e_aload dX11_check_21 rfl ?_
      refine e_iload dX11_check_23 rfl ?_
      refine n_callV1 dX11_check_25 ca_X11_203 (show dmW S 0 11 s from hs) cw_11 (c_X8_hasPart hs _ ?_) 
      refine e_if_neB dX11_check_28 (fun h28 => ?_) (fun h28 => ?_)
      · have h28b := h28
        rw [hp] at h28b
        obtain ⟨b, hb, rfl⟩ := inB_n (by omega) h28b
        have tb : tN (nI b) = b := tN_n (by omega)
        refine e_aload dX11_check_33 rfl ?_
        refine x_get dX11_check_35 fg_X11_206 rfl (show dmW S 0 11 s from hs) cw_11 rfl ?_
        refine e_iload dX11_check_38 rfl ?_
        refine x_ild (b) dX11_check_40 rfl (show dmW S 0 12 s from hs) cw_12 rfl (by omega) (by omega) ?_
        refine e_topi (show soF S s b = S.2.1 17 (5 * s + b) from if_pos (by omega)) ?_
        refine e_if_ne dX11_check_41 (fun h41 => ?_) (fun h41 => ?_)
        · refine e_push dX11_check_58 ?_
          exact e_iretI dX11_check_59 rfl (qx (hq ad rfl rfl) (by first | (rw [F_check, if_neg (ckB_c (by rw [ts, tb]; exact h41))]; done) | (rw [F_check, if_neg (ckB_d (by rw [ts, ta]; exact h55))]; done))) (by decide) (by decide)
        · refine e_iload dX11_check_44 rfl ?_
          refine e_aload dX11_check_45 rfl ?_
          refine x_get dX11_check_47 fg_X11_206 rfl (show dmW S 0 11 s from hs) cw_11 rfl ?_
          refine e_iload dX11_check_50 rfl ?_
          refine x_ild (a) dX11_check_51 rfl (show dmW S 0 12 s from hs) cw_12 rfl (by omega) (by omega) ?_
          refine e_topi (show soF S s a = S.2.1 17 (5 * s + a) from if_pos (by omega)) ?_
          refine n_callS2 dX11_check_52 ca_X11_209  (c_X11_isCheckOver _ _ ?_) 
          refine e_if_neB dX11_check_55 (fun h55 => ?_) (fun h55 => ?_)
          · have hck : ckB S (nI s) kd (nI a) (nI b) = true := by
              rw [Bool.and_eq_true] at h55
              unfold ckB
              rw [ts, ta, tb, hs1, h55.1, h18, h28, decide_eq_true h41, h55.2]; rfl
            refine e_aload dX11_check_60 rfl ?_
            refine e_iload dX11_check_62 rfl ?_
            refine e_iload dX11_check_63 rfl ?_
            refine e_iload dX11_check_64 rfl ?_
            refine e_callV3 dX11_check_66 ca_X11_212 (show dmW S 0 11 s from hs) cw_11 (rm_inA (C' := 1) (S' := 3) (by decide) (by decide) (by decide) (by decide)) (c_X8_addCheck I hs _ _ _ (fun e => ?_) (fun e ad2 g1 g2 => ?_)) (by exact Nat.le_of_ble_eq_true rfl)
            rotate_left
            · exact e_iretI dX11_check_69 rfl (qx (hq ad2 g1 g2) (by rw [F_check, if_pos hck, ts, if_neg e])) (by decide) (by decide)
            exact e_iretI dX11_check_69 rfl (qx (hq ad rfl rfl) (by rw [F_check, if_pos hck, ts, if_pos e])) (by decide) (by decide)
          · refine e_push dX11_check_58 ?_
            exact e_iretI dX11_check_59 rfl (qx (hq ad rfl rfl) (by first | (rw [F_check, if_neg (ckB_c (by rw [ts, tb]; exact h41))]; done) | (rw [F_check, if_neg (ckB_d (by rw [ts, ta]; exact h55))]; done))) (by decide) (by decide)
      · refine e_push dX11_check_31 ?_
        exact e_iretI dX11_check_32 rfl (qx (hq ad rfl rfl) (by first | (simp [F_check, ckB, hs0]; done) | (rw [F_check, if_neg (ckB_a (by rw [ts]; exact h18))]; done) | (rw [F_check, if_neg (ckB_b (by rw [ts]; exact h28))]; done))) (by decide) (by decide)
