set_option maxRecDepth 100000 in
set_option maxHeartbeats 4000000 in
theorem c_X0_init {b0 : Nat} {D : va_G} {dA : Nat → ClassId} {dm : Nat → Nat → Prop} {ad : Nat → Nat → Nat} {Q : PQ} {ct : Nat → Nat → va_E} {b a0 : Nat} (ha : ad 2 b = a0) (h : dm 2 b) (e : ct 2 b = .inr (0, [.null, .int 0])) (hq : ∀ c, Q none (dmU dm 3 b) (u2 ad 3 b c) (u2 (u2 ct 3 b (rfs dA 2 60 (fun _ => none))) 2 b (.inr (0, [.ref c, .int 0])))) : Ct b0 D dA yX0_init cX0_init 1 none (RmA 1 1 60) [.ref a0] dm ad ct Q := by
  refine ct_of (by decide) (Nat.le_of_ble_eq_true rfl) ?_
  refine e_aload dX0_init_0 rfl ?_
  refine e_objInit dX0_init_1 oi_X0_3 ow_i ow_c (by decide) (by decide) ?_
  refine e_aload dX0_init_4 rfl ?_
  refine e_push dX0_init_5 ?_
  refine e_newq (t0 := 2) (3) (b) dX0_init_7 (show (60 : Int32) = nI 60 from rfl) (by decide) (by decide) (by decide) an_X0_9 rfl (by decide) (fun c => ?_)
  refine x_putF dX0_init_10 fp_X0_11 rfl (show u2 ad 3 b c 2 b = a0 from ha) (show dmU dm 3 b 2 b from Or.inl h) ((u2_x (by decide)).trans e) rfl rfl (Nat.le_of_ble_eq_true rfl) ?_
  refine e_aload dX0_init_13 rfl ?_
  refine e_push dX0_init_14 ?_
  refine x_put dX0_init_15 fp_X0_17 (show u2 ad 3 b c 2 b = a0 from ha) (show dmU dm 3 b 2 b from Or.inl h) u2_s rfl rfl (Nat.le_of_ble_eq_true rfl) ?_
  exact e_vret dX0_init_18 rfl (by rw [u2_u2]; exact hq c) (by decide) (by decide)
set_option maxRecDepth 100000 in
set_option maxHeartbeats 4000000 in
theorem c_X8_init {b0 : Nat} {D : va_G} {dA : Nat → ClassId} {dm : Nat → Nat → Prop} {ad : Nat → Nat → Nat} {Q : PQ} {ct : Nat → Nat → va_E} {s a0 : Nat} (ha : ad 11 s = a0) (h : dm 11 s) (e : ct 11 s = .inr (7, [.int 0, .null, .null, .int 0, .null, .int 0])) (hq : ∀ b c d, Q none (dmU (dmU (dmU dm 12 s) 13 s) 14 s) (u2 (u2 (u2 ad 12 s b) 13 s c) 14 s d) (u2 (u2 (u2 (u2 ct 12 s (ins dA 5 (fun _ => 0))) 13 s (ins dA 5 (fun _ => 0))) 14 s (rfs dA 6 4 (fun _ => none))) 11 s (.inr (7, [.int (nI s), .ref b, .ref c, .int 0, .ref d, .int 0])))) : Ct b0 D dA yX8_init cX8_init 2 none (RmA 1 3 14) [.ref a0, .int (nI s)] dm ad ct Q := by
  refine ct_of (by decide) (Nat.le_of_ble_eq_true rfl) ?_
  refine e_aload dX8_init_0 rfl ?_
  refine e_objInit dX8_init_1 oi_X8_3 ow_i ow_c (by decide) (by decide) ?_
  refine e_aload dX8_init_4 rfl ?_
  refine e_push dX8_init_5 ?_
  refine e_newi (12) (s) dX8_init_6 (show (5 : Int32) = nI 5 from rfl) (by decide) (by decide) (by decide) aw_int (fun b => ?_)
  refine x_putF dX8_init_8 fp_X8_9 rfl (show (u2 ad 12 s b) 11 s = a0 from ha) (show (dmU dm 12 s) 11 s from Or.inl (h)) ((u2_x (by decide)).trans e) rfl rfl (Nat.le_of_ble_eq_true rfl) ?_
  refine e_aload dX8_init_11 rfl ?_
  refine e_push dX8_init_12 ?_
  refine e_newi (13) (s) dX8_init_13 (show (5 : Int32) = nI 5 from rfl) (by decide) (by decide) (by decide) aw_int (fun c => ?_)
  refine x_putF dX8_init_15 fp_X8_15 rfl (show (u2 (u2 ad 12 s b) 13 s c) 11 s = a0 from ha) (show (dmU (dmU dm 12 s) 13 s) 11 s from Or.inl (Or.inl (h))) ((u2_x (by decide)).trans u2_s) rfl rfl (Nat.le_of_ble_eq_true rfl) ?_
  refine e_aload dX8_init_18 rfl ?_
  refine e_push dX8_init_19 ?_
  refine x_put dX8_init_20 fp_X8_18 (show (u2 (u2 ad 12 s b) 13 s c) 11 s = a0 from ha) (show (dmU (dmU dm 12 s) 13 s) 11 s from Or.inl (Or.inl (h))) u2_s rfl rfl (Nat.le_of_ble_eq_true rfl) ?_
  refine e_aload dX8_init_23 rfl ?_
  refine e_push dX8_init_24 ?_
  refine e_newq (t0 := 6) (14) (s) dX8_init_25 (show (4 : Int32) = nI 4 from rfl) (by decide) (by decide) (by decide) an_X8_22 rfl (by decide) (fun d => ?_)
  refine x_putF dX8_init_28 fp_X8_24 rfl (show (u2 (u2 (u2 ad 12 s b) 13 s c) 14 s d) 11 s = a0 from ha) (show (dmU (dmU (dmU dm 12 s) 13 s) 14 s) 11 s from Or.inl (Or.inl (Or.inl (h)))) ((u2_x (by decide)).trans u2_s) rfl rfl (Nat.le_of_ble_eq_true rfl) ?_
  refine e_aload dX8_init_31 rfl ?_
  refine e_push dX8_init_32 ?_
  refine x_put dX8_init_33 fp_X8_28 (show (u2 (u2 (u2 ad 12 s b) 13 s c) 14 s d) 11 s = a0 from ha) (show (dmU (dmU (dmU dm 12 s) 13 s) 14 s) 11 s from Or.inl (Or.inl (Or.inl (h)))) u2_s rfl rfl (Nat.le_of_ble_eq_true rfl) ?_
  refine e_aload dX8_init_36 rfl ?_
  refine e_iload dX8_init_37 rfl ?_
  refine x_putF dX8_init_38 fp_X8_31 rfl (show (u2 (u2 (u2 ad 12 s b) 13 s c) 14 s d) 11 s = a0 from ha) (show (dmU (dmU (dmU dm 12 s) 13 s) 14 s) 11 s from Or.inl (Or.inl (Or.inl (h)))) u2_s rfl rfl (Nat.le_of_ble_eq_true rfl) ?_
  exact e_vret dX8_init_41 rfl (by simp only [u2_u2]; rw [u2_comm (k := 11) (k' := 13) (by decide), u2_u2, u2_comm (k := 11) (k' := 14) (by decide), u2_u2]; exact hq b c d) (by decide) (by decide)
set_option maxRecDepth 100000 in
set_option maxHeartbeats 4000000 in
theorem l3_X11_init {b0 : Nat} {D : va_G} {dA : Nat → ClassId} {Q : PQ} {a0 : Nat} (hq : ∀ ad2 : Nat → Nat → Nat, ad2 0 0 = a0 → Q none (dmI 18 6) ad2 (cI dA ad2 18 6 6)) : ∀ k s (ad : Nat → Nat → Nat), s + k = 6 → ad 0 0 = a0 → E b0 D dA yX11_init cX11_init 2 none (RmA 3 67 1346) E0 (QFm b0 D dA (RmA 3 67 1346) Q) 144 (lfA [some (.ref a0), some (.int (nI s))]) [] (dmI 18 s) ad (cI dA ad 18 6 s) (43 + 4 * s) (1226 + 20 * s) := by
  intro k
  induction k with
  | zero =>
    intro s ad hi h0
    refine e_iload dX11_init_144 rfl ?_
    refine e_push dX11_init_145 ?_
    refine e_icmp_ge dX11_init_147 (fun h147 => ?_) (fun h147 => ?_)
    · obtain rfl : s = 6 := by omega
      exact e_vret dX11_init_170 rfl (hq ad h0) (by decide) (by decide)
    · exact absurd (show (6 : Int32) ≤ nI s by rw [show s = 6 by omega]; decide) h147
  | succ k ih =>
    intro s ad hi h0
    refine e_iload dX11_init_144 rfl ?_
    refine e_push dX11_init_145 ?_
    refine e_icmp_ge dX11_init_147 (fun h147 => ?_) (fun h147 => ?_)
    · exact absurd h147 (by show ¬ nI 6 ≤ nI s; exact nI_ge (by omega) (by decide))
    · refine e_aload dX11_init_150 rfl ?_
      refine x_get dX11_init_151 fg_X11_43 h0 (show dmI 18 s 0 0 from rfl) rfl rfl ?_
      refine e_iload dX11_init_154 rfl ?_
      refine e_new (11) (s) dX11_init_155 fn_X11_41 (show 43 + 4 * s + 1 ≤ 67 by omega) (show 1226 + 20 * s + 6 ≤ 1346 by omega) (fun a => ?_)
      refine e_dup dX11_init_158 ?_
      refine e_iload dX11_init_159 rfl ?_
      refine e_callI1 dX11_init_160 ca_X11_63 (rm_inA (C' := 3) (S' := 14) (by decide) (by decide) (show 43 + 4 * s + 1 + 3 ≤ 67 by omega) (show 1226 + 20 * s + 6 + 14 ≤ 1346 by omega)) (c_X8_init (s := s) u2_s (Or.inr ⟨rfl, rfl⟩) u2_s (fun b c d => ?_)) (by exact Nat.le_of_ble_eq_true rfl)
      refine x_ast s dX11_init_163 rfl (show dmU (dmU (dmU (dmU (dmI 18 s) 11 s) 12 s) 13 s) 14 s 1 7 from Or.inl (Or.inl (Or.inl (Or.inl (Or.inr (Or.inr (Or.inr (Or.inr (Or.inl rfl))))))))) (show _ = rfs dA 5 6 (fun q => if q < s then some (ad 11 q) else none) from rfl) rfl rfl (by omega) (by decide) (show (u2 (u2 (u2 (u2 ad 11 s a) 12 s b) 13 s c) 14 s d) 11 s = a from (u2_x (by decide)).trans ((u2_x (by decide)).trans ((u2_x (by decide)).trans u2_s))) (show dmU (dmU (dmU (dmU (dmI 18 s) 11 s) 12 s) 13 s) 14 s 11 s from Or.inl (Or.inl (Or.inl (Or.inr ⟨rfl, rfl⟩)))) u2_s fa_7 ?_
      refine e_conv sI_cv ?_
      refine e_iinc dX11_init_164 rfl (inc1 s) ?_
      refine e_goto dX11_init_167 ?_
      refine e_wide (show 43 + 4 * s + 1 + 3 ≤ 43 + 4 * (s + 1) by omega) (show 1226 + 20 * s + 6 + 14 ≤ 1226 + 20 * (s + 1) by omega) ?_
      exact e_lvA (ih (s + 1) (u2 (u2 (u2 (u2 ad 11 s a) 12 s b) 13 s c) 14 s d) (by omega) (show ad 0 0 = a0 from h0)) ⟨rfl, rfl, trivial⟩
set_option maxRecDepth 100000 in
set_option maxHeartbeats 4000000 in
theorem l2_X11_init {b0 : Nat} {D : va_G} {dA : Nat → ClassId} {Q : PQ} {a0 : Nat} (hq : ∀ ad2 : Nat → Nat → Nat, ad2 0 0 = a0 → Q none (dmI 18 6) ad2 (cI dA ad2 18 6 6)) (ad : Nat → Nat → Nat) (h0 : ad 0 0 = a0) : ∀ k j, j + k = 6 → E b0 D dA yX11_init cX11_init 2 none (RmA 3 67 1346) E0 (QFm b0 D dA (RmA 3 67 1346) Q) 122 (lfA [some (.ref a0), some (.int (nI j))]) [] (dmI 18 0) ad (cI dA ad 18 j 0) 43 1226 := by
  intro k
  induction k with
  | zero =>
    intro j hi
    refine e_iload dX11_init_122 rfl ?_
    refine e_push dX11_init_123 ?_
    refine e_icmp_ge dX11_init_125 (fun h125 => ?_) (fun h125 => ?_)
    · obtain rfl : j = 6 := by omega
      refine e_push dX11_init_142 ?_
      refine e_istore dX11_init_143 ?_
      exact e_lvA (l3_X11_init hq 6 0 ad (by omega) h0) ⟨rfl, rfl, trivial⟩
    · exact absurd (show (6 : Int32) ≤ nI j by rw [show j = 6 by omega]; decide) h125
  | succ k ih =>
    intro j hi
    refine e_iload dX11_init_122 rfl ?_
    refine e_push dX11_init_123 ?_
    refine e_icmp_ge dX11_init_125 (fun h125 => ?_) (fun h125 => ?_)
    · exact absurd h125 (by show ¬ nI 6 ≤ nI j; exact nI_ge (by omega) (by decide))
    · refine e_aload dX11_init_128 rfl ?_
      refine x_get dX11_init_129 fg_X11_25 h0 (show dmI 18 0 0 0 from rfl) rfl rfl ?_
      refine e_iload dX11_init_132 rfl ?_
      refine e_push dX11_init_133 ?_
      refine x_ist j dX11_init_135 rfl (show dmI 18 0 1 3 from (Or.inr (Or.inr (Or.inl rfl)))) (show _ = ins dA 6 (fun q => if q < j then -3 else 0) from rfl) rfl (by omega) (by decide) ?_
      refine e_conv jI_cv ?_
      refine e_iinc dX11_init_136 rfl (inc1 j) ?_
      refine e_goto dX11_init_139 ?_
      exact e_lvA (ih (j + 1) (by omega)) ⟨rfl, rfl, trivial⟩
set_option maxRecDepth 100000 in
set_option maxHeartbeats 4000000 in
theorem l1_X11_init {b0 : Nat} {D : va_G} {dA : Nat → ClassId} {Q : PQ} {a0 : Nat} (hq : ∀ ad2 : Nat → Nat → Nat, ad2 0 0 = a0 → Q none (dmI 18 6) ad2 (cI dA ad2 18 6 6)) : ∀ k i (ad : Nat → Nat → Nat), i + k = 18 → ad 0 0 = a0 → E b0 D dA yX11_init cX11_init 2 none (RmA 3 67 1346) E0 (QFm b0 D dA (RmA 3 67 1346) Q) 95 (lfA [some (.ref a0), some (.int (nI i))]) [] (dmI i 0) ad (cI dA ad i 0 0) (7 + 2 * i) (110 + 62 * i) := by
  intro k
  induction k with
  | zero =>
    intro i ad hi h0
    refine e_iload dX11_init_95 rfl ?_
    refine e_push dX11_init_96 ?_
    refine e_icmp_ge dX11_init_98 (fun h98 => ?_) (fun h98 => ?_)
    · obtain rfl : i = 18 := by omega
      refine e_push dX11_init_120 ?_
      refine e_istore dX11_init_121 ?_
      exact e_lvA (l2_X11_init hq ad h0 6 0 (by omega)) ⟨rfl, rfl, trivial⟩
    · exact absurd (show (18 : Int32) ≤ nI i by rw [show i = 18 by omega]; decide) h98
  | succ k ih =>
    intro i ad hi h0
    refine e_iload dX11_init_95 rfl ?_
    refine e_push dX11_init_96 ?_
    refine e_icmp_ge dX11_init_98 (fun h98 => ?_) (fun h98 => ?_)
    · exact absurd h98 (by show ¬ nI 18 ≤ nI i; exact nI_ge (by omega) (by decide))
    · refine e_aload dX11_init_101 rfl ?_
      refine x_get dX11_init_102 fg_X11_21 h0 (show dmI i 0 0 0 from rfl) rfl rfl ?_
      refine e_iload dX11_init_105 rfl ?_
      refine e_new (2) (i) dX11_init_106 fn_X11_19 (show 7 + 2 * i + 1 ≤ 67 by omega) (show 110 + 62 * i + 2 ≤ 1346 by omega) (fun a => ?_)
      refine e_dup dX11_init_109 ?_
      refine e_callIN0 dX11_init_110 ca_X11_62 (rm_inA (C' := 1) (S' := 60) (by decide) (by decide) (show 7 + 2 * i + 1 + 1 ≤ 67 by omega) (show 110 + 62 * i + 2 + 60 ≤ 1346 by omega)) (c_X0_init (b := i) u2_s (Or.inr ⟨rfl, rfl⟩) u2_s (fun c => ?_)) (by exact Nat.le_of_ble_eq_true rfl)
      refine x_ast i dX11_init_113 rfl (show dmU (dmU (dmI i 0) 2 i) 3 i 1 2 from Or.inl (Or.inl (Or.inr (Or.inl rfl)))) (show _ = rfs dA 3 18 (fun q => if q < i then some (ad 2 q) else none) from rfl) rfl rfl (by omega) (by decide) (show (u2 (u2 ad 2 i a) 3 i c) 2 i = a from (u2_x (by decide)).trans u2_s) (show dmU (dmU (dmI i 0) 2 i) 3 i 2 i from Or.inl (Or.inr ⟨rfl, rfl⟩)) u2_s fa_0 ?_
      refine e_conv bI_cv ?_
      refine e_iinc dX11_init_114 rfl (inc1 i) ?_
      refine e_goto dX11_init_117 ?_
      refine e_wide (show 7 + 2 * i + 1 + 1 ≤ 7 + 2 * (i + 1) by omega) (show 110 + 62 * i + 2 + 60 ≤ 110 + 62 * (i + 1) by omega) ?_
      exact e_lvA (ih (i + 1) (u2 (u2 ad 2 i a) 3 i c) (by omega) (show ad 0 0 = a0 from h0)) ⟨rfl, rfl, trivial⟩
set_option maxRecDepth 100000 in
set_option maxHeartbeats 4000000 in
theorem c_X11_init {b0 : Nat} {D : va_G} {dA : Nat → ClassId} {dm : Nat → Nat → Prop} {ad : Nat → Nat → Nat} {Q : PQ} {ct : Nat → Nat → va_E} {a0 : Nat} (ha : ad 0 0 = a0) (h : dm 0 0) (e : ct 0 0 = .inr (9, [.null, .int 0, .null, .null, .int 0, .int 0, .null, .null, .null, .null, .int 0, .int 0, .int 0])) (hq : ∀ ad2 : Nat → Nat → Nat, ad2 0 0 = a0 → Q none (dmI 18 6) ad2 (cI dA ad2 18 6 6)) : Ct b0 D dA yX11_init cX11_init 2 none (RmA 3 67 1346) [.ref a0] dm ad ct Q := by
  refine ct_of (by decide) (Nat.le_of_ble_eq_true rfl) ?_
  refine e_aload dX11_init_0 rfl ?_
  refine e_objInit dX11_init_1 oi_X11_1 ow_i ow_c (by decide) (by decide) ?_
  refine e_aload dX11_init_4 rfl ?_
  refine e_push dX11_init_5 ?_
  refine e_newq (t0 := 2) (1) (0) dX11_init_7 (show (60 : Int32) = nI 60 from rfl) (by decide) (by decide) (by decide) an_X11_9 rfl (by decide) (fun a => ?_)
  refine x_putF dX11_init_10 fp_X11_11 rfl (show (u2 ad 1 0 a) 0 0 = a0 from ha) (show (dmU dm 1 0) 0 0 from Or.inl (h)) (show _ = Sum.inr (9, _) from e) rfl rfl (Nat.le_of_ble_eq_true rfl) ?_
  refine e_aload dX11_init_13 rfl ?_
  refine e_push dX11_init_14 ?_
  refine x_put dX11_init_15 fp_X11_15 (show (u2 ad 1 0 a) 0 0 = a0 from ha) (show (dmU dm 1 0) 0 0 from Or.inl (h)) u2_s rfl rfl (Nat.le_of_ble_eq_true rfl) ?_
  refine e_aload dX11_init_18 rfl ?_
  refine e_push dX11_init_19 ?_
  refine e_newq (t0 := 3) (1) (2) dX11_init_21 (show (18 : Int32) = nI 18 from rfl) (by decide) (by decide) (by decide) an_X11_19 rfl (by decide) (fun b => ?_)
  refine x_putF dX11_init_24 fp_X11_21 rfl (show (u2 (u2 ad 1 0 a) 1 2 b) 0 0 = a0 from ha) (show (dmU (dmU dm 1 0) 1 2) 0 0 from Or.inl (Or.inl (h))) ((u2_x (by decide)).trans u2_s) rfl rfl (Nat.le_of_ble_eq_true rfl) ?_
  refine e_aload dX11_init_27 rfl ?_
  refine e_push dX11_init_28 ?_
  refine e_newi (1) (3) dX11_init_30 (show (6 : Int32) = nI 6 from rfl) (by decide) (by decide) (by decide) aw_int (fun c => ?_)
  refine x_putF dX11_init_32 fp_X11_25 rfl (show (u2 (u2 (u2 ad 1 0 a) 1 2 b) 1 3 c) 0 0 = a0 from ha) (show (dmU (dmU (dmU dm 1 0) 1 2) 1 3) 0 0 from Or.inl (Or.inl (Or.inl (h)))) ((u2_x (by decide)).trans u2_s) rfl rfl (Nat.le_of_ble_eq_true rfl) ?_
  refine e_aload dX11_init_35 rfl ?_
  refine e_push dX11_init_36 ?_
  refine x_put dX11_init_37 fp_X11_29 (show (u2 (u2 (u2 ad 1 0 a) 1 2 b) 1 3 c) 0 0 = a0 from ha) (show (dmU (dmU (dmU dm 1 0) 1 2) 1 3) 0 0 from Or.inl (Or.inl (Or.inl (h)))) u2_s rfl rfl (Nat.le_of_ble_eq_true rfl) ?_
  refine e_aload dX11_init_40 rfl ?_
  refine e_push dX11_init_41 ?_
  refine x_put dX11_init_42 fp_X11_32 (show (u2 (u2 (u2 ad 1 0 a) 1 2 b) 1 3 c) 0 0 = a0 from ha) (show (dmU (dmU (dmU dm 1 0) 1 2) 1 3) 0 0 from Or.inl (Or.inl (Or.inl (h)))) u2_s rfl rfl (Nat.le_of_ble_eq_true rfl) ?_
  refine e_aload dX11_init_45 rfl ?_
  refine e_push dX11_init_46 ?_
  refine e_newq (t0 := 4) (1) (6) dX11_init_48 (show (10 : Int32) = nI 10 from rfl) (by decide) (by decide) (by decide) an_X11_35 rfl (by decide) (fun d => ?_)
  refine x_putF dX11_init_51 fp_X11_37 rfl (show (u2 (u2 (u2 (u2 ad 1 0 a) 1 2 b) 1 3 c) 1 6 d) 0 0 = a0 from ha) (show (dmU (dmU (dmU (dmU dm 1 0) 1 2) 1 3) 1 6) 0 0 from Or.inl (Or.inl (Or.inl (Or.inl (h))))) ((u2_x (by decide)).trans u2_s) rfl rfl (Nat.le_of_ble_eq_true rfl) ?_
  refine e_aload dX11_init_54 rfl ?_
  refine e_push dX11_init_55 ?_
  refine e_newq (t0 := 5) (1) (7) dX11_init_57 (show (6 : Int32) = nI 6 from rfl) (by decide) (by decide) (by decide) an_X11_41 rfl (by decide) (fun e => ?_)
  refine x_putF dX11_init_60 fp_X11_43 rfl (show (u2 (u2 (u2 (u2 (u2 ad 1 0 a) 1 2 b) 1 3 c) 1 6 d) 1 7 e) 0 0 = a0 from ha) (show (dmU (dmU (dmU (dmU (dmU dm 1 0) 1 2) 1 3) 1 6) 1 7) 0 0 from Or.inl (Or.inl (Or.inl (Or.inl (Or.inl (h)))))) ((u2_x (by decide)).trans u2_s) rfl rfl (Nat.le_of_ble_eq_true rfl) ?_
  refine e_aload dX11_init_63 rfl ?_
  refine e_push dX11_init_64 ?_
  refine e_newi (1) (8) dX11_init_65 (show (5 : Int32) = nI 5 from rfl) (by decide) (by decide) (by decide) aw_int (fun f => ?_)
  refine x_putF dX11_init_67 fp_X11_47 rfl (show (u2 (u2 (u2 (u2 (u2 (u2 ad 1 0 a) 1 2 b) 1 3 c) 1 6 d) 1 7 e) 1 8 f) 0 0 = a0 from ha) (show (dmU (dmU (dmU (dmU (dmU (dmU dm 1 0) 1 2) 1 3) 1 6) 1 7) 1 8) 0 0 from Or.inl (Or.inl (Or.inl (Or.inl (Or.inl (Or.inl (h))))))) ((u2_x (by decide)).trans u2_s) rfl rfl (Nat.le_of_ble_eq_true rfl) ?_
  refine e_aload dX11_init_70 rfl ?_
  refine e_push dX11_init_71 ?_
  refine e_newi (1) (9) dX11_init_72 (show (5 : Int32) = nI 5 from rfl) (by decide) (by decide) (by decide) aw_int (fun g => ?_)
  refine x_putF dX11_init_74 fp_X11_50 rfl (show (u2 (u2 (u2 (u2 (u2 (u2 (u2 ad 1 0 a) 1 2 b) 1 3 c) 1 6 d) 1 7 e) 1 8 f) 1 9 g) 0 0 = a0 from ha) (show (dmU (dmU (dmU (dmU (dmU (dmU (dmU dm 1 0) 1 2) 1 3) 1 6) 1 7) 1 8) 1 9) 0 0 from Or.inl (Or.inl (Or.inl (Or.inl (Or.inl (Or.inl (Or.inl (h)))))))) ((u2_x (by decide)).trans u2_s) rfl rfl (Nat.le_of_ble_eq_true rfl) ?_
  refine e_aload dX11_init_77 rfl ?_
  refine e_push dX11_init_78 ?_
  refine x_put dX11_init_79 fp_X11_53 (show (u2 (u2 (u2 (u2 (u2 (u2 (u2 ad 1 0 a) 1 2 b) 1 3 c) 1 6 d) 1 7 e) 1 8 f) 1 9 g) 0 0 = a0 from ha) (show (dmU (dmU (dmU (dmU (dmU (dmU (dmU dm 1 0) 1 2) 1 3) 1 6) 1 7) 1 8) 1 9) 0 0 from Or.inl (Or.inl (Or.inl (Or.inl (Or.inl (Or.inl (Or.inl (h)))))))) u2_s rfl rfl (Nat.le_of_ble_eq_true rfl) ?_
  refine e_aload dX11_init_82 rfl ?_
  refine e_push dX11_init_83 ?_
  refine x_put dX11_init_84 fp_X11_56 (show (u2 (u2 (u2 (u2 (u2 (u2 (u2 ad 1 0 a) 1 2 b) 1 3 c) 1 6 d) 1 7 e) 1 8 f) 1 9 g) 0 0 = a0 from ha) (show (dmU (dmU (dmU (dmU (dmU (dmU (dmU dm 1 0) 1 2) 1 3) 1 6) 1 7) 1 8) 1 9) 0 0 from Or.inl (Or.inl (Or.inl (Or.inl (Or.inl (Or.inl (Or.inl (h)))))))) u2_s rfl rfl (Nat.le_of_ble_eq_true rfl) ?_
  refine e_aload dX11_init_87 rfl ?_
  refine e_push dX11_init_88 ?_
  refine x_put dX11_init_90 fp_X11_59 (show (u2 (u2 (u2 (u2 (u2 (u2 (u2 ad 1 0 a) 1 2 b) 1 3 c) 1 6 d) 1 7 e) 1 8 f) 1 9 g) 0 0 = a0 from ha) (show (dmU (dmU (dmU (dmU (dmU (dmU (dmU dm 1 0) 1 2) 1 3) 1 6) 1 7) 1 8) 1 9) 0 0 from Or.inl (Or.inl (Or.inl (Or.inl (Or.inl (Or.inl (Or.inl (h)))))))) u2_s rfl rfl (Nat.le_of_ble_eq_true rfl) ?_
  refine e_push dX11_init_93 ?_
  refine e_istore dX11_init_94 ?_
  refine e_conv (ct' := cI dA (u2 (u2 (u2 (u2 (u2 (u2 (u2 ad 1 0 a) 1 2 b) 1 3 c) 1 6 d) 1 7 e) 1 8 f) 1 9 g) 0 0 0) (dm' := dmI 0 0) (ad' := (u2 (u2 (u2 (u2 (u2 (u2 (u2 ad 1 0 a) 1 2 b) 1 3 c) 1 6 d) 1 7 e) 1 8 f) 1 9 g)) (dmI_cases ⟨Or.inl (Or.inl (Or.inl (Or.inl (Or.inl (Or.inl (Or.inl (h))))))), rfl, rfl⟩ ⟨Or.inl (Or.inl (Or.inl (Or.inl (Or.inl (Or.inl (Or.inr ⟨rfl, rfl⟩)))))), rfl, rfl⟩ ⟨Or.inl (Or.inl (Or.inl (Or.inl (Or.inl (Or.inr ⟨rfl, rfl⟩))))), rfl, ?_⟩ ⟨Or.inl (Or.inl (Or.inl (Or.inl (Or.inr ⟨rfl, rfl⟩)))), rfl, ?_⟩ ⟨Or.inl (Or.inl (Or.inl (Or.inr ⟨rfl, rfl⟩))), rfl, rfl⟩ ⟨Or.inl (Or.inl (Or.inr ⟨rfl, rfl⟩)), rfl, ?_⟩ ⟨Or.inl (Or.inr ⟨rfl, rfl⟩), rfl, rfl⟩ ⟨Or.inr ⟨rfl, rfl⟩, rfl, rfl⟩ (fun n h => absurd h (by omega)) (fun n h => absurd h (by omega)) (fun n h => absurd h (by omega)) (fun n h => absurd h (by omega)) (fun n h => absurd h (by omega)) (fun n h => absurd h (by omega))) ?_
  · show rfs dA 3 18 (fun _ => none) = rfs dA 3 18 (fun q => if q < 0 then some ((u2 (u2 (u2 (u2 (u2 (u2 (u2 ad 1 0 a) 1 2 b) 1 3 c) 1 6 d) 1 7 e) 1 8 f) 1 9 g) 2 q) else none)
    rw [no_0]
  · show ins dA 6 (fun _ => 0) = ins dA 6 (fun q => if q < 0 then -3 else 0)
    rw [no_0]
  · show rfs dA 5 6 (fun _ => none) = rfs dA 5 6 (fun q => if q < 0 then some ((u2 (u2 (u2 (u2 (u2 (u2 (u2 ad 1 0 a) 1 2 b) 1 3 c) 1 6 d) 1 7 e) 1 8 f) 1 9 g) 11 q) else none)
    rw [no_0]
  exact e_lvA (l1_X11_init hq 18 0 (u2 (u2 (u2 (u2 (u2 (u2 (u2 ad 1 0 a) 1 2 b) 1 3 c) 1 6 d) 1 7 e) 1 8 f) 1 9 g) (by omega) ha) ⟨rfl, rfl, trivial⟩
