def r0 (n : Nat) : Nat → Nat → Int32 := fun k q => match Nat.beq k 27 with
  | true => (if q < 6 then -3 else 0)
  | false => match Nat.beq k 15 with
    | true => (if q < n then -1 else 0)
    | false => 0
def SL (n : Nat) : St := (u1 (fun _ => 0) 26 (-3), r0 n, fun _ => 0)
abbrev S0 : St := SL 10
theorem r0_up {n : Nat} : u2 (r0 n) 15 n (-1) = r0 (n + 1) := by
  funext k q
  rw [u2_e]
  by_cases hk : k = 15
  · subst hk
    show (if 15 = 15 ∧ q = n then (-1 : Int32) else if q < n then -1 else 0) = if q < n + 1 then -1 else 0
    by_cases e : q = n
    · rw [if_pos ⟨rfl, e⟩, if_pos (by omega)]
    · rw [if_neg (fun z => e z.2)]
      by_cases h : q < n
      · rw [if_pos h, if_pos (by omega)]
      · rw [if_neg h, if_neg (by omega)]
  · rw [if_neg (fun z => hk z.1)]
    unfold r0
    split
    · rfl
    · split
      · rename_i hb; exact absurd (Nat.eq_of_beq_eq_true hb) hk
      · rfl
theorem r0_27 {n : Nat} : upd (upd (upd (upd (upd (upd (fun _ => (0 : Int32)) 0 (-3)) 1 (-3)) 2 (-3)) 3 (-3)) 4 (-3)) 5 (-3) = r0 n 27 := by
  funext q
  show _ = if q < 6 then (-3 : Int32) else 0
  unfold upd
  match q with
  | 0 => rfl
  | 1 => rfl
  | 2 => rfl
  | 3 => rfl
  | 4 => rfl
  | 5 => rfl
  | q + 6 => rw [if_neg (by omega), if_neg (by omega), if_neg (by omega), if_neg (by omega), if_neg (by omega), if_neg (by omega), if_neg (by omega)]
theorem r0_15 : (fun _ => (0 : Int32)) = r0 0 15 := by
  funext q
  exact (if_neg (show ¬ q < 0 by omega)).symm
def dm2 (dm : Nat → Nat → Prop) : Nat → Nat → Prop := fun k i => dm k i ∨ (k = 17 ∧ mIsA i = true)
set_option maxRecDepth 100000 in
set_option maxHeartbeats 4000000 in
theorem l_X12_init {b0 : Nat} {D : va_G} {dA : Nat → ClassId} {dm : Nat → Nat → Prop} {ad : Nat → Nat → Nat} {Q : PQ} {ct : Nat → Nat → va_E} (hq : ∀ ad2 : Nat → Nat → Nat, (∀ k i, k < 17 → ad2 k i = ad k i) → Q none (dm2 dm) ad2 (ctM dA ad2 ct S0)) (ad2 : Nat → Nat → Nat) (hag : ∀ k i, k < 17 → ad2 k i = ad k i) (hM : dmM (dm2 dm)) : ∀ k i, i + k = 10 → E b0 D dA yX12_init cX12_init 2 none (RmA 1 26 12064) E0 (QFm b0 D dA (RmA 1 26 12064) Q) 254 (lfA [some (.ref (ad2 16 0)), some (.int (nI i))]) [] (dm2 dm) ad2 (ctM dA ad2 ct (SL i)) 26 12064 := by
  intro k
  induction k with
  | zero =>
    intro i hi
    refine e_iload dX12_init_254 rfl ?_
    refine e_push dX12_init_255 ?_
    refine e_icmp_ge dX12_init_257 (fun h257 => ?_) (fun h257 => ?_)
    · obtain rfl : i = 10 := by omega
      exact e_vret dX12_init_273 rfl (hq ad2 hag) (by decide) (by decide)
    · exact absurd (show (10 : Int32) ≤ nI i by rw [show i = 10 by omega]; decide) h257
  | succ k ih =>
    intro i hi
    refine e_iload dX12_init_254 rfl ?_
    refine e_push dX12_init_255 ?_
    refine e_icmp_ge dX12_init_257 (fun h257 => ?_) (fun h257 => ?_)
    · exact absurd h257 (by show ¬ nI 10 ≤ nI i; exact nI_ge (by omega) (by decide))
    · refine e_aload dX12_init_260 rfl ?_
      refine m_geta dX12_init_261 fg_X12_47 hM (by decide) rfl ?_
      refine e_iload dX12_init_264 rfl ?_
      refine e_push dX12_init_265 ?_
      refine m_astN i dX12_init_266 hM rfl (by decide) rfl (by show i < 10; omega) (by decide) ?_
      rw [show ((SL i).1, u2 (SL i).2.1 15 i (-1), (SL i).2.2) = SL (i + 1) from Prod.ext rfl (Prod.ext r0_up rfl)]
      refine e_iinc dX12_init_267 rfl (inc1 i) ?_
      refine e_goto dX12_init_270 ?_
      exact e_lvA (ih (i + 1) (by omega)) ⟨rfl, rfl, trivial⟩
set_option maxRecDepth 100000 in
set_option maxHeartbeats 4000000 in
theorem c_X12_init {b0 : Nat} {D : va_G} {dA : Nat → ClassId} {dm : Nat → Nat → Prop} {ad : Nat → Nat → Nat} {Q : PQ} {ct : Nat → Nat → va_E} {a0 : Nat} (ha : ad 16 0 = a0) (h : dm 16 0) (h16 : ∀ i, dm 16 i → i = 0) (hdm : ∀ k i, dm k i → k < 17) (e : ct 16 0 = .inr (10, [.int 0, .null, .null, .null, .null, .null, .null, .null, .int 0, .null, .null, .int 0, .null, .null, .null, .null, .null, .null, .null, .null, .null, .null, .null, .null, .null, .int 0, .int 0, .null, .int 0, .int 0, .int 0, .null, .null, .null])) (hq : ∀ ad2 : Nat → Nat → Nat, (∀ k i, k < 17 → ad2 k i = ad k i) → Q none (dm2 dm) ad2 (ctM dA ad2 ct S0)) : Ct b0 D dA yX12_init cX12_init 2 none (RmA 1 26 12064) [.ref a0] dm ad ct Q := by
  have hM : dmM (dm2 dm) := ⟨Or.inl h, fun i hi => hi.elim (h16 i) (fun z => absurd z.1 (by decide)), fun i hi => Or.inr ⟨rfl, hi⟩⟩
  refine ct_of (by decide) (Nat.le_of_ble_eq_true rfl) ?_
  refine e_aload dX12_init_0 rfl ?_
  refine e_objInit dX12_init_1 oi_X12_1 ow_i ow_c (by decide) (by decide) ?_
  refine e_aload dX12_init_4 rfl ?_
  refine e_push dX12_init_5 ?_
  refine e_newi (17) (1) dX12_init_7 (show (60 : Int32) = nI 60 from rfl) (by decide) (by decide) (by decide) aw_int (fun a1 => ?_)
  refine x_putF dX12_init_9 fp_X12_7 rfl (show _ = a0 from ha) (Or.inl (h)) (show _ = Sum.inr (10, _) from e) rfl rfl (Nat.le_of_ble_eq_true rfl) ?_
  refine e_aload dX12_init_12 rfl ?_
  refine e_push dX12_init_13 ?_
  refine e_newl (17) (2) dX12_init_15 (show (60 : Int32) = nI 60 from rfl) (by decide) (by decide) (by decide) aw_long (fun a2 => ?_)
  refine x_putF dX12_init_17 fp_X12_13 rfl (show _ = a0 from ha) (Or.inl (Or.inl (h))) ((u2_x (by decide)).trans u2_s) rfl rfl (Nat.le_of_ble_eq_true rfl) ?_
  refine e_aload dX12_init_20 rfl ?_
  refine e_push dX12_init_21 ?_
  refine e_newi (17) (3) dX12_init_23 (show (60 : Int32) = nI 60 from rfl) (by decide) (by decide) (by decide) aw_int (fun a3 => ?_)
  refine x_putF dX12_init_25 fp_X12_17 rfl (show _ = a0 from ha) (Or.inl (Or.inl (Or.inl (h)))) ((u2_x (by decide)).trans u2_s) rfl rfl (Nat.le_of_ble_eq_true rfl) ?_
  refine e_aload dX12_init_28 rfl ?_
  refine e_push dX12_init_29 ?_
  refine e_newi (17) (4) dX12_init_31 (show (60 : Int32) = nI 60 from rfl) (by decide) (by decide) (by decide) aw_int (fun a4 => ?_)
  refine x_putF dX12_init_33 fp_X12_20 rfl (show _ = a0 from ha) (Or.inl (Or.inl (Or.inl (Or.inl (h))))) ((u2_x (by decide)).trans u2_s) rfl rfl (Nat.le_of_ble_eq_true rfl) ?_
  refine e_aload dX12_init_36 rfl ?_
  refine e_push dX12_init_37 ?_
  refine e_newi (17) (5) dX12_init_39 (show (60 : Int32) = nI 60 from rfl) (by decide) (by decide) (by decide) aw_int (fun a5 => ?_)
  refine x_putF dX12_init_41 fp_X12_23 rfl (show _ = a0 from ha) (Or.inl (Or.inl (Or.inl (Or.inl (Or.inl (h)))))) ((u2_x (by decide)).trans u2_s) rfl rfl (Nat.le_of_ble_eq_true rfl) ?_
  refine e_aload dX12_init_44 rfl ?_
  refine e_push dX12_init_45 ?_
  refine e_newi (17) (6) dX12_init_47 (show (18 : Int32) = nI 18 from rfl) (by decide) (by decide) (by decide) aw_int (fun a6 => ?_)
  refine x_putF dX12_init_49 fp_X12_26 rfl (show _ = a0 from ha) (Or.inl (Or.inl (Or.inl (Or.inl (Or.inl (Or.inl (h))))))) ((u2_x (by decide)).trans u2_s) rfl rfl (Nat.le_of_ble_eq_true rfl) ?_
  refine e_aload dX12_init_52 rfl ?_
  refine e_push dX12_init_53 ?_
  refine e_newi (17) (7) dX12_init_56 (show (1080 : Int32) = nI 1080 from rfl) (by decide) (by decide) (by decide) aw_int (fun a7 => ?_)
  refine x_putF dX12_init_58 fp_X12_29 rfl (show _ = a0 from ha) (Or.inl (Or.inl (Or.inl (Or.inl (Or.inl (Or.inl (Or.inl (h)))))))) ((u2_x (by decide)).trans u2_s) rfl rfl (Nat.le_of_ble_eq_true rfl) ?_
  refine e_aload dX12_init_61 rfl ?_
  refine e_push dX12_init_62 ?_
  refine e_newi (17) (9) dX12_init_65 (show (520 : Int32) = nI 520 from rfl) (by decide) (by decide) (by decide) aw_int (fun a9 => ?_)
  refine x_putF dX12_init_67 fp_X12_32 rfl (show _ = a0 from ha) (Or.inl (Or.inl (Or.inl (Or.inl (Or.inl (Or.inl (Or.inl (Or.inl (h))))))))) ((u2_x (by decide)).trans u2_s) rfl rfl (Nat.le_of_ble_eq_true rfl) ?_
  refine e_aload dX12_init_70 rfl ?_
  refine e_push dX12_init_71 ?_
  refine e_newi (17) (10) dX12_init_74 (show (6240 : Int32) = nI 6240 from rfl) (by decide) (by decide) (by decide) aw_int (fun a10 => ?_)
  refine x_putF dX12_init_76 fp_X12_35 rfl (show _ = a0 from ha) (Or.inl (Or.inl (Or.inl (Or.inl (Or.inl (Or.inl (Or.inl (Or.inl (Or.inl (h)))))))))) ((u2_x (by decide)).trans u2_s) rfl rfl (Nat.le_of_ble_eq_true rfl) ?_
  refine e_aload dX12_init_79 rfl ?_
  refine e_push dX12_init_80 ?_
  refine e_newi (17) (12) dX12_init_83 (show (520 : Int32) = nI 520 from rfl) (by decide) (by decide) (by decide) aw_int (fun a12 => ?_)
  refine x_putF dX12_init_85 fp_X12_38 rfl (show _ = a0 from ha) (Or.inl (Or.inl (Or.inl (Or.inl (Or.inl (Or.inl (Or.inl (Or.inl (Or.inl (Or.inl (h))))))))))) ((u2_x (by decide)).trans u2_s) rfl rfl (Nat.le_of_ble_eq_true rfl) ?_
  refine e_aload dX12_init_88 rfl ?_
  refine e_push dX12_init_89 ?_
  refine e_newi (17) (13) dX12_init_92 (show (520 : Int32) = nI 520 from rfl) (by decide) (by decide) (by decide) aw_int (fun a13 => ?_)
  refine x_putF dX12_init_94 fp_X12_41 rfl (show _ = a0 from ha) (Or.inl (Or.inl (Or.inl (Or.inl (Or.inl (Or.inl (Or.inl (Or.inl (Or.inl (Or.inl (Or.inl (h)))))))))))) ((u2_x (by decide)).trans u2_s) rfl rfl (Nat.le_of_ble_eq_true rfl) ?_
  refine e_aload dX12_init_97 rfl ?_
  refine e_push dX12_init_98 ?_
  refine e_newi (17) (14) dX12_init_101 (show (2600 : Int32) = nI 2600 from rfl) (by decide) (by decide) (by decide) aw_int (fun a14 => ?_)
  refine x_putF dX12_init_103 fp_X12_44 rfl (show _ = a0 from ha) (Or.inl (Or.inl (Or.inl (Or.inl (Or.inl (Or.inl (Or.inl (Or.inl (Or.inl (Or.inl (Or.inl (Or.inl (h))))))))))))) ((u2_x (by decide)).trans u2_s) rfl rfl (Nat.le_of_ble_eq_true rfl) ?_
  refine e_aload dX12_init_106 rfl ?_
  refine e_push dX12_init_107 ?_
  refine e_newi (17) (15) dX12_init_109 (show (10 : Int32) = nI 10 from rfl) (by decide) (by decide) (by decide) aw_int (fun a15 => ?_)
  refine x_putF dX12_init_111 fp_X12_47 rfl (show _ = a0 from ha) (Or.inl (Or.inl (Or.inl (Or.inl (Or.inl (Or.inl (Or.inl (Or.inl (Or.inl (Or.inl (Or.inl (Or.inl (Or.inl (h)))))))))))))) ((u2_x (by decide)).trans u2_s) rfl rfl (Nat.le_of_ble_eq_true rfl) ?_
  refine e_aload dX12_init_114 rfl ?_
  refine e_push dX12_init_115 ?_
  refine e_newi (17) (16) dX12_init_117 (show (6 : Int32) = nI 6 from rfl) (by decide) (by decide) (by decide) aw_int (fun a16 => ?_)
  refine x_putF dX12_init_119 fp_X12_50 rfl (show _ = a0 from ha) (Or.inl (Or.inl (Or.inl (Or.inl (Or.inl (Or.inl (Or.inl (Or.inl (Or.inl (Or.inl (Or.inl (Or.inl (Or.inl (Or.inl (h))))))))))))))) ((u2_x (by decide)).trans u2_s) rfl rfl (Nat.le_of_ble_eq_true rfl) ?_
  refine e_aload dX12_init_122 rfl ?_
  refine e_push dX12_init_123 ?_
  refine e_newi (17) (17) dX12_init_125 (show (30 : Int32) = nI 30 from rfl) (by decide) (by decide) (by decide) aw_int (fun a17 => ?_)
  refine x_putF dX12_init_127 fp_X12_53 rfl (show _ = a0 from ha) (Or.inl (Or.inl (Or.inl (Or.inl (Or.inl (Or.inl (Or.inl (Or.inl (Or.inl (Or.inl (Or.inl (Or.inl (Or.inl (Or.inl (Or.inl (h)))))))))))))))) ((u2_x (by decide)).trans u2_s) rfl rfl (Nat.le_of_ble_eq_true rfl) ?_
  refine e_aload dX12_init_130 rfl ?_
  refine e_push dX12_init_131 ?_
  refine e_newi (17) (18) dX12_init_133 (show (30 : Int32) = nI 30 from rfl) (by decide) (by decide) (by decide) aw_int (fun a18 => ?_)
  refine x_putF dX12_init_135 fp_X12_56 rfl (show _ = a0 from ha) (Or.inl (Or.inl (Or.inl (Or.inl (Or.inl (Or.inl (Or.inl (Or.inl (Or.inl (Or.inl (Or.inl (Or.inl (Or.inl (Or.inl (Or.inl (Or.inl (h))))))))))))))))) ((u2_x (by decide)).trans u2_s) rfl rfl (Nat.le_of_ble_eq_true rfl) ?_
  refine e_aload dX12_init_138 rfl ?_
  refine e_push dX12_init_139 ?_
  refine e_newi (17) (19) dX12_init_141 (show (6 : Int32) = nI 6 from rfl) (by decide) (by decide) (by decide) aw_int (fun a19 => ?_)
  refine x_putF dX12_init_143 fp_X12_59 rfl (show _ = a0 from ha) (Or.inl (Or.inl (Or.inl (Or.inl (Or.inl (Or.inl (Or.inl (Or.inl (Or.inl (Or.inl (Or.inl (Or.inl (Or.inl (Or.inl (Or.inl (Or.inl (Or.inl (h)))))))))))))))))) ((u2_x (by decide)).trans u2_s) rfl rfl (Nat.le_of_ble_eq_true rfl) ?_
  refine e_aload dX12_init_146 rfl ?_
  refine e_push dX12_init_147 ?_
  refine e_newi (17) (20) dX12_init_149 (show (24 : Int32) = nI 24 from rfl) (by decide) (by decide) (by decide) aw_int (fun a20 => ?_)
  refine x_putF dX12_init_151 fp_X12_62 rfl (show _ = a0 from ha) (Or.inl (Or.inl (Or.inl (Or.inl (Or.inl (Or.inl (Or.inl (Or.inl (Or.inl (Or.inl (Or.inl (Or.inl (Or.inl (Or.inl (Or.inl (Or.inl (Or.inl (Or.inl (h))))))))))))))))))) ((u2_x (by decide)).trans u2_s) rfl rfl (Nat.le_of_ble_eq_true rfl) ?_
  refine e_aload dX12_init_154 rfl ?_
  refine e_push dX12_init_155 ?_
  refine e_newi (17) (21) dX12_init_157 (show (24 : Int32) = nI 24 from rfl) (by decide) (by decide) (by decide) aw_int (fun a21 => ?_)
  refine x_putF dX12_init_159 fp_X12_65 rfl (show _ = a0 from ha) (Or.inl (Or.inl (Or.inl (Or.inl (Or.inl (Or.inl (Or.inl (Or.inl (Or.inl (Or.inl (Or.inl (Or.inl (Or.inl (Or.inl (Or.inl (Or.inl (Or.inl (Or.inl (Or.inl (h)))))))))))))))))))) ((u2_x (by decide)).trans u2_s) rfl rfl (Nat.le_of_ble_eq_true rfl) ?_
  refine e_aload dX12_init_162 rfl ?_
  refine e_push dX12_init_163 ?_
  refine e_newi (17) (22) dX12_init_165 (show (24 : Int32) = nI 24 from rfl) (by decide) (by decide) (by decide) aw_int (fun a22 => ?_)
  refine x_putF dX12_init_167 fp_X12_68 rfl (show _ = a0 from ha) (Or.inl (Or.inl (Or.inl (Or.inl (Or.inl (Or.inl (Or.inl (Or.inl (Or.inl (Or.inl (Or.inl (Or.inl (Or.inl (Or.inl (Or.inl (Or.inl (Or.inl (Or.inl (Or.inl (Or.inl (h))))))))))))))))))))) ((u2_x (by decide)).trans u2_s) rfl rfl (Nat.le_of_ble_eq_true rfl) ?_
  refine e_aload dX12_init_170 rfl ?_
  refine e_push dX12_init_171 ?_
  refine e_newi (17) (23) dX12_init_172 (show (5 : Int32) = nI 5 from rfl) (by decide) (by decide) (by decide) aw_int (fun a23 => ?_)
  refine x_putF dX12_init_174 fp_X12_71 rfl (show _ = a0 from ha) (Or.inl (Or.inl (Or.inl (Or.inl (Or.inl (Or.inl (Or.inl (Or.inl (Or.inl (Or.inl (Or.inl (Or.inl (Or.inl (Or.inl (Or.inl (Or.inl (Or.inl (Or.inl (Or.inl (Or.inl (Or.inl (h)))))))))))))))))))))) ((u2_x (by decide)).trans u2_s) rfl rfl (Nat.le_of_ble_eq_true rfl) ?_
  refine e_aload dX12_init_177 rfl ?_
  refine e_push dX12_init_178 ?_
  refine e_newi (17) (24) dX12_init_179 (show (5 : Int32) = nI 5 from rfl) (by decide) (by decide) (by decide) aw_int (fun a24 => ?_)
  refine x_putF dX12_init_181 fp_X12_74 rfl (show _ = a0 from ha) (Or.inl (Or.inl (Or.inl (Or.inl (Or.inl (Or.inl (Or.inl (Or.inl (Or.inl (Or.inl (Or.inl (Or.inl (Or.inl (Or.inl (Or.inl (Or.inl (Or.inl (Or.inl (Or.inl (Or.inl (Or.inl (Or.inl (h))))))))))))))))))))))) ((u2_x (by decide)).trans u2_s) rfl rfl (Nat.le_of_ble_eq_true rfl) ?_
  refine e_aload dX12_init_184 rfl ?_
  refine e_push dX12_init_185 ?_
  refine x_put dX12_init_187 fp_X12_77 (show _ = a0 from ha) (Or.inl (Or.inl (Or.inl (Or.inl (Or.inl (Or.inl (Or.inl (Or.inl (Or.inl (Or.inl (Or.inl (Or.inl (Or.inl (Or.inl (Or.inl (Or.inl (Or.inl (Or.inl (Or.inl (Or.inl (Or.inl (Or.inl (h))))))))))))))))))))))) u2_s rfl rfl (Nat.le_of_ble_eq_true rfl) ?_
  refine e_aload dX12_init_190 rfl ?_
  refine e_push dX12_init_191 ?_
  refine e_newi (17) (27) dX12_init_193 (show (6 : Int32) = nI 6 from rfl) (by decide) (by decide) (by decide) aw_int (fun a27 => ?_)
  refine e_dup dX12_init_195 ?_
  refine e_push dX12_init_196 ?_
  refine e_push dX12_init_197 ?_
  refine x_ist (0) dX12_init_199 u2_s (Or.inr ⟨rfl, rfl⟩) u2_s rfl (by decide) (by decide) ?_
  refine e_dup dX12_init_200 ?_
  refine e_push dX12_init_201 ?_
  refine e_push dX12_init_202 ?_
  refine x_ist (1) dX12_init_204 u2_s (Or.inr ⟨rfl, rfl⟩) u2_s rfl (by decide) (by decide) ?_
  refine e_dup dX12_init_205 ?_
  refine e_push dX12_init_206 ?_
  refine e_push dX12_init_207 ?_
  refine x_ist (2) dX12_init_209 u2_s (Or.inr ⟨rfl, rfl⟩) u2_s rfl (by decide) (by decide) ?_
  refine e_dup dX12_init_210 ?_
  refine e_push dX12_init_211 ?_
  refine e_push dX12_init_212 ?_
  refine x_ist (3) dX12_init_214 u2_s (Or.inr ⟨rfl, rfl⟩) u2_s rfl (by decide) (by decide) ?_
  refine e_dup dX12_init_215 ?_
  refine e_push dX12_init_216 ?_
  refine e_push dX12_init_217 ?_
  refine x_ist (4) dX12_init_219 u2_s (Or.inr ⟨rfl, rfl⟩) u2_s rfl (by decide) (by decide) ?_
  refine e_dup dX12_init_220 ?_
  refine e_push dX12_init_221 ?_
  refine e_push dX12_init_222 ?_
  refine x_ist (5) dX12_init_224 u2_s (Or.inr ⟨rfl, rfl⟩) u2_s rfl (by decide) (by decide) ?_
  refine x_putF dX12_init_225 fp_X12_81 rfl (show _ = a0 from ha) (Or.inl (Or.inl (Or.inl (Or.inl (Or.inl (Or.inl (Or.inl (Or.inl (Or.inl (Or.inl (Or.inl (Or.inl (Or.inl (Or.inl (Or.inl (Or.inl (Or.inl (Or.inl (Or.inl (Or.inl (Or.inl (Or.inl (Or.inl (h)))))))))))))))))))))))) ((u2_x (by decide)).trans ((u2_x (by decide)).trans ((u2_x (by decide)).trans ((u2_x (by decide)).trans ((u2_x (by decide)).trans ((u2_x (by decide)).trans ((u2_x (by decide)).trans u2_s))))))) rfl rfl (Nat.le_of_ble_eq_true rfl) ?_
  refine e_aload dX12_init_228 rfl ?_
  refine e_push dX12_init_229 ?_
  refine e_newi (17) (31) dX12_init_231 (show (32 : Int32) = nI 32 from rfl) (by decide) (by decide) (by decide) aw_int (fun a31 => ?_)
  refine x_putF dX12_init_233 fp_X12_84 rfl (show _ = a0 from ha) (Or.inl (Or.inl (Or.inl (Or.inl (Or.inl (Or.inl (Or.inl (Or.inl (Or.inl (Or.inl (Or.inl (Or.inl (Or.inl (Or.inl (Or.inl (Or.inl (Or.inl (Or.inl (Or.inl (Or.inl (Or.inl (Or.inl (Or.inl (Or.inl (h))))))))))))))))))))))))) ((u2_x (by decide)).trans u2_s) rfl rfl (Nat.le_of_ble_eq_true rfl) ?_
  refine e_aload dX12_init_236 rfl ?_
  refine e_push dX12_init_237 ?_
  refine e_newi (17) (32) dX12_init_239 (show (32 : Int32) = nI 32 from rfl) (by decide) (by decide) (by decide) aw_int (fun a32 => ?_)
  refine x_putF dX12_init_241 fp_X12_87 rfl (show _ = a0 from ha) (Or.inl (Or.inl (Or.inl (Or.inl (Or.inl (Or.inl (Or.inl (Or.inl (Or.inl (Or.inl (Or.inl (Or.inl (Or.inl (Or.inl (Or.inl (Or.inl (Or.inl (Or.inl (Or.inl (Or.inl (Or.inl (Or.inl (Or.inl (Or.inl (Or.inl (h)))))))))))))))))))))))))) ((u2_x (by decide)).trans u2_s) rfl rfl (Nat.le_of_ble_eq_true rfl) ?_
  refine e_aload dX12_init_244 rfl ?_
  refine e_push dX12_init_245 ?_
  refine e_newi (17) (33) dX12_init_247 (show (32 : Int32) = nI 32 from rfl) (by decide) (by decide) (by decide) aw_int (fun a33 => ?_)
  refine x_putF dX12_init_249 fp_X12_90 rfl (show _ = a0 from ha) (Or.inl (Or.inl (Or.inl (Or.inl (Or.inl (Or.inl (Or.inl (Or.inl (Or.inl (Or.inl (Or.inl (Or.inl (Or.inl (Or.inl (Or.inl (Or.inl (Or.inl (Or.inl (Or.inl (Or.inl (Or.inl (Or.inl (Or.inl (Or.inl (Or.inl (Or.inl (h))))))))))))))))))))))))))) ((u2_x (by decide)).trans u2_s) rfl rfl (Nat.le_of_ble_eq_true rfl) ?_
  refine e_push dX12_init_252 ?_
  refine e_istore dX12_init_253 ?_
  refine e_conv (dm' := dm2 dm) (ad' := (u2 (u2 (u2 (u2 (u2 (u2 (u2 (u2 (u2 (u2 (u2 (u2 (u2 (u2 (u2 (u2 (u2 (u2 (u2 (u2 (u2 (u2 (u2 (u2 (u2 (u2 ad 17 1 a1) 17 2 a2) 17 3 a3) 17 4 a4) 17 5 a5) 17 6 a6) 17 7 a7) 17 9 a9) 17 10 a10) 17 12 a12) 17 13 a13) 17 14 a14) 17 15 a15) 17 16 a16) 17 17 a17) 17 18 a18) 17 19 a19) 17 20 a20) 17 21 a21) 17 22 a22) 17 23 a23) 17 24 a24) 17 27 a27) 17 31 a31) 17 32 a32) 17 33 a33)) (ct' := ctM dA (u2 (u2 (u2 (u2 (u2 (u2 (u2 (u2 (u2 (u2 (u2 (u2 (u2 (u2 (u2 (u2 (u2 (u2 (u2 (u2 (u2 (u2 (u2 (u2 (u2 (u2 ad 17 1 a1) 17 2 a2) 17 3 a3) 17 4 a4) 17 5 a5) 17 6 a6) 17 7 a7) 17 9 a9) 17 10 a10) 17 12 a12) 17 13 a13) 17 14 a14) 17 15 a15) 17 16 a16) 17 17 a17) 17 18 a18) 17 19 a19) 17 20 a20) 17 21 a21) 17 22 a22) 17 23 a23) 17 24 a24) 17 27 a27) 17 31 a31) 17 32 a32) 17 33 a33) ct (SL 0)) (fun k i hd => ?_) ?_
  · rcases hd with hd | ⟨rfl, hd⟩
    · refine ⟨Or.inl (Or.inl (Or.inl (Or.inl (Or.inl (Or.inl (Or.inl (Or.inl (Or.inl (Or.inl (Or.inl (Or.inl (Or.inl (Or.inl (Or.inl (Or.inl (Or.inl (Or.inl (Or.inl (Or.inl (Or.inl (Or.inl (Or.inl (Or.inl (Or.inl (Or.inl (hd)))))))))))))))))))))))))), rfl, ?_⟩
      match k, hdm k i hd with
      | 0, _ => rfl
      | 1, _ => rfl
      | 2, _ => rfl
      | 3, _ => rfl
      | 4, _ => rfl
      | 5, _ => rfl
      | 6, _ => rfl
      | 7, _ => rfl
      | 8, _ => rfl
      | 9, _ => rfl
      | 10, _ => rfl
      | 11, _ => rfl
      | 12, _ => rfl
      | 13, _ => rfl
      | 14, _ => rfl
      | 15, _ => rfl
      | 16, _ => obtain rfl := h16 i hd; rfl
      | q + 17, hq => exact absurd hq (by omega)
    · match i, hd with
      | 0, hd => exact absurd hd (by decide)
      | 1, _ => exact ⟨Or.inl (Or.inl (Or.inl (Or.inl (Or.inl (Or.inl (Or.inl (Or.inl (Or.inl (Or.inl (Or.inl (Or.inl (Or.inl (Or.inl (Or.inl (Or.inl (Or.inl (Or.inl (Or.inl (Or.inl (Or.inl (Or.inl (Or.inl (Or.inl (Or.inl (Or.inr ⟨rfl, rfl⟩))))))))))))))))))))))))), rfl, rfl⟩
      | 2, _ => exact ⟨Or.inl (Or.inl (Or.inl (Or.inl (Or.inl (Or.inl (Or.inl (Or.inl (Or.inl (Or.inl (Or.inl (Or.inl (Or.inl (Or.inl (Or.inl (Or.inl (Or.inl (Or.inl (Or.inl (Or.inl (Or.inl (Or.inl (Or.inl (Or.inl (Or.inr ⟨rfl, rfl⟩)))))))))))))))))))))))), rfl, rfl⟩
      | 3, _ => exact ⟨Or.inl (Or.inl (Or.inl (Or.inl (Or.inl (Or.inl (Or.inl (Or.inl (Or.inl (Or.inl (Or.inl (Or.inl (Or.inl (Or.inl (Or.inl (Or.inl (Or.inl (Or.inl (Or.inl (Or.inl (Or.inl (Or.inl (Or.inl (Or.inr ⟨rfl, rfl⟩))))))))))))))))))))))), rfl, rfl⟩
      | 4, _ => exact ⟨Or.inl (Or.inl (Or.inl (Or.inl (Or.inl (Or.inl (Or.inl (Or.inl (Or.inl (Or.inl (Or.inl (Or.inl (Or.inl (Or.inl (Or.inl (Or.inl (Or.inl (Or.inl (Or.inl (Or.inl (Or.inl (Or.inl (Or.inr ⟨rfl, rfl⟩)))))))))))))))))))))), rfl, rfl⟩
      | 5, _ => exact ⟨Or.inl (Or.inl (Or.inl (Or.inl (Or.inl (Or.inl (Or.inl (Or.inl (Or.inl (Or.inl (Or.inl (Or.inl (Or.inl (Or.inl (Or.inl (Or.inl (Or.inl (Or.inl (Or.inl (Or.inl (Or.inl (Or.inr ⟨rfl, rfl⟩))))))))))))))))))))), rfl, rfl⟩
      | 6, _ => exact ⟨Or.inl (Or.inl (Or.inl (Or.inl (Or.inl (Or.inl (Or.inl (Or.inl (Or.inl (Or.inl (Or.inl (Or.inl (Or.inl (Or.inl (Or.inl (Or.inl (Or.inl (Or.inl (Or.inl (Or.inl (Or.inr ⟨rfl, rfl⟩)))))))))))))))))))), rfl, rfl⟩
      | 7, _ => exact ⟨Or.inl (Or.inl (Or.inl (Or.inl (Or.inl (Or.inl (Or.inl (Or.inl (Or.inl (Or.inl (Or.inl (Or.inl (Or.inl (Or.inl (Or.inl (Or.inl (Or.inl (Or.inl (Or.inl (Or.inr ⟨rfl, rfl⟩))))))))))))))))))), rfl, rfl⟩
      | 8, hd => exact absurd hd (by decide)
      | 9, _ => exact ⟨Or.inl (Or.inl (Or.inl (Or.inl (Or.inl (Or.inl (Or.inl (Or.inl (Or.inl (Or.inl (Or.inl (Or.inl (Or.inl (Or.inl (Or.inl (Or.inl (Or.inl (Or.inl (Or.inr ⟨rfl, rfl⟩)))))))))))))))))), rfl, rfl⟩
      | 10, _ => exact ⟨Or.inl (Or.inl (Or.inl (Or.inl (Or.inl (Or.inl (Or.inl (Or.inl (Or.inl (Or.inl (Or.inl (Or.inl (Or.inl (Or.inl (Or.inl (Or.inl (Or.inl (Or.inr ⟨rfl, rfl⟩))))))))))))))))), rfl, rfl⟩
      | 11, hd => exact absurd hd (by decide)
      | 12, _ => exact ⟨Or.inl (Or.inl (Or.inl (Or.inl (Or.inl (Or.inl (Or.inl (Or.inl (Or.inl (Or.inl (Or.inl (Or.inl (Or.inl (Or.inl (Or.inl (Or.inl (Or.inr ⟨rfl, rfl⟩)))))))))))))))), rfl, rfl⟩
      | 13, _ => exact ⟨Or.inl (Or.inl (Or.inl (Or.inl (Or.inl (Or.inl (Or.inl (Or.inl (Or.inl (Or.inl (Or.inl (Or.inl (Or.inl (Or.inl (Or.inl (Or.inr ⟨rfl, rfl⟩))))))))))))))), rfl, rfl⟩
      | 14, _ => exact ⟨Or.inl (Or.inl (Or.inl (Or.inl (Or.inl (Or.inl (Or.inl (Or.inl (Or.inl (Or.inl (Or.inl (Or.inl (Or.inl (Or.inl (Or.inr ⟨rfl, rfl⟩)))))))))))))), rfl, rfl⟩
      | 15, _ => exact ⟨Or.inl (Or.inl (Or.inl (Or.inl (Or.inl (Or.inl (Or.inl (Or.inl (Or.inl (Or.inl (Or.inl (Or.inl (Or.inl (Or.inr ⟨rfl, rfl⟩))))))))))))), rfl, (show ins dA 10 (fun _ => 0) = ins dA 10 (r0 0 15) by rw [← r0_15])⟩
      | 16, _ => exact ⟨Or.inl (Or.inl (Or.inl (Or.inl (Or.inl (Or.inl (Or.inl (Or.inl (Or.inl (Or.inl (Or.inl (Or.inl (Or.inr ⟨rfl, rfl⟩)))))))))))), rfl, rfl⟩
      | 17, _ => exact ⟨Or.inl (Or.inl (Or.inl (Or.inl (Or.inl (Or.inl (Or.inl (Or.inl (Or.inl (Or.inl (Or.inl (Or.inr ⟨rfl, rfl⟩))))))))))), rfl, rfl⟩
      | 18, _ => exact ⟨Or.inl (Or.inl (Or.inl (Or.inl (Or.inl (Or.inl (Or.inl (Or.inl (Or.inl (Or.inl (Or.inr ⟨rfl, rfl⟩)))))))))), rfl, rfl⟩
      | 19, _ => exact ⟨Or.inl (Or.inl (Or.inl (Or.inl (Or.inl (Or.inl (Or.inl (Or.inl (Or.inl (Or.inr ⟨rfl, rfl⟩))))))))), rfl, rfl⟩
      | 20, _ => exact ⟨Or.inl (Or.inl (Or.inl (Or.inl (Or.inl (Or.inl (Or.inl (Or.inl (Or.inr ⟨rfl, rfl⟩)))))))), rfl, rfl⟩
      | 21, _ => exact ⟨Or.inl (Or.inl (Or.inl (Or.inl (Or.inl (Or.inl (Or.inl (Or.inr ⟨rfl, rfl⟩))))))), rfl, rfl⟩
      | 22, _ => exact ⟨Or.inl (Or.inl (Or.inl (Or.inl (Or.inl (Or.inl (Or.inr ⟨rfl, rfl⟩)))))), rfl, rfl⟩
      | 23, _ => exact ⟨Or.inl (Or.inl (Or.inl (Or.inl (Or.inl (Or.inr ⟨rfl, rfl⟩))))), rfl, rfl⟩
      | 24, _ => exact ⟨Or.inl (Or.inl (Or.inl (Or.inl (Or.inr ⟨rfl, rfl⟩)))), rfl, rfl⟩
      | 25, hd => exact absurd hd (by decide)
      | 26, hd => exact absurd hd (by decide)
      | 27, _ => exact ⟨Or.inl (Or.inl (Or.inl (Or.inr ⟨rfl, rfl⟩))), rfl, (show ins dA 6 _ = ins dA 6 (r0 0 27) by rw [← r0_27])⟩
      | 28, hd => exact absurd hd (by decide)
      | 29, hd => exact absurd hd (by decide)
      | 30, hd => exact absurd hd (by decide)
      | 31, _ => exact ⟨Or.inl (Or.inl (Or.inr ⟨rfl, rfl⟩)), rfl, rfl⟩
      | 32, _ => exact ⟨Or.inl (Or.inr ⟨rfl, rfl⟩), rfl, rfl⟩
      | 33, _ => exact ⟨Or.inr ⟨rfl, rfl⟩, rfl, rfl⟩
      | q + 34, hd => exact absurd hd (by decide)
  exact e_wide (by decide) (by decide) (e_lvA (l_X12_init hq (u2 (u2 (u2 (u2 (u2 (u2 (u2 (u2 (u2 (u2 (u2 (u2 (u2 (u2 (u2 (u2 (u2 (u2 (u2 (u2 (u2 (u2 (u2 (u2 (u2 (u2 ad 17 1 a1) 17 2 a2) 17 3 a3) 17 4 a4) 17 5 a5) 17 6 a6) 17 7 a7) 17 9 a9) 17 10 a10) 17 12 a12) 17 13 a13) 17 14 a14) 17 15 a15) 17 16 a16) 17 17 a17) 17 18 a18) 17 19 a19) 17 20 a20) 17 21 a21) 17 22 a22) 17 23 a23) 17 24 a24) 17 27 a27) 17 31 a31) 17 32 a32) 17 33 a33) (fun k i hk => by
    match k, hk with
    | 0, _ => rfl
    | 1, _ => rfl
    | 2, _ => rfl
    | 3, _ => rfl
    | 4, _ => rfl
    | 5, _ => rfl
    | 6, _ => rfl
    | 7, _ => rfl
    | 8, _ => rfl
    | 9, _ => rfl
    | 10, _ => rfl
    | 11, _ => rfl
    | 12, _ => rfl
    | 13, _ => rfl
    | 14, _ => rfl
    | 15, _ => rfl
    | 16, _ => rfl
    | q + 17, hk => exact absurd hk (by omega)) hM 10 0 (by omega)) ⟨congrArg (fun z => some (Value.ref z)) (show a0 = _ from ha.symm), rfl, trivial⟩)
