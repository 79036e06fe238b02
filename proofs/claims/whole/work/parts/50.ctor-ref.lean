def r0 (n : Nat) : Nat → Nat → Int32 := fun k q => match Nat.beq k 27 with
  | true => (if q < 6 then -3 else 0)
  | false => match Nat.beq k 15 with
    | true => (if q < n then -1 else 0)
    | false => 0
def SL (n : Nat) : St := (u1 (fun _ => 0) 26 (-3), r0 n, fun _ => 0)
abbrev S0 : St := SL 10
theorem r0_up {n : Nat} : u2 (r0 n) 15 n (-1) = r0 (n + 1) := by
  funext k q
  rw [u2_e]
  by_cases hk : k = 15
  · subst hk
    show (if 15 = 15 ∧ q = n then (-1 : Int32) else if q < n then -1 else 0) = if q < n + 1 then -1 else 0
    by_cases e : q = n
    · rw [if_pos ⟨rfl, e⟩, if_pos (by omega)]
    · rw [if_neg (fun z => e z.2)]
      by_cases h : q < n
      · rw [if_pos h, if_pos (by omega)]
      · rw [if_neg h, if_neg (by omega)]
  · rw [if_neg (fun z => hk z.1)]
    unfold r0
    split
    · rfl
    · split
      · rename_i hb; exact absurd (Nat.eq_of_beq_eq_true hb) hk
      · rfl
theorem r0_27 {n : Nat} : upd (upd (upd (upd (upd (upd (fun _ => (0 : Int32)) 0 (-3)) 1 (-3)) 2 (-3)) 3 (-3)) 4 (-3)) 5 (-3) = r0 n 27 := by
  funext q
  show _ = if q < 6 then (-3 : Int32) else 0
  unfold upd
  match q with
  | 0 => rfl
  | 1 => rfl
  | 2 => rfl
  | 3 => rfl
  | 4 => rfl
  | 5 => rfl
  | q + 6 => rw [if_neg (by omega), if_neg (by omega), if_neg (by omega), if_neg (by omega), if_neg (by omega), if_neg (by omega), if_neg (by omega)]
theorem r0_15 : (fun _ => (0 : Int32)) = r0 0 15 := by
  funext q
  show (0 : Int32) = if q < 0 then -1 else 0
  exact (if_neg (show ¬ q < 0 by omega)).symm
def dm2 (dm : Nat → Nat → Prop) : Nat → Nat → Prop := fun k i => dm k i ∨ (k = 17 ∧ mIsA i = true)
def pv (ad : Nat → Nat → Nat) (n j : Nat) : Value := match Nat.ble (j + 1) n with
  | true => .ref (ad 17 j)
  | false => .null
def pf (ad : Nat → Nat → Nat) (n : Nat) : List Value := [.int 0, pv ad n 1, pv ad n 2, pv ad n 3, pv ad n 4, pv ad n 5, pv ad n 6, pv ad n 7, .int 0, pv ad n 9, pv ad n 10, .int 0, pv ad n 12, pv ad n 13, pv ad n 14, pv ad n 15, pv ad n 16, pv ad n 17, pv ad n 18, pv ad n 19, pv ad n 20, pv ad n 21, pv ad n 22, pv ad n 23, pv ad n 24, .int 0, .int (match Nat.ble 26 n with
    | true => -3
    | false => 0), pv ad n 27, .int 0, .int 0, .int 0, pv ad n 31, pv ad n 32, pv ad n 33]
def dmP (dm : Nat → Nat → Prop) (n : Nat) : Nat → Nat → Prop := fun k i => dm k i ∨ (k = 17 ∧ mIsA i = true ∧ i < n)
def ctP (dA : Nat → ClassId) (ad : Nat → Nat → Nat) (ct : Nat → Nat → va_E) (n : Nat) : Nat → Nat → va_E := fun k i => match Nat.beq k 17 with
  | true => mA dA (SL 0) i
  | false => match Nat.beq k 16 with
    | true => .inr (10, pf ad n)
    | false => ct k i
theorem ctP_17 {dA : Nat → ClassId} {ad : Nat → Nat → Nat} {ct : Nat → Nat → va_E} {n i : Nat} : ctP dA ad ct n 17 i = mA dA (SL 0) i := rfl
theorem ctP_16 {dA : Nat → ClassId} {ad : Nat → Nat → Nat} {ct : Nat → Nat → va_E} {n i : Nat} : ctP dA ad ct n 16 i = .inr (10, pf ad n) := rfl
theorem ctP_o {dA : Nat → ClassId} {ad : Nat → Nat → Nat} {ct : Nat → Nat → va_E} {n k i : Nat} (h : k < 16) : ctP dA ad ct n k i = ct k i := by
  unfold ctP
  split
  · rename_i hb; exact absurd (Nat.eq_of_beq_eq_true hb) (by omega)
  · split
    · rename_i hb; exact absurd (Nat.eq_of_beq_eq_true hb) (by omega)
    · rfl
theorem pR_cv {dA : Nat → ClassId} {ad : Nat → Nat → Nat} {ct : Nat → Nat → va_E} {dm : Nat → Nat → Prop} {n j a : Nat} {A : va_E} {fs : List Value} (hdm : ∀ k i, dm k i → k < 17) (h16 : ∀ i, dm 16 i → i = 0) (hn : ∀ i, mIsA i = true → i < j + 1 → i < n ∨ i = j) (hA : A = mA dA (SL 0) j) (hpf : fs = pf (u2 ad 17 j a) (j + 1)) : ∀ k i, dmP dm (j + 1) k i → dmU (dmP dm n) 17 j k i ∧ u2 ad 17 j a k i = u2 ad 17 j a k i ∧ u2 (u2 (ctP dA ad ct n) 17 j A) 16 0 (.inr (10, fs)) k i = ctP dA (u2 ad 17 j a) ct (j + 1) k i := by
  intro k i hd
  rcases hd with hd | ⟨rfl, hm, hi⟩
  · refine ⟨Or.inl (Or.inl hd), rfl, ?_⟩
    have hk := hdm k i hd
    by_cases e : k = 16
    · subst e
      obtain rfl := h16 i hd
      rw [u2_s, hpf, ctP_16]
    · rw [u2_x e, u2_x (by omega), ctP_o (by omega), ctP_o (by omega)]
  · rw [u2_x (k := 16) (by decide), ctP_17]
    by_cases e : i = j
    · subst e
      exact ⟨Or.inr ⟨rfl, rfl⟩, rfl, by rw [u2_s, hA]⟩
    · refine ⟨Or.inl (Or.inr ⟨rfl, hm, (hn i hm hi).resolve_right e⟩), rfl, ?_⟩
      rw [u2_n (fun z => e z.2), ctP_17]
theorem pT_cv {dA : Nat → ClassId} {ad : Nat → Nat → Nat} {ct : Nat → Nat → va_E} {dm : Nat → Nat → Prop} {n n' : Nat} {fs : List Value} (hdm : ∀ k i, dm k i → k < 17) (h16 : ∀ i, dm 16 i → i = 0) (hn : ∀ i, mIsA i = true → i < n' → i < n) (hpf : fs = pf ad n') : ∀ k i, dmP dm n' k i → dmP dm n k i ∧ ad k i = ad k i ∧ u2 (ctP dA ad ct n) 16 0 (.inr (10, fs)) k i = ctP dA ad ct n' k i := by
  intro k i hd
  rcases hd with hd | ⟨rfl, hm, hi⟩
  · refine ⟨Or.inl hd, rfl, ?_⟩
    have hk := hdm k i hd
    by_cases e : k = 16
    · subst e
      obtain rfl := h16 i hd
      rw [u2_s, hpf, ctP_16]
    · rw [u2_x e, ctP_o (by omega), ctP_o (by omega)]
  · exact ⟨Or.inr ⟨rfl, hm, hn i hm hi⟩, rfl, by rw [u2_x (k := 16) (by decide)]; rfl⟩
set_option maxRecDepth 100000 in
set_option maxHeartbeats 4000000 in
theorem l_X12_init {b0 : Nat} {D : va_G} {dA : Nat → ClassId} {dm : Nat → Nat → Prop} {ad : Nat → Nat → Nat} {Q : PQ} {ct : Nat → Nat → va_E} (hq : ∀ ad2 : Nat → Nat → Nat, (∀ k i, k < 17 → ad2 k i = ad k i) → Q none (dm2 dm) ad2 (ctM dA ad2 ct S0)) (ad2 : Nat → Nat → Nat) (hag : ∀ k i, k < 17 → ad2 k i = ad k i) (hM : dmM (dm2 dm)) : ∀ k i, i + k = 10 → E b0 D dA yX12_init cX12_init 2 none (RmA 1 26 12064) E0 (QFm b0 D dA (RmA 1 26 12064) Q) 254 (lfA [some (.ref (ad2 16 0)), some (.int (nI i))]) [] (dm2 dm) ad2 (ctM dA ad2 ct (SL i)) 26 12064 := by
  intro k
  induction k with
  | zero =>
    intro i hi
    refine e_iload dX12_init_254 rfl ?_
    refine e_push dX12_init_255 ?_
    refine e_icmp_ge dX12_init_257 (fun h257 => ?_) (fun h257 => ?_)
    · obtain rfl : i = 10 := by omega
      exact e_vret dX12_init_273 rfl (hq ad2 hag) (by decide) (by decide)
    · exact absurd (show (10 : Int32) ≤ nI i by rw [show i = 10 by omega]; decide) h257
  | succ k ih =>
    intro i hi
    refine e_iload dX12_init_254 rfl ?_
    refine e_push dX12_init_255 ?_
    refine e_icmp_ge dX12_init_257 (fun h257 => ?_) (fun h257 => ?_)
    · exact absurd h257 (by show ¬ nI 10 ≤ nI i; exact nI_ge (by omega) (by decide))
    · refine e_aload dX12_init_260 rfl ?_
      refine m_geta dX12_init_261 fg_X12_47 hM (by decide) rfl ?_
      refine e_iload dX12_init_264 rfl ?_
      refine e_push dX12_init_265 ?_
      refine m_astN i dX12_init_266 hM rfl (by decide) rfl (by show i < 10; omega) (by decide) ?_
      rw [show ((SL i).1, u2 (SL i).2.1 15 i (-1), (SL i).2.2) = SL (i + 1) from Prod.ext rfl (Prod.ext r0_up rfl)]
      refine e_iinc dX12_init_267 rfl (inc1 i) ?_
      refine e_goto dX12_init_270 ?_
      exact e_lvA (ih (i + 1) (by omega)) ⟨rfl, rfl, trivial⟩
set_option maxRecDepth 100000 in
set_option maxHeartbeats 4000000 in
theorem c_X12_init {b0 : Nat} {D : va_G} {dA : Nat → ClassId} {dm : Nat → Nat → Prop} {ad : Nat → Nat → Nat} {Q : PQ} {ct : Nat → Nat → va_E} {a0 : Nat} (ha : ad 16 0 = a0) (h : dm 16 0) (h16 : ∀ i, dm 16 i → i = 0) (hdm : ∀ k i, dm k i → k < 17) (e : ct 16 0 = .inr (10, [.int 0, .null, .null, .null, .null, .null, .null, .null, .int 0, .null, .null, .int 0, .null, .null, .null, .null, .null, .null, .null, .null, .null, .null, .null, .null, .null, .int 0, .int 0, .null, .int 0, .int 0, .int 0, .null, .null, .null])) (hq : ∀ ad2 : Nat → Nat → Nat, (∀ k i, k < 17 → ad2 k i = ad k i) → Q none (dm2 dm) ad2 (ctM dA ad2 ct S0)) : Ct b0 D dA yX12_init cX12_init 2 none (RmA 1 26 12064) [.ref a0] dm ad ct Q := by
  have hM : dmM (dm2 dm) := ⟨Or.inl h, fun i hi => hi.elim (h16 i) (fun z => absurd z.1 (by decide)), fun i hi => Or.inr ⟨rfl, hi⟩⟩
  refine ct_of (by decide) (Nat.le_of_ble_eq_true rfl) ?_
  refine e_conv (ct' := ctP dA ad ct 0) (dm' := dmP dm 0) (ad' := ad) (fun k i hd => ?_) ?_
  · rcases hd with hd | ⟨-, -, hd⟩
    · refine ⟨hd, rfl, ?_⟩
      have hk := hdm k i hd
      by_cases ek : k = 16
      · subst ek
        obtain rfl := h16 i hd
        rw [e, ctP_16]; rfl
      · rw [ctP_o (by omega)]
    · exact absurd hd (by omega)
  have g0 : ∀ k i, k < 17 → ad k i = ad k i := fun _ _ _ => rfl
  refine e_aload dX12_init_0 rfl ?_
  refine e_objInit dX12_init_1 oi_X12_1 ow_i ow_c (by decide) (by decide) ?_
  refine e_aload dX12_init_4 rfl ?_
  refine e_push dX12_init_5 ?_
  refine e_newi (17) (1) dX12_init_7 (show (60 : Int32) = nI 60 from rfl) (by decide) (by decide) (by decide) aw_int (fun a1 => ?_)
  refine x_putF dX12_init_9 fp_X12_7 rfl (show u2 ad 17 1 a1 16 0 = a0 from (g0 16 0 (by decide)).trans ha) (show dmU (dmP dm 0) 17 1 16 0 from Or.inl (Or.inl h)) ((u2_x (by decide)).trans (ctP_16 (n := 0))) rfl rfl (Nat.le_of_ble_eq_true rfl) ?_
  refine e_conv (pR_cv (n := 0) (j := 1) hdm h16 (fun i hm hi => by
    by_cases e0 : i = 0
    · subst e0; exact absurd hm (by decide)
    omega) rfl rfl) ?_
  have g1 : ∀ k i, k < 17 → u2 ad 17 1 a1 k i = ad k i := fun k i hk => (u2_n (fun z => by have := z.1; omega)).trans (g0 k i hk)
  generalize u2 ad 17 1 a1 = ad1 at g1 ⊢
  refine e_aload dX12_init_12 rfl ?_
  refine e_push dX12_init_13 ?_
  refine e_newl (17) (2) dX12_init_15 (show (60 : Int32) = nI 60 from rfl) (by decide) (by decide) (by decide) aw_long (fun a2 => ?_)
  refine x_putF dX12_init_17 fp_X12_13 rfl (show u2 ad1 17 2 a2 16 0 = a0 from (g1 16 0 (by decide)).trans ha) (show dmU (dmP dm 2) 17 2 16 0 from Or.inl (Or.inl h)) ((u2_x (by decide)).trans (ctP_16 (n := 2))) rfl rfl (Nat.le_of_ble_eq_true rfl) ?_
  refine e_conv (pR_cv (n := 2) (j := 2) hdm h16 (fun i hm hi => by
    omega) rfl rfl) ?_
  have g2 : ∀ k i, k < 17 → u2 ad1 17 2 a2 k i = ad k i := fun k i hk => (u2_n (fun z => by have := z.1; omega)).trans (g1 k i hk)
  generalize u2 ad1 17 2 a2 = ad2 at g2 ⊢
  refine e_aload dX12_init_20 rfl ?_
  refine e_push dX12_init_21 ?_
  refine e_newi (17) (3) dX12_init_23 (show (60 : Int32) = nI 60 from rfl) (by decide) (by decide) (by decide) aw_int (fun a3 => ?_)
  refine x_putF dX12_init_25 fp_X12_17 rfl (show u2 ad2 17 3 a3 16 0 = a0 from (g2 16 0 (by decide)).trans ha) (show dmU (dmP dm 3) 17 3 16 0 from Or.inl (Or.inl h)) ((u2_x (by decide)).trans (ctP_16 (n := 3))) rfl rfl (Nat.le_of_ble_eq_true rfl) ?_
  refine e_conv (pR_cv (n := 3) (j := 3) hdm h16 (fun i hm hi => by
    omega) rfl rfl) ?_
  have g3 : ∀ k i, k < 17 → u2 ad2 17 3 a3 k i = ad k i := fun k i hk => (u2_n (fun z => by have := z.1; omega)).trans (g2 k i hk)
  generalize u2 ad2 17 3 a3 = ad3 at g3 ⊢
  refine e_aload dX12_init_28 rfl ?_
  refine e_push dX12_init_29 ?_
  refine e_newi (17) (4) dX12_init_31 (show (60 : Int32) = nI 60 from rfl) (by decide) (by decide) (by decide) aw_int (fun a4 => ?_)
  refine x_putF dX12_init_33 fp_X12_20 rfl (show u2 ad3 17 4 a4 16 0 = a0 from (g3 16 0 (by decide)).trans ha) (show dmU (dmP dm 4) 17 4 16 0 from Or.inl (Or.inl h)) ((u2_x (by decide)).trans (ctP_16 (n := 4))) rfl rfl (Nat.le_of_ble_eq_true rfl) ?_
  refine e_conv (pR_cv (n := 4) (j := 4) hdm h16 (fun i hm hi => by
    omega) rfl rfl) ?_
  have g4 : ∀ k i, k < 17 → u2 ad3 17 4 a4 k i = ad k i := fun k i hk => (u2_n (fun z => by have := z.1; omega)).trans (g3 k i hk)
  generalize u2 ad3 17 4 a4 = ad4 at g4 ⊢
  refine e_aload dX12_init_36 rfl ?_
  refine e_push dX12_init_37 ?_
  refine e_newi (17) (5) dX12_init_39 (show (60 : Int32) = nI 60 from rfl) (by decide) (by decide) (by decide) aw_int (fun a5 => ?_)
  refine x_putF dX12_init_41 fp_X12_23 rfl (show u2 ad4 17 5 a5 16 0 = a0 from (g4 16 0 (by decide)).trans ha) (show dmU (dmP dm 5) 17 5 16 0 from Or.inl (Or.inl h)) ((u2_x (by decide)).trans (ctP_16 (n := 5))) rfl rfl (Nat.le_of_ble_eq_true rfl) ?_
  refine e_conv (pR_cv (n := 5) (j := 5) hdm h16 (fun i hm hi => by
    omega) rfl rfl) ?_
  have g5 : ∀ k i, k < 17 → u2 ad4 17 5 a5 k i = ad k i := fun k i hk => (u2_n (fun z => by have := z.1; omega)).trans (g4 k i hk)
  generalize u2 ad4 17 5 a5 = ad5 at g5 ⊢
  refine e_aload dX12_init_44 rfl ?_
  refine e_push dX12_init_45 ?_
  refine e_newi (17) (6) dX12_init_47 (show (18 : Int32) = nI 18 from rfl) (by decide) (by decide) (by decide) aw_int (fun a6 => ?_)
  refine x_putF dX12_init_49 fp_X12_26 rfl (show u2 ad5 17 6 a6 16 0 = a0 from (g5 16 0 (by decide)).trans ha) (show dmU (dmP dm 6) 17 6 16 0 from Or.inl (Or.inl h)) ((u2_x (by decide)).trans (ctP_16 (n := 6))) rfl rfl (Nat.le_of_ble_eq_true rfl) ?_
  refine e_conv (pR_cv (n := 6) (j := 6) hdm h16 (fun i hm hi => by
    omega) rfl rfl) ?_
  have g6 : ∀ k i, k < 17 → u2 ad5 17 6 a6 k i = ad k i := fun k i hk => (u2_n (fun z => by have := z.1; omega)).trans (g5 k i hk)
  generalize u2 ad5 17 6 a6 = ad6 at g6 ⊢
  refine e_aload dX12_init_52 rfl ?_
  refine e_push dX12_init_53 ?_
  refine e_newi (17) (7) dX12_init_56 (show (1080 : Int32) = nI 1080 from rfl) (by decide) (by decide) (by decide) aw_int (fun a7 => ?_)
  refine x_putF dX12_init_58 fp_X12_29 rfl (show u2 ad6 17 7 a7 16 0 = a0 from (g6 16 0 (by decide)).trans ha) (show dmU (dmP dm 7) 17 7 16 0 from Or.inl (Or.inl h)) ((u2_x (by decide)).trans (ctP_16 (n := 7))) rfl rfl (Nat.le_of_ble_eq_true rfl) ?_
  refine e_conv (pR_cv (n := 7) (j := 7) hdm h16 (fun i hm hi => by
    omega) rfl rfl) ?_
  have g7 : ∀ k i, k < 17 → u2 ad6 17 7 a7 k i = ad k i := fun k i hk => (u2_n (fun z => by have := z.1; omega)).trans (g6 k i hk)
  generalize u2 ad6 17 7 a7 = ad7 at g7 ⊢
  refine e_aload dX12_init_61 rfl ?_
  refine e_push dX12_init_62 ?_
  refine e_newi (17) (9) dX12_init_65 (show (520 : Int32) = nI 520 from rfl) (by decide) (by decide) (by decide) aw_int (fun a9 => ?_)
  refine x_putF dX12_init_67 fp_X12_32 rfl (show u2 ad7 17 9 a9 16 0 = a0 from (g7 16 0 (by decide)).trans ha) (show dmU (dmP dm 8) 17 9 16 0 from Or.inl (Or.inl h)) ((u2_x (by decide)).trans (ctP_16 (n := 8))) rfl rfl (Nat.le_of_ble_eq_true rfl) ?_
  refine e_conv (pR_cv (n := 8) (j := 9) hdm h16 (fun i hm hi => by
    by_cases e8 : i = 8
    · subst e8; exact absurd hm (by decide)
    omega) rfl rfl) ?_
  have g9 : ∀ k i, k < 17 → u2 ad7 17 9 a9 k i = ad k i := fun k i hk => (u2_n (fun z => by have := z.1; omega)).trans (g7 k i hk)
  generalize u2 ad7 17 9 a9 = ad9 at g9 ⊢
  refine e_aload dX12_init_70 rfl ?_
  refine e_push dX12_init_71 ?_
  refine e_newi (17) (10) dX12_init_74 (show (6240 : Int32) = nI 6240 from rfl) (by decide) (by decide) (by decide) aw_int (fun a10 => ?_)
  refine x_putF dX12_init_76 fp_X12_35 rfl (show u2 ad9 17 10 a10 16 0 = a0 from (g9 16 0 (by decide)).trans ha) (show dmU (dmP dm 10) 17 10 16 0 from Or.inl (Or.inl h)) ((u2_x (by decide)).trans (ctP_16 (n := 10))) rfl rfl (Nat.le_of_ble_eq_true rfl) ?_
  refine e_conv (pR_cv (n := 10) (j := 10) hdm h16 (fun i hm hi => by
    omega) rfl rfl) ?_
  have g10 : ∀ k i, k < 17 → u2 ad9 17 10 a10 k i = ad k i := fun k i hk => (u2_n (fun z => by have := z.1; omega)).trans (g9 k i hk)
  generalize u2 ad9 17 10 a10 = ad10 at g10 ⊢
  refine e_aload dX12_init_79 rfl ?_
  refine e_push dX12_init_80 ?_
  refine e_newi (17) (12) dX12_init_83 (show (520 : Int32) = nI 520 from rfl) (by decide) (by decide) (by decide) aw_int (fun a12 => ?_)
  refine x_putF dX12_init_85 fp_X12_38 rfl (show u2 ad10 17 12 a12 16 0 = a0 from (g10 16 0 (by decide)).trans ha) (show dmU (dmP dm 11) 17 12 16 0 from Or.inl (Or.inl h)) ((u2_x (by decide)).trans (ctP_16 (n := 11))) rfl rfl (Nat.le_of_ble_eq_true rfl) ?_
  refine e_conv (pR_cv (n := 11) (j := 12) hdm h16 (fun i hm hi => by
    by_cases e11 : i = 11
    · subst e11; exact absurd hm (by decide)
    omega) rfl rfl) ?_
  have g12 : ∀ k i, k < 17 → u2 ad10 17 12 a12 k i = ad k i := fun k i hk => (u2_n (fun z => by have := z.1; omega)).trans (g10 k i hk)
  generalize u2 ad10 17 12 a12 = ad12 at g12 ⊢
  refine e_aload dX12_init_88 rfl ?_
  refine e_push dX12_init_89 ?_
  refine e_newi (17) (13) dX12_init_92 (show (520 : Int32) = nI 520 from rfl) (by decide) (by decide) (by decide) aw_int (fun a13 => ?_)
  refine x_putF dX12_init_94 fp_X12_41 rfl (show u2 ad12 17 13 a13 16 0 = a0 from (g12 16 0 (by decide)).trans ha) (show dmU (dmP dm 13) 17 13 16 0 from Or.inl (Or.inl h)) ((u2_x (by decide)).trans (ctP_16 (n := 13))) rfl rfl (Nat.le_of_ble_eq_true rfl) ?_
  refine e_conv (pR_cv (n := 13) (j := 13) hdm h16 (fun i hm hi => by
    omega) rfl rfl) ?_
  have g13 : ∀ k i, k < 17 → u2 ad12 17 13 a13 k i = ad k i := fun k i hk => (u2_n (fun z => by have := z.1; omega)).trans (g12 k i hk)
  generalize u2 ad12 17 13 a13 = ad13 at g13 ⊢
  refine e_aload dX12_init_97 rfl ?_
  refine e_push dX12_init_98 ?_
  refine e_newi (17) (14) dX12_init_101 (show (2600 : Int32) = nI 2600 from rfl) (by decide) (by decide) (by decide) aw_int (fun a14 => ?_)
  refine x_putF dX12_init_103 fp_X12_44 rfl (show u2 ad13 17 14 a14 16 0 = a0 from (g13 16 0 (by decide)).trans ha) (show dmU (dmP dm 14) 17 14 16 0 from Or.inl (Or.inl h)) ((u2_x (by decide)).trans (ctP_16 (n := 14))) rfl rfl (Nat.le_of_ble_eq_true rfl) ?_
  refine e_conv (pR_cv (n := 14) (j := 14) hdm h16 (fun i hm hi => by
    omega) rfl rfl) ?_
  have g14 : ∀ k i, k < 17 → u2 ad13 17 14 a14 k i = ad k i := fun k i hk => (u2_n (fun z => by have := z.1; omega)).trans (g13 k i hk)
  generalize u2 ad13 17 14 a14 = ad14 at g14 ⊢
  refine e_aload dX12_init_106 rfl ?_
  refine e_push dX12_init_107 ?_
  refine e_newi (17) (15) dX12_init_109 (show (10 : Int32) = nI 10 from rfl) (by decide) (by decide) (by decide) aw_int (fun a15 => ?_)
  refine x_putF dX12_init_111 fp_X12_47 rfl (show u2 ad14 17 15 a15 16 0 = a0 from (g14 16 0 (by decide)).trans ha) (show dmU (dmP dm 15) 17 15 16 0 from Or.inl (Or.inl h)) ((u2_x (by decide)).trans (ctP_16 (n := 15))) rfl rfl (Nat.le_of_ble_eq_true rfl) ?_
  refine e_conv (pR_cv (n := 15) (j := 15) hdm h16 (fun i hm hi => by
    omega) (show ins dA 10 (fun _ => 0) = ins dA 10 (r0 0 15) by rw [← r0_15]) rfl) ?_
  have g15 : ∀ k i, k < 17 → u2 ad14 17 15 a15 k i = ad k i := fun k i hk => (u2_n (fun z => by have := z.1; omega)).trans (g14 k i hk)
  generalize u2 ad14 17 15 a15 = ad15 at g15 ⊢
  refine e_aload dX12_init_114 rfl ?_
  refine e_push dX12_init_115 ?_
  refine e_newi (17) (16) dX12_init_117 (show (6 : Int32) = nI 6 from rfl) (by decide) (by decide) (by decide) aw_int (fun a16 => ?_)
  refine x_putF dX12_init_119 fp_X12_50 rfl (show u2 ad15 17 16 a16 16 0 = a0 from (g15 16 0 (by decide)).trans ha) (show dmU (dmP dm 16) 17 16 16 0 from Or.inl (Or.inl h)) ((u2_x (by decide)).trans (ctP_16 (n := 16))) rfl rfl (Nat.le_of_ble_eq_true rfl) ?_
  refine e_conv (pR_cv (n := 16) (j := 16) hdm h16 (fun i hm hi => by
    omega) rfl rfl) ?_
  have g16 : ∀ k i, k < 17 → u2 ad15 17 16 a16 k i = ad k i := fun k i hk => (u2_n (fun z => by have := z.1; omega)).trans (g15 k i hk)
  generalize u2 ad15 17 16 a16 = ad16 at g16 ⊢
  refine e_aload dX12_init_122 rfl ?_
  refine e_push dX12_init_123 ?_
  refine e_newi (17) (17) dX12_init_125 (show (30 : Int32) = nI 30 from rfl) (by decide) (by decide) (by decide) aw_int (fun a17 => ?_)
  refine x_putF dX12_init_127 fp_X12_53 rfl (show u2 ad16 17 17 a17 16 0 = a0 from (g16 16 0 (by decide)).trans ha) (show dmU (dmP dm 17) 17 17 16 0 from Or.inl (Or.inl h)) ((u2_x (by decide)).trans (ctP_16 (n := 17))) rfl rfl (Nat.le_of_ble_eq_true rfl) ?_
  refine e_conv (pR_cv (n := 17) (j := 17) hdm h16 (fun i hm hi => by
    omega) rfl rfl) ?_
  have g17 : ∀ k i, k < 17 → u2 ad16 17 17 a17 k i = ad k i := fun k i hk => (u2_n (fun z => by have := z.1; omega)).trans (g16 k i hk)
  generalize u2 ad16 17 17 a17 = ad17 at g17 ⊢
  refine e_aload dX12_init_130 rfl ?_
  refine e_push dX12_init_131 ?_
  refine e_newi (17) (18) dX12_init_133 (show (30 : Int32) = nI 30 from rfl) (by decide) (by decide) (by decide) aw_int (fun a18 => ?_)
  refine x_putF dX12_init_135 fp_X12_56 rfl (show u2 ad17 17 18 a18 16 0 = a0 from (g17 16 0 (by decide)).trans ha) (show dmU (dmP dm 18) 17 18 16 0 from Or.inl (Or.inl h)) ((u2_x (by decide)).trans (ctP_16 (n := 18))) rfl rfl (Nat.le_of_ble_eq_true rfl) ?_
  refine e_conv (pR_cv (n := 18) (j := 18) hdm h16 (fun i hm hi => by
    omega) rfl rfl) ?_
  have g18 : ∀ k i, k < 17 → u2 ad17 17 18 a18 k i = ad k i := fun k i hk => (u2_n (fun z => by have := z.1; omega)).trans (g17 k i hk)
  generalize u2 ad17 17 18 a18 = ad18 at g18 ⊢
  refine e_aload dX12_init_138 rfl ?_
  refine e_push dX12_init_139 ?_
  refine e_newi (17) (19) dX12_init_141 (show (6 : Int32) = nI 6 from rfl) (by decide) (by decide) (by decide) aw_int (fun a19 => ?_)
  refine x_putF dX12_init_143 fp_X12_59 rfl (show u2 ad18 17 19 a19 16 0 = a0 from (g18 16 0 (by decide)).trans ha) (show dmU (dmP dm 19) 17 19 16 0 from Or.inl (Or.inl h)) ((u2_x (by decide)).trans (ctP_16 (n := 19))) rfl rfl (Nat.le_of_ble_eq_true rfl) ?_
  refine e_conv (pR_cv (n := 19) (j := 19) hdm h16 (fun i hm hi => by
    omega) rfl rfl) ?_
  have g19 : ∀ k i, k < 17 → u2 ad18 17 19 a19 k i = ad k i := fun k i hk => (u2_n (fun z => by have := z.1; omega)).trans (g18 k i hk)
  generalize u2 ad18 17 19 a19 = ad19 at g19 ⊢
  refine e_aload dX12_init_146 rfl ?_
  refine e_push dX12_init_147 ?_
  refine e_newi (17) (20) dX12_init_149 (show (24 : Int32) = nI 24 from rfl) (by decide) (by decide) (by decide) aw_int (fun a20 => ?_)
  refine x_putF dX12_init_151 fp_X12_62 rfl (show u2 ad19 17 20 a20 16 0 = a0 from (g19 16 0 (by decide)).trans ha) (show dmU (dmP dm 20) 17 20 16 0 from Or.inl (Or.inl h)) ((u2_x (by decide)).trans (ctP_16 (n := 20))) rfl rfl (Nat.le_of_ble_eq_true rfl) ?_
  refine e_conv (pR_cv (n := 20) (j := 20) hdm h16 (fun i hm hi => by
    omega) rfl rfl) ?_
  have g20 : ∀ k i, k < 17 → u2 ad19 17 20 a20 k i = ad k i := fun k i hk => (u2_n (fun z => by have := z.1; omega)).trans (g19 k i hk)
  generalize u2 ad19 17 20 a20 = ad20 at g20 ⊢
  refine e_aload dX12_init_154 rfl ?_
  refine e_push dX12_init_155 ?_
  refine e_newi (17) (21) dX12_init_157 (show (24 : Int32) = nI 24 from rfl) (by decide) (by decide) (by decide) aw_int (fun a21 => ?_)
  refine x_putF dX12_init_159 fp_X12_65 rfl (show u2 ad20 17 21 a21 16 0 = a0 from (g20 16 0 (by decide)).trans ha) (show dmU (dmP dm 21) 17 21 16 0 from Or.inl (Or.inl h)) ((u2_x (by decide)).trans (ctP_16 (n := 21))) rfl rfl (Nat.le_of_ble_eq_true rfl) ?_
  refine e_conv (pR_cv (n := 21) (j := 21) hdm h16 (fun i hm hi => by
    omega) rfl rfl) ?_
  have g21 : ∀ k i, k < 17 → u2 ad20 17 21 a21 k i = ad k i := fun k i hk => (u2_n (fun z => by have := z.1; omega)).trans (g20 k i hk)
  generalize u2 ad20 17 21 a21 = ad21 at g21 ⊢
  refine e_aload dX12_init_162 rfl ?_
  refine e_push dX12_init_163 ?_
  refine e_newi (17) (22) dX12_init_165 (show (24 : Int32) = nI 24 from rfl) (by decide) (by decide) (by decide) aw_int (fun a22 => ?_)
  refine x_putF dX12_init_167 fp_X12_68 rfl (show u2 ad21 17 22 a22 16 0 = a0 from (g21 16 0 (by decide)).trans ha) (show dmU (dmP dm 22) 17 22 16 0 from Or.inl (Or.inl h)) ((u2_x (by decide)).trans (ctP_16 (n := 22))) rfl rfl (Nat.le_of_ble_eq_true rfl) ?_
  refine e_conv (pR_cv (n := 22) (j := 22) hdm h16 (fun i hm hi => by
    omega) rfl rfl) ?_
  have g22 : ∀ k i, k < 17 → u2 ad21 17 22 a22 k i = ad k i := fun k i hk => (u2_n (fun z => by have := z.1; omega)).trans (g21 k i hk)
  generalize u2 ad21 17 22 a22 = ad22 at g22 ⊢
  refine e_aload dX12_init_170 rfl ?_
  refine e_push dX12_init_171 ?_
  refine e_newi (17) (23) dX12_init_172 (show (5 : Int32) = nI 5 from rfl) (by decide) (by decide) (by decide) aw_int (fun a23 => ?_)
  refine x_putF dX12_init_174 fp_X12_71 rfl (show u2 ad22 17 23 a23 16 0 = a0 from (g22 16 0 (by decide)).trans ha) (show dmU (dmP dm 23) 17 23 16 0 from Or.inl (Or.inl h)) ((u2_x (by decide)).trans (ctP_16 (n := 23))) rfl rfl (Nat.le_of_ble_eq_true rfl) ?_
  refine e_conv (pR_cv (n := 23) (j := 23) hdm h16 (fun i hm hi => by
    omega) rfl rfl) ?_
  have g23 : ∀ k i, k < 17 → u2 ad22 17 23 a23 k i = ad k i := fun k i hk => (u2_n (fun z => by have := z.1; omega)).trans (g22 k i hk)
  generalize u2 ad22 17 23 a23 = ad23 at g23 ⊢
  refine e_aload dX12_init_177 rfl ?_
  refine e_push dX12_init_178 ?_
  refine e_newi (17) (24) dX12_init_179 (show (5 : Int32) = nI 5 from rfl) (by decide) (by decide) (by decide) aw_int (fun a24 => ?_)
  refine x_putF dX12_init_181 fp_X12_74 rfl (show u2 ad23 17 24 a24 16 0 = a0 from (g23 16 0 (by decide)).trans ha) (show dmU (dmP dm 24) 17 24 16 0 from Or.inl (Or.inl h)) ((u2_x (by decide)).trans (ctP_16 (n := 24))) rfl rfl (Nat.le_of_ble_eq_true rfl) ?_
  refine e_conv (pR_cv (n := 24) (j := 24) hdm h16 (fun i hm hi => by
    omega) rfl rfl) ?_
  have g24 : ∀ k i, k < 17 → u2 ad23 17 24 a24 k i = ad k i := fun k i hk => (u2_n (fun z => by have := z.1; omega)).trans (g23 k i hk)
  generalize u2 ad23 17 24 a24 = ad24 at g24 ⊢
  refine e_aload dX12_init_184 rfl ?_
  refine e_push dX12_init_185 ?_
  refine x_put dX12_init_187 fp_X12_77 (show ad24 16 0 = a0 from (g24 16 0 (by decide)).trans ha) (show dmP dm 25 16 0 from Or.inl h) (ctP_16 (n := 25)) rfl rfl (Nat.le_of_ble_eq_true rfl) ?_
  refine e_conv (pT_cv (n' := 27) hdm h16 (fun i hm hi => by
    by_cases e1 : i = 25
    · subst e1; exact absurd hm (by decide)
    · by_cases e2 : i = 26
      · subst e2; exact absurd hm (by decide)
      · omega) rfl) ?_
  refine e_aload dX12_init_190 rfl ?_
  refine e_push dX12_init_191 ?_
  refine e_newi (17) (27) dX12_init_193 (show (6 : Int32) = nI 6 from rfl) (by decide) (by decide) (by decide) aw_int (fun a27 => ?_)
  refine e_dup dX12_init_195 ?_
  refine e_push dX12_init_196 ?_
  refine e_push dX12_init_197 ?_
  refine x_ist (0) dX12_init_199 u2_s (Or.inr ⟨rfl, rfl⟩) u2_s rfl (by decide) (by decide) ?_
  refine e_dup dX12_init_200 ?_
  refine e_push dX12_init_201 ?_
  refine e_push dX12_init_202 ?_
  refine x_ist (1) dX12_init_204 u2_s (Or.inr ⟨rfl, rfl⟩) u2_s rfl (by decide) (by decide) ?_
  refine e_dup dX12_init_205 ?_
  refine e_push dX12_init_206 ?_
  refine e_push dX12_init_207 ?_
  refine x_ist (2) dX12_init_209 u2_s (Or.inr ⟨rfl, rfl⟩) u2_s rfl (by decide) (by decide) ?_
  refine e_dup dX12_init_210 ?_
  refine e_push dX12_init_211 ?_
  refine e_push dX12_init_212 ?_
  refine x_ist (3) dX12_init_214 u2_s (Or.inr ⟨rfl, rfl⟩) u2_s rfl (by decide) (by decide) ?_
  refine e_dup dX12_init_215 ?_
  refine e_push dX12_init_216 ?_
  refine e_push dX12_init_217 ?_
  refine x_ist (4) dX12_init_219 u2_s (Or.inr ⟨rfl, rfl⟩) u2_s rfl (by decide) (by decide) ?_
  refine e_dup dX12_init_220 ?_
  refine e_push dX12_init_221 ?_
  refine e_push dX12_init_222 ?_
  refine x_ist (5) dX12_init_224 u2_s (Or.inr ⟨rfl, rfl⟩) u2_s rfl (by decide) (by decide) ?_
  simp only [u2_u2]
  refine x_putF dX12_init_225 fp_X12_81 rfl (show u2 ad24 17 27 a27 16 0 = a0 from (g24 16 0 (by decide)).trans ha) (show dmU (dmP dm 27) 17 27 16 0 from Or.inl (Or.inl h)) ((u2_x (by decide)).trans (ctP_16 (n := 27))) rfl rfl (Nat.le_of_ble_eq_true rfl) ?_
  refine e_conv (pR_cv (n := 27) (j := 27) hdm h16 (fun i hm hi => by
    omega) (show ins dA 6 _ = ins dA 6 (r0 0 27) by rw [← r0_27]) rfl) ?_
  have g27 : ∀ k i, k < 17 → u2 ad24 17 27 a27 k i = ad k i := fun k i hk => (u2_n (fun z => by have := z.1; omega)).trans (g24 k i hk)
  generalize u2 ad24 17 27 a27 = ad27 at g27 ⊢
  refine e_aload dX12_init_228 rfl ?_
  refine e_push dX12_init_229 ?_
  refine e_newi (17) (31) dX12_init_231 (show (32 : Int32) = nI 32 from rfl) (by decide) (by decide) (by decide) aw_int (fun a31 => ?_)
  refine x_putF dX12_init_233 fp_X12_84 rfl (show u2 ad27 17 31 a31 16 0 = a0 from (g27 16 0 (by decide)).trans ha) (show dmU (dmP dm 28) 17 31 16 0 from Or.inl (Or.inl h)) ((u2_x (by decide)).trans (ctP_16 (n := 28))) rfl rfl (Nat.le_of_ble_eq_true rfl) ?_
  refine e_conv (pR_cv (n := 28) (j := 31) hdm h16 (fun i hm hi => by
    by_cases e28 : i = 28
    · subst e28; exact absurd hm (by decide)
    by_cases e29 : i = 29
    · subst e29; exact absurd hm (by decide)
    by_cases e30 : i = 30
    · subst e30; exact absurd hm (by decide)
    omega) rfl rfl) ?_
  have g31 : ∀ k i, k < 17 → u2 ad27 17 31 a31 k i = ad k i := fun k i hk => (u2_n (fun z => by have := z.1; omega)).trans (g27 k i hk)
  generalize u2 ad27 17 31 a31 = ad31 at g31 ⊢
  refine e_aload dX12_init_236 rfl ?_
  refine e_push dX12_init_237 ?_
  refine e_newi (17) (32) dX12_init_239 (show (32 : Int32) = nI 32 from rfl) (by decide) (by decide) (by decide) aw_int (fun a32 => ?_)
  refine x_putF dX12_init_241 fp_X12_87 rfl (show u2 ad31 17 32 a32 16 0 = a0 from (g31 16 0 (by decide)).trans ha) (show dmU (dmP dm 32) 17 32 16 0 from Or.inl (Or.inl h)) ((u2_x (by decide)).trans (ctP_16 (n := 32))) rfl rfl (Nat.le_of_ble_eq_true rfl) ?_
  refine e_conv (pR_cv (n := 32) (j := 32) hdm h16 (fun i hm hi => by
    omega) rfl rfl) ?_
  have g32 : ∀ k i, k < 17 → u2 ad31 17 32 a32 k i = ad k i := fun k i hk => (u2_n (fun z => by have := z.1; omega)).trans (g31 k i hk)
  generalize u2 ad31 17 32 a32 = ad32 at g32 ⊢
  refine e_aload dX12_init_244 rfl ?_
  refine e_push dX12_init_245 ?_
  refine e_newi (17) (33) dX12_init_247 (show (32 : Int32) = nI 32 from rfl) (by decide) (by decide) (by decide) aw_int (fun a33 => ?_)
  refine x_putF dX12_init_249 fp_X12_90 rfl (show u2 ad32 17 33 a33 16 0 = a0 from (g32 16 0 (by decide)).trans ha) (show dmU (dmP dm 33) 17 33 16 0 from Or.inl (Or.inl h)) ((u2_x (by decide)).trans (ctP_16 (n := 33))) rfl rfl (Nat.le_of_ble_eq_true rfl) ?_
  refine e_conv (pR_cv (n := 33) (j := 33) hdm h16 (fun i hm hi => by
    omega) rfl rfl) ?_
  have g33 : ∀ k i, k < 17 → u2 ad32 17 33 a33 k i = ad k i := fun k i hk => (u2_n (fun z => by have := z.1; omega)).trans (g32 k i hk)
  generalize u2 ad32 17 33 a33 = ad33 at g33 ⊢
  refine e_push dX12_init_252 ?_
  refine e_istore dX12_init_253 ?_
  refine e_conv (dm' := dm2 dm) (ad' := ad33) (ct' := ctM dA ad33 ct (SL 0)) (fun k i hd => ?_) ?_
  · rcases hd with hd | ⟨rfl, hd⟩
    · refine ⟨Or.inl hd, rfl, ?_⟩
      have hk := hdm k i hd
      by_cases ek : k = 16
      · subst ek
        rw [ctP_16]; rfl
      · rw [ctP_o (by omega), ctM_n (by omega) ek]
    · refine ⟨Or.inr ⟨rfl, hd, ?_⟩, rfl, rfl⟩
      rcases Nat.lt_or_ge i 34 with z | z
      · exact z
      · obtain ⟨q, rfl⟩ : ∃ q, i = q + 34 := ⟨i - 34, by omega⟩
        first | exact absurd (hd.symm.trans (show mIsA (q + 34) = false from rfl)) (by decide) | (simp [mIsA, mLen] at hd)
  exact e_wide (by decide) (by decide) (e_lvA (l_X12_init hq ad33 g33 hM 10 0 (by omega)) ⟨congrArg (fun z => some (Value.ref z)) (show a0 = ad33 16 0 from ((g33 16 0 (by decide)).trans ha).symm), rfl, trivial⟩)
