set_option maxRecDepth 100000 in
set_option maxHeartbeats 4000000 in
theorem c_X5_init {b0 : Nat} {D : va_G} {dA : Nat → ClassId} {dm : Nat → Nat → Prop} {ad : Nat → Nat → Nat} {Q : PQ} {ct : Nat → Nat → va_E} {d s n a0 sa : Nat} {v0 v1 v2 v4 v5 : Value} (hn : n ≤ 5) (ha : ad 8 d = a0) (h : dm 8 d) (e : ct 8 d = .inr (4, [.null, .int 0, .null, .null])) (h11 : dm 11 s) (ha11 : ad 11 s = sa) (e11 : ct 11 s = .inr (7, [v0, v1, v2, .int (nI n), v4, v5])) (hq : ∀ b c, Q none (dmU (dmU dm 9 d) 10 d) (u2 (u2 ad 9 d b) 10 d c) (u2 (u2 (u2 ct 8 d (.inr (4, [.ref sa, .int (nI n), .ref b, .ref c]))) 9 d (ins dA n (fun _ => 0))) 10 d (rfs dA 4 n (fun _ => none)))) : Ct b0 D dA yX5_init cX5_init 2 none (RmA 2 2 10) [.ref a0, .ref sa] dm ad ct Q := by
  refine ct_of (by decide) (Nat.le_of_ble_eq_true rfl) ?_
  refine e_aload dX5_init_0 rfl ?_
  refine n_callIN0 dX5_init_1 ca_X5_3  (c_X9_init ?_) 
  refine e_aload dX5_init_4 rfl ?_
  refine e_aload dX5_init_5 rfl ?_
  refine x_putF dX5_init_6 fp_X5_9 rfl ha h e rfl rfl (Nat.le_of_ble_eq_true rfl) ?_
  refine e_aload dX5_init_9 rfl ?_
  refine e_aload dX5_init_10 rfl ?_
  refine x_get dX5_init_11 fg_X5_15 ha11 h11 ((u2_x (by decide)).trans e11) rfl ?_
  refine x_putF dX5_init_14 fp_X5_21 rfl ha h u2_s rfl rfl (Nat.le_of_ble_eq_true rfl) ?_
  refine e_aload dX5_init_17 rfl ?_
  refine e_aload dX5_init_18 rfl ?_
  refine x_get dX5_init_19 fg_X5_21 ha h u2_s rfl ?_
  refine e_newi (9) (d) dX5_init_22 rfl (by omega) (by decide) (show 0 + n ≤ 10 by omega) aw_int (fun b => ?_)
  refine x_putF dX5_init_24 fp_X5_24 rfl (show u2 ad 9 d b 8 d = a0 from ha) (show dmU dm 9 d 8 d from Or.inl h) ((u2_x (by decide)).trans u2_s) rfl rfl (Nat.le_of_ble_eq_true rfl) ?_
  refine e_aload dX5_init_27 rfl ?_
  refine e_aload dX5_init_28 rfl ?_
  refine x_get dX5_init_29 fg_X5_21 (show u2 ad 9 d b 8 d = a0 from ha) (show dmU dm 9 d 8 d from Or.inl h) u2_s rfl ?_
  refine e_newq (t0 := 4) (10) (d) dX5_init_32 rfl (by omega) (by decide) (show 0 + n + n ≤ 10 by omega) an_X5_4 rfl (by decide) (fun c => ?_)
  refine x_putF dX5_init_35 fp_X5_28 rfl (show u2 (u2 ad 9 d b) 10 d c 8 d = a0 from ha) (show dmU (dmU dm 9 d) 10 d 8 d from Or.inl (Or.inl h)) ((u2_x (by decide)).trans u2_s) rfl rfl (Nat.le_of_ble_eq_true rfl) ?_
  exact e_vret dX5_init_38 rfl (by rw [u2_u2, u2_comm (k := 9) (k' := 8) (by decide), u2_u2, u2_comm (k := 10) (k' := 8) (by decide), u2_comm (k := 9) (k' := 8) (by decide), u2_u2]; exact hq b c) (by decide) (show 0 + n + n ≤ 10 by omega)
set_option maxRecDepth 100000 in
set_option maxHeartbeats 4000000 in
theorem c_X11_isOfSort {b0 : Nat} {D : va_G} {dA : Nat → ClassId} {ad : Nat → Nat → Nat} {Q : PQ} {Sm S : St} {f τ : Nat} {t : Nat} (I : Inv S t) (v so : Int32) (hok : okT S v) (hf : ¬ famF S v = 0) (hso : so = 1 ∨ so = 2 ∨ so = 3 ∨ so = 4) (hq : Q (some (.int (bI (casB so (famF S v))))) (dmW S τ) ad (cw dA ad Sm S f)) : Ct b0 D dA yX11_isOfSort cX11_isOfSort 2 (some .boolean) (Rm 0) [va_rf (tr ad v), .int so] (dmW S τ) ad (cw dA ad Sm S f) Q := by
  refine ct_of (by decide) (by rcases tr ad v with _ | _ <;> exact Nat.le_of_ble_eq_true rfl) ?_
  refine e_lvA (l := [some (va_rf (tr ad v)), some (.int so)]) ?_ (by rcases tr ad v with _ | _ <;> exact ⟨rfl, rfl, trivial⟩)
  refine e_iload dX11_isOfSort_0 rfl ?_
  rcases so_I I hok hf hso with ⟨rfl, hfo⟩ | ⟨rfl, hfo⟩ | ⟨rfl, hfo⟩ | ⟨rfl, hfo⟩
  · refine e_tab (off := 27) (t := 28) dX11_isOfSort_1 (by decide) (by decide) (by decide) (by decide) ?_
    refine e_aload dX11_isOfSort_28 rfl ?_
    refine x_inst (P := iP_Constant) I hok dX11_isOfSort_29 fi_X11_9_3 fi_X11_9_4 fi_X11_9_5 fi_X11_9_6 fi_X11_9_8 ?_
    exact e_iret dX11_isOfSort_32 rfl (by first | rfl | exact bI_n _) (qi hq (congrArg bI hfo)) (by decide) (by decide)
  · refine e_tab (off := 32) (t := 33) dX11_isOfSort_1 (by decide) (by decide) (by decide) (by decide) ?_
    refine e_aload dX11_isOfSort_33 rfl ?_
    refine x_inst (P := iP_Twice) I hok dX11_isOfSort_34 fi_X11_249_3 fi_X11_249_4 fi_X11_249_5 fi_X11_249_6 fi_X11_249_8 ?_
    exact e_iret dX11_isOfSort_37 rfl (by first | rfl | exact bI_n _) (qi hq (congrArg bI hfo)) (by decide) (by decide)
  · refine e_tab (off := 37) (t := 38) dX11_isOfSort_1 (by decide) (by decide) (by decide) (by decide) ?_
    refine e_aload dX11_isOfSort_38 rfl ?_
    refine x_inst (P := iP_Row) I hok dX11_isOfSort_39 fi_X11_166_3 fi_X11_166_4 fi_X11_166_5 fi_X11_166_6 fi_X11_166_8 ?_
    exact e_iret dX11_isOfSort_42 rfl (by first | rfl | exact bI_n _) (qi hq (congrArg bI hfo)) (by decide) (by decide)
  · refine e_tabD (t := 43) dX11_isOfSort_1 (Or.inr (by decide)) (by decide) ?_
    refine e_aload dX11_isOfSort_43 rfl ?_
    refine x_inst (P := iP_Made) I hok dX11_isOfSort_44 fi_X11_216_3 fi_X11_216_4 fi_X11_216_5 fi_X11_216_6 fi_X11_216_8 ?_
    exact e_iret dX11_isOfSort_47 rfl (by first | rfl | exact bI_n _) (qi hq (congrArg bI hfo)) (by decide) (by decide)
set_option maxRecDepth 100000 in
set_option maxHeartbeats 4000000 in
theorem c_X11_isForeign {b0 : Nat} {D : va_G} {dA : Nat → ClassId} {ad : Nat → Nat → Nat} {Q : PQ} {Sm S : St} {f τ : Nat} {t : Nat} (I : Inv S t) (v so k : Int32) (hok : okT S v) (hso : so = 1 ∨ so = 2 ∨ so = 3 ∨ so = 4) (hc0 : famF S v = 0 ∨ casB so (famF S v) = true) (hq : Q (some (.int (bI (foB S so k v)))) (dmW S τ) ad (cw dA ad Sm S f)) : Ct b0 D dA yX11_isForeign cX11_isForeign 4 (some .boolean) (Rm 0) [va_rf (tr ad v), .int so, .int k] (dmW S τ) ad (cw dA ad Sm S f) Q := by
  refine ct_of (by decide) (by rcases tr ad v with _ | _ <;> exact Nat.le_of_ble_eq_true rfl) ?_
  refine e_lvA (l := [some (va_rf (tr ad v)), some (.int so), some (.int k)]) ?_ (by rcases tr ad v with _ | _ <;> exact ⟨rfl, rfl, rfl, trivial⟩)
  refine e_iload dX11_isForeign_0 rfl ?_
  refine e_push dX11_isForeign_1 ?_
  refine e_icmp_ne dX11_isForeign_2 (fun h2 => ?_) (fun h2 => ?_)
  · have hA : so = 1 → famF S v = 0 := fun z => absurd z h2
    refine e_iload dX11_isForeign_34 rfl ?_
    refine e_push dX11_isForeign_35 ?_
    refine e_icmp_ne dX11_isForeign_36 (fun h36 => ?_) (fun h36 => ?_)
    · have hB : so = 4 → famF S v = 0 := fun z => absurd z h36
      refine e_push dX11_isForeign_68 ?_
      exact e_iret dX11_isForeign_69 rfl (by first | rfl | exact bI_n _) (qi hq (by rw [for_0 hA hB]; rfl)) (by decide) (by decide)
    · refine e_aload dX11_isForeign_39 rfl ?_
      refine x_inst (P := iP_Made) I hok dX11_isForeign_40 fi_X11_216_3 fi_X11_216_4 fi_X11_216_5 fi_X11_216_6 fi_X11_216_8 ?_
      refine e_if_eqB dX11_isForeign_43 (fun h43 => ?_) (fun h43 => ?_)
      · have hB : so = 4 → famF S v = 0 := fun z => made_0 I hok h43 z hc0
        refine e_push dX11_isForeign_68 ?_
        exact e_iret dX11_isForeign_69 rfl (by first | rfl | exact bI_n _) (qi hq (by rw [for_0 hA hB]; rfl)) (by decide) (by decide)
      · obtain ⟨hf, d, hd, rfl⟩ := is_made I hok h43
        obtain ⟨hC, hR, hD⟩ := bd512 I
        obtain ⟨hsh, hsh6, -⟩ := I.2.2.2.2.2.1.2.2 d hd
        have hd1 : d < nD S + τ := Nat.lt_of_lt_of_le hd (Nat.le_add_right _ _)
        have hfz : ¬ famF S (nI (100000 + d)) = 0 := by rw [hf]; decide
        rw [tr_d (by omega)]
        refine e_aload dX11_isForeign_46 rfl ?_
        refine x_cast dX11_isForeign_47 fi_X11_216_4 rfl (show dmW S τ 8 d from hd1) cw_8 ?_
        refine e_astore dX11_isForeign_50 ?_
        refine e_aload dX11_isForeign_51 rfl ?_
        refine x_get dX11_isForeign_52 fg_X11_228 rfl (show dmW S τ 8 d from hd1) cw_8 rfl ?_
        refine x_get dX11_isForeign_55 fg_X11_232 rfl (show dmW S τ 11 (shN S d) from hsh6) cw_11 rfl ?_
        refine e_iload dX11_isForeign_58 rfl ?_
        refine e_icmp_eq dX11_isForeign_59 (fun h59 => ?_) (fun h59 => ?_)
        · refine e_push dX11_isForeign_66 ?_
          exact e_iret dX11_isForeign_67 rfl (by first | rfl | exact bI_n _) (qi hq (by rw [h36, for_d hfz, rc_n (by omega), hsh]; first | (rw [decide_eq_true h59]; rfl) | (rw [decide_eq_false h59]; rfl))) (by decide) (by decide)
        · refine e_push dX11_isForeign_62 ?_
          refine e_goto dX11_isForeign_63 ?_
          exact e_iret dX11_isForeign_67 rfl (by first | rfl | exact bI_n _) (qi hq (by rw [h36, for_d hfz, rc_n (by omega), hsh]; first | (rw [decide_eq_true h59]; rfl) | (rw [decide_eq_false h59]; rfl))) (by decide) (by decide)
  · refine e_aload dX11_isForeign_5 rfl ?_
    refine x_inst (P := iP_Constant) I hok dX11_isForeign_6 fi_X11_9_3 fi_X11_9_4 fi_X11_9_5 fi_X11_9_6 fi_X11_9_8 ?_
    refine e_if_eqB dX11_isForeign_9 (fun h9 => ?_) (fun h9 => ?_)
    · have hA : so = 1 → famF S v = 0 := fun z => con_0 I hok h9 (Or.inl z) hc0
      refine e_iload dX11_isForeign_34 rfl ?_
      refine e_push dX11_isForeign_35 ?_
      refine e_icmp_ne dX11_isForeign_36 (fun h36 => ?_) (fun h36 => ?_)
      · have hB : so = 4 → famF S v = 0 := fun z => absurd z h36
        refine e_push dX11_isForeign_68 ?_
        exact e_iret dX11_isForeign_69 rfl (by first | rfl | exact bI_n _) (qi hq (by rw [for_0 hA hB]; rfl)) (by decide) (by decide)
      · refine e_aload dX11_isForeign_39 rfl ?_
        refine x_inst (P := iP_Made) I hok dX11_isForeign_40 fi_X11_216_3 fi_X11_216_4 fi_X11_216_5 fi_X11_216_6 fi_X11_216_8 ?_
        refine e_if_eqB dX11_isForeign_43 (fun h43 => ?_) (fun h43 => ?_)
        · have hB : so = 4 → famF S v = 0 := fun z => made_0 I hok h43 z hc0
          refine e_push dX11_isForeign_68 ?_
          exact e_iret dX11_isForeign_69 rfl (by first | rfl | exact bI_n _) (qi hq (by rw [for_0 hA hB]; rfl)) (by decide) (by decide)
        · obtain ⟨hf, d, hd, rfl⟩ := is_made I hok h43
          obtain ⟨hC, hR, hD⟩ := bd512 I
          obtain ⟨hsh, hsh6, -⟩ := I.2.2.2.2.2.1.2.2 d hd
          have hd1 : d < nD S + τ := Nat.lt_of_lt_of_le hd (Nat.le_add_right _ _)
          have hfz : ¬ famF S (nI (100000 + d)) = 0 := by rw [hf]; decide
          rw [tr_d (by omega)]
          refine e_aload dX11_isForeign_46 rfl ?_
          refine x_cast dX11_isForeign_47 fi_X11_216_4 rfl (show dmW S τ 8 d from hd1) cw_8 ?_
          refine e_astore dX11_isForeign_50 ?_
          refine e_aload dX11_isForeign_51 rfl ?_
          refine x_get dX11_isForeign_52 fg_X11_228 rfl (show dmW S τ 8 d from hd1) cw_8 rfl ?_
          refine x_get dX11_isForeign_55 fg_X11_232 rfl (show dmW S τ 11 (shN S d) from hsh6) cw_11 rfl ?_
          refine e_iload dX11_isForeign_58 rfl ?_
          refine e_icmp_eq dX11_isForeign_59 (fun h59 => ?_) (fun h59 => ?_)
          · refine e_push dX11_isForeign_66 ?_
            exact e_iret dX11_isForeign_67 rfl (by first | rfl | exact bI_n _) (qi hq (by rw [h36, for_d hfz, rc_n (by omega), hsh]; first | (rw [decide_eq_true h59]; rfl) | (rw [decide_eq_false h59]; rfl))) (by decide) (by decide)
          · refine e_push dX11_isForeign_62 ?_
            refine e_goto dX11_isForeign_63 ?_
            exact e_iret dX11_isForeign_67 rfl (by first | rfl | exact bI_n _) (qi hq (by rw [h36, for_d hfz, rc_n (by omega), hsh]; first | (rw [decide_eq_true h59]; rfl) | (rw [decide_eq_false h59]; rfl))) (by decide) (by decide)
    · obtain ⟨hfm, c, hc, rfl⟩ := is_con I hok h9
      have h60 := I.1.2.1
      have hfz : ¬ famF S (nI c) = 0 := by rcases hfm with z | z | z <;> rw [z] <;> decide
      rw [tr_c (by omega)]
      refine e_aload dX11_isForeign_12 rfl ?_
      refine x_cast dX11_isForeign_13 (fi_cb fi_X11_9_3 fi_X11_9_5 fi_X11_9_8) rfl (show dmW S τ 4 c from hc) cw_4 ?_
      refine e_astore dX11_isForeign_16 ?_
      refine e_aload dX11_isForeign_17 rfl ?_
      refine x_get dX11_isForeign_18 (fg_X11_98 (cb_or _)) rfl (show dmW S τ 4 c from hc) cw_4 rfl ?_
      refine x_get dX11_isForeign_21 fg_X11_109 rfl (show dmW S τ 5 c from hc) cw_5 rfl ?_
      refine e_iload dX11_isForeign_24 rfl ?_
      refine e_icmp_eq dX11_isForeign_25 (fun h25 => ?_) (fun h25 => ?_)
      · refine e_push dX11_isForeign_32 ?_
        exact e_iret dX11_isForeign_33 rfl (by first | rfl | exact bI_n _) (qi hq (by rw [h2, for_c hfz, tN_n (by omega)]; first | (rw [decide_eq_true h25]; rfl) | (rw [decide_eq_false h25]; rfl))) (by decide) (by decide)
      · refine e_push dX11_isForeign_28 ?_
        refine e_goto dX11_isForeign_29 ?_
        exact e_iret dX11_isForeign_33 rfl (by first | rfl | exact bI_n _) (qi hq (by rw [h2, for_c hfz, tN_n (by omega)]; first | (rw [decide_eq_true h25]; rfl) | (rw [decide_eq_false h25]; rfl))) (by decide) (by decide)
set_option maxRecDepth 100000 in
set_option maxHeartbeats 4000000 in
theorem c_X1_ownUnless {b0 : Nat} {D : va_G} {dA : Nat → ClassId} {dm : Nat → Nat → Prop} {ad : Nat → Nat → Nat} {Q : PQ} {ct : Nat → Nat → va_E} (x : Int32) (hq : Q (some (.int (if x = 0 then 2 else 0))) dm ad ct) : Ct b0 D dA yX1_ownUnless cX1_ownUnless 1 (some .int) (Rm 0) [.int x] dm ad ct Q := by
  refine ct_of (by decide) (Nat.le_of_ble_eq_true rfl) ?_
  refine e_iload dX1_ownUnless_0 rfl ?_
  refine e_if_eq dX1_ownUnless_1 (fun h1 => ?_) (fun h1 => ?_)
  · refine e_push dX1_ownUnless_8 ?_
    exact e_iretI dX1_ownUnless_9 rfl (qi hq (by first | (rw [if_pos h1]; done) | (rw [if_neg h1]; done))) (by decide) (by decide)
  · refine e_push dX1_ownUnless_4 ?_
    refine e_goto dX1_ownUnless_5 ?_
    exact e_iretI dX1_ownUnless_9 rfl (qi hq (by first | (rw [if_pos h1]; done) | (rw [if_neg h1]; done))) (by decide) (by decide)
set_option maxRecDepth 100000 in
set_option maxHeartbeats 4000000 in
theorem c_X1_divisionFailure {b0 : Nat} {D : va_G} {dA : Nat → ClassId} {dm : Nat → Nat → Prop} {ad : Nat → Nat → Nat} {Q : PQ} {ct : Nat → Nat → va_E} (a b : Int32) (hq : Q (some (.int (if b = 0 then 5 else if a - a / b * b = 0 then 0 else 2))) dm ad ct) : Ct b0 D dA yX1_divisionFailure cX1_divisionFailure 2 (some .int) (Rm 1) [.int a, .int b] dm ad ct Q := by
  refine ct_of (by decide) (Nat.le_of_ble_eq_true rfl) ?_
  refine e_iload dX1_divisionFailure_0 rfl ?_
  refine e_if_ne dX1_divisionFailure_1 (fun h1 => ?_) (fun h1 => ?_)
  · refine e_iload dX1_divisionFailure_8 rfl ?_
    refine e_iload dX1_divisionFailure_9 rfl ?_
    refine e_irem dX1_divisionFailure_10 h1 ?_
    refine e_if_ne dX1_divisionFailure_11 (fun h11 => ?_) (fun h11 => ?_)
    · refine e_push dX1_divisionFailure_18 ?_
      refine n_callS1 dX1_divisionFailure_19 ca_X1_31  (c_X1_ownUnless _ ?_) 
      exact e_iretI dX1_divisionFailure_22 rfl (qi hq (by first | (rw [if_pos h1]; done) | (rw [if_neg h1, if_pos h11]; rfl) | (rw [if_neg h1, if_neg h11]; rfl))) (by decide) (by decide)
    · refine e_push dX1_divisionFailure_14 ?_
      refine e_goto dX1_divisionFailure_15 ?_
      refine n_callS1 dX1_divisionFailure_19 ca_X1_31  (c_X1_ownUnless _ ?_) 
      exact e_iretI dX1_divisionFailure_22 rfl (qi hq (by first | (rw [if_pos h1]; done) | (rw [if_neg h1, if_pos h11]; rfl) | (rw [if_neg h1, if_neg h11]; rfl))) (by decide) (by decide)
  · refine e_push dX1_divisionFailure_4 ?_
    refine e_goto dX1_divisionFailure_5 ?_
    exact e_iretI dX1_divisionFailure_22 rfl (qi hq (by first | (rw [if_pos h1]; done) | (rw [if_neg h1, if_pos h11]; rfl) | (rw [if_neg h1, if_neg h11]; rfl))) (by decide) (by decide)
set_option maxRecDepth 100000 in
set_option maxHeartbeats 4000000 in
theorem c_X1_itemFailure {b0 : Nat} {D : va_G} {dA : Nat → ClassId} {ad : Nat → Nat → Nat} {Q : PQ} {Sm S : St} {f τ : Nat} {t : Nat} (I : Inv S t) (v : Int32) (hv : v = -1 ∨ ∃ r, r < nR S ∧ v = nI (100 + r)) {q : Nat} (hq31 : q < 2 ^ 31) (hq : Q (some (.int (if v = -1 then 3 else if S.2.1 9 (tN v - 100) ≤ nI q then 4 else if 0 < S.2.1 10 (12 * (tN v - 100) + tN (nI q)) then 0 else 2))) (dmW S τ) ad (cw dA ad Sm S f)) : Ct b0 D dA yX1_itemFailure cX1_itemFailure 3 (some .int) (Rm 2) [va_rf (tr ad v), .int (nI q)] (dmW S τ) ad (cw dA ad Sm S f) Q := by
  have hok : okT S v := by rcases hv with z | z
                           · exact Or.inl z
                           · exact Or.inr (Or.inr (Or.inl z))
  refine ct_of (by decide) (by rcases tr ad v with _ | _ <;> exact Nat.le_of_ble_eq_true rfl) ?_
  refine e_lvA (l := [some (va_rf (tr ad v)), some (.int (nI q))]) ?_ (by rcases tr ad v with _ | _ <;> exact ⟨rfl, rfl, trivial⟩)
  refine e_aload dX1_itemFailure_0 rfl ?_
  refine x_inst (P := iP_Row) I hok dX1_itemFailure_1 fi_X1_56_3 fi_X1_56_4 fi_X1_56_5 fi_X1_56_6 fi_X1_56_8 ?_
  refine e_if_eqB dX1_itemFailure_4 (fun h4 => ?_) (fun h4 => ?_)
  · refine e_push dX1_itemFailure_42 ?_
    exact e_iretI dX1_itemFailure_43 rfl (qi hq (by rw [if_pos (row_0 I hv h4)])) (by decide) (by decide)
  · obtain ⟨hf, r, hr, rfl⟩ := is_row I hok h4
    obtain ⟨hC, hR, hD⟩ := bd512 I
    obtain ⟨hs, hs12⟩ := I.2.2.2.1.2.2 r hr
    have tr9 : tN (nI (100 + r)) - 100 = r := by rw [tN_n (by omega)]; omega
    have hm1 : ¬ nI (100 + r) = -1 := nI_m1 (by omega)
    rw [tr_r (by omega)]
    rw [if_neg hm1, tr9, hs] at hq
    refine e_aload dX1_itemFailure_7 rfl ?_
    refine x_cast dX1_itemFailure_8 fi_X1_56_6 rfl (show dmW S τ 6 r from hr) cw_6 ?_
    refine e_astore dX1_itemFailure_11 ?_
    refine e_aload dX1_itemFailure_12 rfl ?_
    refine e_iload dX1_itemFailure_13 rfl ?_
    refine n_callV1 dX1_itemFailure_14 ca_X1_58 (show dmW S τ 6 r from hr) cw_6 (c_X7_has hr _ ?_) 
    refine e_if_eqB dX1_itemFailure_17 (fun h17 => ?_) (fun h17 => ?_)
    · have hle : nI (sz S r) ≤ nI q := (nI_leI (by omega) hq31).mpr (inB_le hq31 (by omega) h17)
      rw [if_pos hle] at hq
      refine e_push dX1_itemFailure_40 ?_
      exact e_iretI dX1_itemFailure_41 rfl (qi hq (by first | rfl | (rw [if_neg (Int32.not_lt.mpr h26)]; rfl) | (rw [if_pos (Int32.not_le.mp h26)]; rfl))) (by decide) (by decide)
    · obtain ⟨j, hj, ej⟩ := inB_n (by omega) h17
      have ejq : q = j := (nI_eq hq31 (by omega)).mp ej
      subst ejq
      have hnl : ¬ nI (sz S r) ≤ nI q := nI_ge hj (by omega)
      rw [if_neg hnl, tN_n hq31] at hq
      refine e_aload dX1_itemFailure_20 rfl ?_
      refine x_get dX1_itemFailure_21 fg_X1_59 rfl (show dmW S τ 6 r from hr) cw_6 rfl ?_
      refine e_iload dX1_itemFailure_24 rfl ?_
      refine x_ild (q) dX1_itemFailure_25 rfl (show dmW S τ 7 r from hr) cw_7 rfl hj (by omega) ?_
      refine e_topi (show itF S r q = S.2.1 10 (12 * r + q) from if_pos hj) ?_
      refine e_if_le dX1_itemFailure_26 (fun h26 => ?_) (fun h26 => ?_)
      · refine e_push dX1_itemFailure_33 ?_
        refine n_callS1 dX1_itemFailure_34 ca_X1_31  (c_X1_ownUnless _ ?_) 
        refine e_goto dX1_itemFailure_37 ?_
        exact e_iretI dX1_itemFailure_41 rfl (qi hq (by first | rfl | (rw [if_neg (Int32.not_lt.mpr h26)]; rfl) | (rw [if_pos (Int32.not_le.mp h26)]; rfl))) (by decide) (by decide)
      · refine e_push dX1_itemFailure_29 ?_
        refine e_goto dX1_itemFailure_30 ?_
        refine n_callS1 dX1_itemFailure_34 ca_X1_31  (c_X1_ownUnless _ ?_) 
        refine e_goto dX1_itemFailure_37 ?_
        exact e_iretI dX1_itemFailure_41 rfl (qi hq (by first | rfl | (rw [if_neg (Int32.not_lt.mpr h26)]; rfl) | (rw [if_pos (Int32.not_le.mp h26)]; rfl))) (by decide) (by decide)
set_option maxRecDepth 100000 in
set_option maxHeartbeats 4000000 in
theorem c_X1_lengthFailure {b0 : Nat} {D : va_G} {dA : Nat → ClassId} {ad : Nat → Nat → Nat} {Q : PQ} {Sm S : St} {f τ : Nat} {t : Nat} (I : Inv S t) (v : Int32) (hv : v = -1 ∨ ∃ r, r < nR S ∧ v = nI (100 + r)) (b : Int32) (hq : Q (some (.int (if v = -1 then 3 else if b ≤ S.2.1 9 (tN v - 100) then 0 else 2))) (dmW S τ) ad (cw dA ad Sm S f)) : Ct b0 D dA yX1_lengthFailure cX1_lengthFailure 3 (some .int) (Rm 1) [va_rf (tr ad v), .int b] (dmW S τ) ad (cw dA ad Sm S f) Q := by
  have hok : okT S v := by rcases hv with z | z
                           · exact Or.inl z
                           · exact Or.inr (Or.inr (Or.inl z))
  refine ct_of (by decide) (by rcases tr ad v with _ | _ <;> exact Nat.le_of_ble_eq_true rfl) ?_
  refine e_lvA (l := [some (va_rf (tr ad v)), some (.int b)]) ?_ (by rcases tr ad v with _ | _ <;> exact ⟨rfl, rfl, trivial⟩)
  refine e_aload dX1_lengthFailure_0 rfl ?_
  refine x_inst (P := iP_Row) I hok dX1_lengthFailure_1 fi_X1_56_3 fi_X1_56_4 fi_X1_56_5 fi_X1_56_6 fi_X1_56_8 ?_
  refine e_if_eqB dX1_lengthFailure_4 (fun h4 => ?_) (fun h4 => ?_)
  · refine e_push dX1_lengthFailure_32 ?_
    exact e_iretI dX1_lengthFailure_33 rfl (qi hq (by first | (rw [if_pos (row_0 I hv h4)]; done) | (rw [if_neg (Int32.not_le.mpr h18)]; rfl) | (rw [if_pos (Int32.not_lt.mp h18)]; rfl))) (by decide) (by decide)
  · obtain ⟨hf, r, hr, rfl⟩ := is_row I hok h4
    obtain ⟨hC, hR, hD⟩ := bd512 I
    obtain ⟨hs, hs12⟩ := I.2.2.2.1.2.2 r hr
    have tr9 : tN (nI (100 + r)) - 100 = r := by rw [tN_n (by omega)]; omega
    have hm1 : ¬ nI (100 + r) = -1 := nI_m1 (by omega)
    rw [tr_r (by omega)]
    rw [if_neg hm1, tr9, hs] at hq
    refine e_aload dX1_lengthFailure_7 rfl ?_
    refine x_cast dX1_lengthFailure_8 fi_X1_56_6 rfl (show dmW S τ 6 r from hr) cw_6 ?_
    refine e_astore dX1_lengthFailure_11 ?_
    refine e_aload dX1_lengthFailure_12 rfl ?_
    refine x_get dX1_lengthFailure_13 fg_X1_59 rfl (show dmW S τ 6 r from hr) cw_6 rfl ?_
    refine x_len dX1_lengthFailure_16 rfl (show dmW S τ 7 r from hr) cw_7 rfl ?_
    refine e_iload dX1_lengthFailure_17 rfl ?_
    refine e_icmp_lt dX1_lengthFailure_18 (fun h18 => ?_) (fun h18 => ?_)
    · refine e_push dX1_lengthFailure_25 ?_
      refine n_callS1 dX1_lengthFailure_26 ca_X1_31  (c_X1_ownUnless _ ?_) 
      refine e_goto dX1_lengthFailure_29 ?_
      exact e_iretI dX1_lengthFailure_33 rfl (qi hq (by first | (rw [if_pos (row_0 I hv h4)]; done) | (rw [if_neg (Int32.not_le.mpr h18)]; rfl) | (rw [if_pos (Int32.not_lt.mp h18)]; rfl))) (by decide) (by decide)
    · refine e_push dX1_lengthFailure_21 ?_
      refine e_goto dX1_lengthFailure_22 ?_
      refine n_callS1 dX1_lengthFailure_26 ca_X1_31  (c_X1_ownUnless _ ?_) 
      refine e_goto dX1_lengthFailure_29 ?_
      exact e_iretI dX1_lengthFailure_33 rfl (qi hq (by first | (rw [if_pos (row_0 I hv h4)]; done) | (rw [if_neg (Int32.not_le.mpr h18)]; rfl) | (rw [if_pos (Int32.not_lt.mp h18)]; rfl))) (by decide) (by decide)
set_option maxRecDepth 100000 in
set_option maxHeartbeats 4000000 in
theorem c_X1_orderFailure {b0 : Nat} {D : va_G} {dA : Nat → ClassId} {ad : Nat → Nat → Nat} {Q : PQ} {Sm S : St} {f τ : Nat} {t : Nat} (I : Inv S t) (v : Int32) (hv : v = -1 ∨ ∃ c, c < nC S ∧ v = nI c) (b : Int32) (hq : Q (some (.int (if v = -1 then 3 else if oI (fnd (orP S (3 * kN S (tN v)) v) (mb S (3 * kN S (tN v))) 0) < b then 0 else 2))) (dmW S τ) ad (cw dA ad Sm S f)) : Ct b0 D dA yX1_orderFailure cX1_orderFailure 3 (some .int) (Rm 1) [va_rf (tr ad v), .int b] (dmW S τ) ad (cw dA ad Sm S f) Q := by
  have hok : okT S v := by rcases hv with z | z
                           · exact Or.inl z
                           · exact Or.inr (Or.inl z)
  refine ct_of (by decide) (by rcases tr ad v with _ | _ <;> exact Nat.le_of_ble_eq_true rfl) ?_
  refine e_lvA (l := [some (va_rf (tr ad v)), some (.int b)]) ?_ (by rcases tr ad v with _ | _ <;> exact ⟨rfl, rfl, trivial⟩)
  refine e_aload dX1_orderFailure_0 rfl ?_
  refine x_inst (P := iP_Constant) I hok dX1_orderFailure_1 fi_X1_62_3 fi_X1_62_4 fi_X1_62_5 fi_X1_62_6 fi_X1_62_8 ?_
  refine e_if_eqB dX1_orderFailure_4 (fun h4 => ?_) (fun h4 => ?_)
  · refine e_push dX1_orderFailure_34 ?_
    exact e_iretI dX1_orderFailure_35 rfl (qi hq (by first | (rw [if_pos (con_n I hv h4)]; done) | (rw [if_neg (Int32.not_lt.mpr h20)]; rfl) | (rw [if_pos (Int32.not_le.mp h20)]; rfl))) (by decide) (by decide)
  · obtain ⟨hfm, c, hc, rfl⟩ := is_con I hok h4
    have h60 := I.1.2.1
    have hm1 : ¬ nI c = -1 := nI_m1 (by omega)
    rw [tr_c (by omega)]
    rw [if_neg hm1, tN_n (by omega)] at hq
    change Q (some (.int (if fo S c < b then 0 else 2))) _ _ _ at hq
    refine e_aload dX1_orderFailure_7 rfl ?_
    refine x_cast dX1_orderFailure_8 (fi_cb fi_X1_62_3 fi_X1_62_5 fi_X1_62_8) rfl (show dmW S τ 4 c from hc) cw_4 ?_
    refine e_astore dX1_orderFailure_11 ?_
    refine e_aload dX1_orderFailure_12 rfl ?_
    refine x_get dX1_orderFailure_13 (fg_X1_64 (cb_or _)) rfl (show dmW S τ 4 c from hc) cw_4 rfl ?_
    refine x_get dX1_orderFailure_16 fg_X1_68 rfl (show dmW S τ 5 c from hc) cw_5 rfl ?_
    refine e_iload dX1_orderFailure_19 rfl ?_
    refine e_icmp_ge dX1_orderFailure_20 (fun h20 => ?_) (fun h20 => ?_)
    · refine e_push dX1_orderFailure_27 ?_
      refine n_callS1 dX1_orderFailure_28 ca_X1_31  (c_X1_ownUnless _ ?_) 
      refine e_goto dX1_orderFailure_31 ?_
      exact e_iretI dX1_orderFailure_35 rfl (qi hq (by first | (rw [if_pos (con_n I hv h4)]; done) | (rw [if_neg (Int32.not_lt.mpr h20)]; rfl) | (rw [if_pos (Int32.not_le.mp h20)]; rfl))) (by decide) (by decide)
    · refine e_push dX1_orderFailure_23 ?_
      refine e_goto dX1_orderFailure_24 ?_
      refine n_callS1 dX1_orderFailure_28 ca_X1_31  (c_X1_ownUnless _ ?_) 
      refine e_goto dX1_orderFailure_31 ?_
      exact e_iretI dX1_orderFailure_35 rfl (qi hq (by first | (rw [if_pos (con_n I hv h4)]; done) | (rw [if_neg (Int32.not_lt.mpr h20)]; rfl) | (rw [if_pos (Int32.not_le.mp h20)]; rfl))) (by decide) (by decide)
set_option maxRecDepth 100000 in
set_option maxHeartbeats 4000000 in
theorem c_X1_firstFailure {b0 : Nat} {D : va_G} {dA : Nat → ClassId} {ad : Nat → Nat → Nat} {Q : PQ} {Sm S : St} {f τ : Nat} {t : Nat} (I : Inv S t) (v : Int32) (hv : v = -1 ∨ ∃ d, d < nD S ∧ v = nI (100000 + d)) (b : Int32) (hq : Q (some (.int (if v = -1 then 3 else if S.2.1 13 (rcN v) = 0 then 4 else if S.2.1 17 (5 * shN S (rcN v)) = 0 then (if S.2.1 14 (5 * rcN v) = b then 0 else 2) else 1))) (dmW S τ) ad (cw dA ad Sm S f)) : Ct b0 D dA yX1_firstFailure cX1_firstFailure 3 (some .int) (Rm 3) [va_rf (tr ad v), .int b] (dmW S τ) ad (cw dA ad Sm S f) Q := by
  have hok : okT S v := by rcases hv with z | z
                           · exact Or.inl z
                           · exact Or.inr (Or.inr (Or.inr z))
  refine ct_of (by decide) (by rcases tr ad v with _ | _ <;> exact Nat.le_of_ble_eq_true rfl) ?_
  refine e_lvA (l := [some (va_rf (tr ad v)), some (.int b)]) ?_ (by rcases tr ad v with _ | _ <;> exact ⟨rfl, rfl, trivial⟩)
  refine e_aload dX1_firstFailure_0 rfl ?_
  refine x_inst (P := iP_Made) I hok dX1_firstFailure_1 fi_X1_22_3 fi_X1_22_4 fi_X1_22_5 fi_X1_22_6 fi_X1_22_8 ?_
  refine e_if_eqB dX1_firstFailure_4 (fun h4 => ?_) (fun h4 => ?_)
  · refine e_push dX1_firstFailure_53 ?_
    exact e_iretI dX1_firstFailure_54 rfl (qi hq (by rw [if_pos (mad_n I hv h4)])) (by decide) (by decide)
  · obtain ⟨hf, d, hd, rfl⟩ := is_made I hok h4
    obtain ⟨hC, hR, hD⟩ := bd512 I
    obtain ⟨hsh, hsh6, hpn, hpm, hpv⟩ := I.2.2.2.2.2.1.2.2 d hd
    have hpm5 := (I.2.2.2.2.1 _ hsh6).2.1
    have hd1 : d < nD S + τ := Nat.lt_of_lt_of_le hd (Nat.le_add_right _ _)
    have hm1 : ¬ nI (100000 + d) = -1 := nI_m1 (by omega)
    rw [tr_d (by omega)]
    rw [if_neg hm1, rc_n (by omega)] at hq
    refine e_aload dX1_firstFailure_7 rfl ?_
    refine x_cast dX1_firstFailure_8 fi_X1_22_4 rfl (show dmW S τ 8 d from hd1) cw_8 ?_
    refine e_astore dX1_firstFailure_11 ?_
    refine e_aload dX1_firstFailure_12 rfl ?_
    refine e_push dX1_firstFailure_13 ?_
    refine n_callV1 dX1_firstFailure_14 ca_X1_21 (show dmW S τ 8 d from hd1) cw_8 (c_X5_has hd1 hpn _ ?_) 
    refine e_if_neB dX1_firstFailure_17 (fun h17 => ?_) (fun h17 => ?_)
    · have hp0 : 0 < pN S d := by
        obtain ⟨j, hj, ej⟩ := inB_n (v := 0) (by omega) h17
        omega
      have hn0 : ¬ S.2.1 13 d = 0 := by rw [hpn]; exact fun z => absurd ((nI_eq (b := 0) (by omega) (by decide)).mp z) (by omega)
      rw [if_neg hn0] at hq
      refine e_aload dX1_firstFailure_22 rfl ?_
      refine e_push dX1_firstFailure_23 ?_
      refine n_callV1 dX1_firstFailure_24 ca_X1_73 (show dmW S τ 8 d from hd1) cw_8 (c_X5_isNumber hd1 hsh6 hpn (by omega) _ ?_) 
      refine e_if_eqB dX1_firstFailure_27 (fun h27 => ?_) (fun h27 => ?_)
      · rw [h17, Bool.true_and] at h27
        have hz : ¬ S.2.1 17 (5 * shN S d) = 0 := of_decide_eq_false h27
        rw [if_neg hz] at hq
        refine e_push dX1_firstFailure_51 ?_
        exact e_iretI dX1_firstFailure_52 rfl (qi hq (by first | rfl | (rw [if_neg h37]; rfl) | (rw [if_pos h37]; rfl))) (by decide) (by decide)
      · rw [h17, Bool.true_and] at h27
        have hz : S.2.1 17 (5 * shN S d) = 0 := of_decide_eq_true h27
        rw [if_pos hz] at hq
        refine e_aload dX1_firstFailure_30 rfl ?_
        refine x_get dX1_firstFailure_31 fg_X1_27 rfl (show dmW S τ 8 d from hd1) cw_8 rfl ?_
        refine e_push dX1_firstFailure_34 ?_
        refine x_ild (0) dX1_firstFailure_35 rfl (show dmW S τ 9 d from hd1) cw_9 rfl hp0 (by omega) ?_
        skip
        refine e_topi (show nuF S f d 0 = S.2.1 14 (5 * d) from nu_t hd hp0 hz) ?_
        refine e_iload dX1_firstFailure_36 rfl ?_
        refine e_icmp_ne dX1_firstFailure_37 (fun h37 => ?_) (fun h37 => ?_)
        · refine e_push dX1_firstFailure_44 ?_
          refine n_callS1 dX1_firstFailure_45 ca_X1_31  (c_X1_ownUnless _ ?_) 
          refine e_goto dX1_firstFailure_48 ?_
          exact e_iretI dX1_firstFailure_52 rfl (qi hq (by first | rfl | (rw [if_neg h37]; rfl) | (rw [if_pos h37]; rfl))) (by decide) (by decide)
        · refine e_push dX1_firstFailure_40 ?_
          refine e_goto dX1_firstFailure_41 ?_
          refine n_callS1 dX1_firstFailure_45 ca_X1_31  (c_X1_ownUnless _ ?_) 
          refine e_goto dX1_firstFailure_48 ?_
          exact e_iretI dX1_firstFailure_52 rfl (qi hq (by first | rfl | (rw [if_neg h37]; rfl) | (rw [if_pos h37]; rfl))) (by decide) (by decide)
    · have hp0 : pN S d ≤ 0 := inB_le (q := 0) (by decide) (by omega) h17
      have hn0 : S.2.1 13 d = 0 := by rw [hpn, show pN S d = 0 by omega]; rfl
      rw [if_pos hn0] at hq
      refine e_push dX1_firstFailure_20 ?_
      exact e_iretI dX1_firstFailure_21 rfl hq (by decide) (by decide)
