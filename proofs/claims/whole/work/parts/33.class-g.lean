set_option maxRecDepth 100000 in
set_option maxHeartbeats 4000000 in
theorem c_X11_arrange {b0 : Nat} {D : va_G} {dA : Nat → ClassId} {ad : Nat → Nat → Nat} {Q : PQ} {Sm S : St} {f τ : Nat} {t : Nat} (I : Inv S t) (c bd : Int32) (hq : Q (some (.int (F_arrange S c bd).1)) (dmW (F_arrange S c bd).2 τ) ad (cw dA ad Sm (F_arrange S c bd).2 f)) : Ct b0 D dA yX11_arrange cX11_arrange 5 (some .int) (Rm 2) [.ref (ad 0 0), .int c, .int bd] (dmW S τ) ad (cw dA ad Sm S f) Q := by
  refine ct_of (by decide) (Nat.le_of_ble_eq_true rfl) ?_
  refine e_aload dX11_arrange_0 rfl ?_
  refine e_iload dX11_arrange_1 rfl ?_
  refine n_callV1 dX11_arrange_2 ca_X11_105 (show dmW S τ 0 0 from rfl) cw_0 (c2_X11_constantAt _ I.1.1 I.1.2.1 (fun hc0 => ?_) (fun c hc ec hc1 => ?_))
  · skip
    refine e_astore dX11_arrange_5 ?_
    refine e_aload dX11_arrange_6 rfl ?_
    refine e_ifnull_0 dX11_arrange_7 ?_
    refine e_push dX11_arrange_14 ?_
    exact e_iretI dX11_arrange_15 rfl (qx hq (by first | (simp [F_arrange, hc0]; done) | (subst h11; simp [F_arrange, show inB (0 : Int32) 1 2 = false from by decide]; done))) (by decide) (by decide)
  · subst ec
    have h60 := I.1.2.1
    have tc : tN (nI c) = c := tN_n (by omega)
    obtain ⟨hk, hk6, hbo, hw, hw1⟩ := I.1.2.2.1 c hc
    refine e_astore dX11_arrange_5 ?_
    refine e_aload dX11_arrange_6 rfl ?_
    refine e_ifnull_r dX11_arrange_7 ?_
    refine e_iload dX11_arrange_10 rfl ?_
    refine e_if_ne dX11_arrange_11 (fun h11 => ?_) (fun h11 => ?_)
    · refine e_aload dX11_arrange_16 rfl ?_
      refine e_aload dX11_arrange_17 rfl ?_
      refine x_get dX11_arrange_18 (fg_X11_98 (cb_or _)) rfl (show dmW S τ 4 c from hc) cw_4 rfl ?_
      refine x_get dX11_arrange_21 fg_X11_109 rfl (show dmW S τ 5 c from hc) cw_5 rfl ?_
      refine e_iload dX11_arrange_24 rfl ?_
      refine e_st (show _ = [.int bd, .int (nI (kN S c)), .ref (ad 0 0)] by rw [hk]) ?_
      refine n_callV2 dX11_arrange_25 ca_X11_66 (show dmW S τ 0 0 from rfl) cw_0 (c2_X11_buildAt _ _ (fun hb0 => ?_) (fun kd b hkd hbd ek eb hk5 hb2 => ?_))
      · have hk5 : inB (nI (kN S c)) 0 5 = true := inB_ln (a := 0) (b := 5) (by omega) (by omega) (by decide)
        rw [hk5, Bool.true_and] at hb0
        have hb1 : inB bd 1 2 = false := inB12 hb0
        refine e_astore dX11_arrange_28 ?_
        refine e_aload dX11_arrange_30 rfl ?_
        refine e_ifnull_0 dX11_arrange_32 ?_
        refine e_push dX11_arrange_46 ?_
        exact e_iretI dX11_arrange_47 rfl (qx hq (by rw [F_arrange, hb1, Bool.and_false]; rfl)) (by decide) (by decide)
      · subst eb
        have ekk : kN S c = kd := (nI_eq (by omega) (by omega)).mp ek
        have tb : tN (nI b) = b := tN_n (by omega)
        have hb1 : 1 ≤ b := by
          rcases Nat.eq_zero_or_pos b with z | z
          · subst z; exact absurd rfl h11
          · exact z
        have hb12 : inB (nI b) 1 2 = true := inB_ln (a := 1) (b := 2) hb1 (by omega) (by decide)
        have hb : 3 * kd + b < 18 := by omega
        obtain ⟨hm, hmC, hbi, hbj⟩ := I.2.1 (3 * kd + b) hb
        rw [F_arrange, if_pos (by rw [hc1, hb12]; rfl), tc, tb, ekk] at hq
        refine e_astore dX11_arrange_28 ?_
        refine e_aload dX11_arrange_30 rfl ?_
        refine e_ifnull_r dX11_arrange_32 ?_
        refine e_aload dX11_arrange_35 rfl ?_
        refine e_aload dX11_arrange_37 rfl ?_
        refine e_inj (fun hinj => ?_)
        refine n_callV1 dX11_arrange_38 ca_X11_112 (show dmW S τ 2 (3 * kd + b) from hb) cw_2 (c_X0_orderOf (ad 4 c) (show dmW S τ 2 (3 * kd + b) from hb) (cw_2.trans (by rw [hm])) (show dmW S τ 3 (3 * kd + b) from hb) cw_3 (by omega) ?_) 
        rw [or_eq I hb hc hinj]
        cases hfn : fnd (orP S (3 * kd + b) (nI c)) (mb S (3 * kd + b)) 0 with
        | some j =>
          have hj := fnd_lt hfn
          rw [hfn] at hq
          refine e_push dX11_arrange_41 ?_
          refine e_icmp_eq dX11_arrange_43 (fun h => absurd h (fun z => absurd (congrArg (fun x => decide (x < 0)) z) (by show ¬ decide (nI j < 0) = decide ((-3 : Int32) < 0); rw [decide_eq_false (nI_pos (by omega))]; decide))) (fun _ => ?_)
          refine e_push dX11_arrange_46 ?_
          exact e_iretI dX11_arrange_47 rfl hq (by decide) (by decide)
        | none =>
          rw [hfn] at hq
          have hlt : mb S (3 * kd + b) < nC S := ap_lt I hc hb (fun i hi e => by
            have := fnd_none hfn i (Nat.zero_le _) (by omega)
            unfold orP at this
            rw [(hbi i hi).1, e] at this
            simp at this)
          refine e_push dX11_arrange_41 ?_
          refine e_icmp_eq dX11_arrange_43 (fun _ => ?_) (fun h => absurd rfl h)
          refine e_aload dX11_arrange_48 rfl ?_
          refine e_aload dX11_arrange_50 rfl ?_
          refine n_callV1 dX11_arrange_51 ca_X11_94 (show dmW S τ 2 (3 * kd + b) from hb) cw_2 (c_X0_append (k2 := 4) (i2 := c) (show dmW S τ 2 (3 * kd + b) from hb) (cw_2.trans (by rw [hm])) (show dmW S τ 3 (3 * kd + b) from hb) cw_3 (by omega) (show dmW S τ 4 c from hc) cw_4 (cb_or _) (by decide) ?_)
          refine e_conv (ap_cv I hb (by omega) (by omega)) ?_
          exact e_iretI dX11_arrange_54 rfl hq (by decide) (by decide)
        
    · refine e_push dX11_arrange_14 ?_
      exact e_iretI dX11_arrange_15 rfl (qx hq (by first | (simp [F_arrange, hc0]; done) | (subst h11; simp [F_arrange, show inB (0 : Int32) 1 2 = false from by decide]; done))) (by decide) (by decide)
set_option maxRecDepth 100000 in
set_option maxHeartbeats 4000000 in
theorem l_X11_shuffle {b0 : Nat} {D : va_G} {dA : Nat → ClassId} {ad : Nat → Nat → Nat} {Q : PQ} {Sm S : St} {f τ : Nat} {kd bd : Int32} {seed : Int64} {b t : Nat} (hb : b < 18) (h3 : ¬ b % 3 = 0) : ∀ i S, Inv S t → (i = 0 ∨ i < mb S b) → Q (some (.int (S.2.1 6 b))) (dmW (S.1, shufA seed b i S.2.1, S.2.2) τ) ad (cw dA ad Sm (S.1, shufA seed b i S.2.1, S.2.2) f) → E b0 D dA yX11_shuffle cX11_shuffle 7 (some .int) (Rm 2) E0 (QFm b0 D dA (Rm 2) Q) 28 (lfA [some (.ref (ad 0 0)), some (.int kd), some (.int bd), some (.long seed), none, some (.ref (ad 2 b)), some (.int (nI i))]) [] (dmW S τ) ad (cw dA ad Sm S f) 0 0 := by
  intro i
  induction i with
  | zero =>
    intro S I hi hq
    refine e_iload dX11_shuffle_28 rfl ?_
    refine e_push dX11_shuffle_30 ?_
    refine e_icmp_lt dX11_shuffle_31 (fun h31 => ?_) (fun h31 => ?_)
    · refine e_aload dX11_shuffle_60 rfl ?_
      refine x_get dX11_shuffle_62 fg_X11_84 rfl (show dmW S τ 2 b from hb) cw_2 rfl ?_
      exact e_iretI dX11_shuffle_65 rfl hq (by decide) (by decide)
    · exact absurd (show nI 0 < nI 1 by decide) h31
  | succ i ih =>
    intro S I hi hq
    have hm60 : mb S b ≤ 60 := Nat.le_trans (I.2.1 b hb).2.1 I.1.2.1
    refine e_iload dX11_shuffle_28 rfl ?_
    refine e_push dX11_shuffle_30 ?_
    refine e_icmp_lt dX11_shuffle_31 (fun h31 => ?_) (fun h31 => ?_)
    · exact absurd h31 (by show ¬ nI (i + 1) < nI 1; exact nI_nlt (by omega) (by omega))
    · obtain ⟨hm, hmC, hbi, hbj⟩ := I.2.1 b hb
      have h60 := I.1.2.1
      obtain ⟨j, hj, ej⟩ := mdl_lt (drw seed (nI (i + 1))) (n := i + 2) (by omega) (by omega)
      have hi1 : i + 1 < mb S b := by omega
      refine e_aload dX11_shuffle_34 rfl ?_
      refine e_iload dX11_shuffle_36 rfl ?_
      refine e_lload dX11_shuffle_38 rfl ?_
      refine e_iload dX11_shuffle_39 rfl ?_
      refine n_callS2 dX11_shuffle_41 ca_X11_115  (c_X11_scramble _ _ ?_) 
      refine e_iload dX11_shuffle_44 rfl ?_
      refine e_push dX11_shuffle_46 ?_
      refine e_iadd dX11_shuffle_47 ?_
      refine e_topi (inc1 (i + 1)) ?_
      refine n_callS2 dX11_shuffle_48 ca_X11_119  (c_X11_unsignedRemainder _ (n := i + 2) (by omega) (by omega) ?_) 
      refine e_topi ej ?_
      refine n_callV2 dX11_shuffle_51 ca_X11_123 (show dmW S τ 2 b from hb) cw_2 (c_X0_swap (g := fun i => bc S b i) (ci := fun c => cb (S.2.1 3 c)) (vs := fun c => [.ref (ad 5 c), .int (S.2.1 4 c), .int (S.2.1 5 c)]) (show dmW S τ 2 b from hb) (cw_2.trans (by rw [hm])) (show dmW S τ 3 b from hb) cw_3 (by omega) (fun i hi => ⟨ln_t hi, (hbi i hi).2.1, cw_4, cb_or _⟩) hi1 (by omega) ?_) 
      refine e_conv (sw_cv I hb h3 hi1 (by omega)) ?_
      refine e_iinc dX11_shuffle_54 rfl (dec1 i) ?_
      refine e_goto dX11_shuffle_57 ?_
      refine e_lvA (ih (swS S b (i + 1) j) (I.sw hb h3 hi1 (by omega)) (Or.inr (by rw [show mb (swS S b (i + 1) j) b = mb S b by unfold mb; rw [show (swS S b (i + 1) j).2.1 6 = S.2.1 6 from sw_s 6 (by decide)]]; omega)) ?_) ⟨rfl, rfl, rfl, rfl, rfl, rfl, trivial⟩
      rw [show (swS S b (i + 1) j).2.1 6 = S.2.1 6 from sw_s 6 (by decide)]
      rw [shufA, ej, tN_n (by omega)] at hq
      exact hq
set_option maxRecDepth 100000 in
set_option maxHeartbeats 4000000 in
theorem c_X11_shuffle {b0 : Nat} {D : va_G} {dA : Nat → ClassId} {ad : Nat → Nat → Nat} {Q : PQ} {Sm S : St} {f τ : Nat} {t : Nat} (I : Inv S t) (kind bd : Int32) (seed : Int64) (hq : Q (some (.int (F_shuffle S kind bd seed).1)) (dmW (F_shuffle S kind bd seed).2 τ) ad (cw dA ad Sm (F_shuffle S kind bd seed).2 f)) : Ct b0 D dA yX11_shuffle cX11_shuffle 7 (some .int) (Rm 2) [.ref (ad 0 0), .int kind, .int bd, .long seed] (dmW S τ) ad (cw dA ad Sm S f) Q := by
  refine ct_of (by decide) (Nat.le_of_ble_eq_true rfl) ?_
  refine e_aload dX11_shuffle_0 rfl ?_
  refine e_iload dX11_shuffle_1 rfl ?_
  refine e_iload dX11_shuffle_2 rfl ?_
  refine n_callV2 dX11_shuffle_3 ca_X11_66 (show dmW S τ 0 0 from rfl) cw_0 (c2_X11_buildAt _ _ (fun hb0 => ?_) (fun kd bd hkd hbd ek eb hk5 hb2 => ?_))
  · skip
    refine e_astore dX11_shuffle_6 ?_
    refine e_aload dX11_shuffle_8 rfl ?_
    refine e_ifnull_0 dX11_shuffle_10 ?_
    refine e_push dX11_shuffle_17 ?_
    exact e_iretI dX11_shuffle_18 rfl (qx hq (by rw [F_shuffle, if_neg (inB012 hb0)])) (by decide) (by decide)
  · subst ek
    subst eb
    have h60 := I.1.2.1
    have tk : tN (nI kd) = kd := tN_n (by omega)
    have tb : tN (nI bd) = bd := tN_n (by omega)
    have hb : 3 * kd + bd < 18 := by omega
    obtain ⟨hm, hmC, hbi, hbj⟩ := I.2.1 (3 * kd + bd) hb
    refine e_astore dX11_shuffle_6 ?_
    refine e_aload dX11_shuffle_8 rfl ?_
    refine e_ifnull_r dX11_shuffle_10 ?_
    refine e_iload dX11_shuffle_13 rfl ?_
    refine e_if_ne dX11_shuffle_14 (fun h14 => ?_) (fun h14 => ?_)
    · refine e_aload dX11_shuffle_19 rfl ?_
      refine x_get dX11_shuffle_21 fg_X11_84 rfl (show dmW S τ 2 (3 * kd + bd) from hb) cw_2 rfl ?_
      have hb1 : 1 ≤ bd := by
        rcases Nat.eq_zero_or_pos bd with z | z
        · subst z; exact absurd rfl h14
        · exact z
      have hb12 : inB (nI bd) 1 2 = true := inB_ln (a := 1) (b := 2) hb1 hbd (by decide)
      rw [F_shuffle, if_pos (by rw [hk5, hb12]; rfl), tk, tb] at hq
      refine e_push dX11_shuffle_24 ?_
      refine e_isub dX11_shuffle_25 ?_
      refine e_istore dX11_shuffle_26 ?_
      rcases Nat.eq_zero_or_pos (mb S (3 * kd + bd)) with z | z
      · rw [z, show 0 - 1 = 0 from rfl] at hq
        rw [z] at hm
        refine e_iload dX11_shuffle_28 rfl ?_
        refine e_push dX11_shuffle_30 ?_
        refine e_topi rfl ?_
        refine e_icmp_lt dX11_shuffle_31 (fun _ => ?_) (fun h => absurd (show S.2.1 6 (3 * kd + bd) - 1 < 1 by rw [hm]; decide) h)
        refine e_aload dX11_shuffle_60 rfl ?_
        refine x_get dX11_shuffle_62 fg_X11_84 rfl (show dmW S τ 2 (3 * kd + bd) from hb) cw_2 rfl ?_
        exact e_iretI dX11_shuffle_65 rfl hq (by decide) (by decide)
      · exact e_lvA (l_X11_shuffle (S := S) hb (by omega) (mb S (3 * kd + bd) - 1) S I (Or.inr (by omega)) hq) ⟨rfl, rfl, rfl, rfl, rfl, congrArg (fun x => some (Value.int x)) (show S.2.1 6 (3 * kd + bd) - 1 = nI (mb S (3 * kd + bd) - 1) by rw [hm]; exact m1_n _ z), trivial⟩
    · refine e_push dX11_shuffle_17 ?_
      exact e_iretI dX11_shuffle_18 rfl (qx hq (by rw [F_shuffle, if_neg (by rw [h14, show inB (0 : Int32) 1 2 = false from by decide, Bool.and_false]; decide)])) (by decide) (by decide)
