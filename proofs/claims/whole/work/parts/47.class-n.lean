theorem k_agr {S : St} {s : Nat} : Agr S (mkK S s) := by
  refine ⟨rfl, rfl, rfl, rfl, fun j _ h12 h13 _ _ _ _ _ _ => ?_, fun d hd => ⟨?_, ?_, fun q hq => rfl⟩⟩
  · funext x
    show u2 (u2 _ _ _ _) _ _ _ _ _ = _
    rw [u2_n (fun z => h13 z.1), u2_n (fun z => h12 z.1)]
  · rw [k_12, if_neg (by omega)]
  · rw [k_13, if_neg (by omega)]
theorem MK.mk {S : St} {t s : Nat} (I : Inv S t) (hs : s < 6) : MK (mkK S s) t s (nD S) := by
  refine ⟨I.agr k_agr, hs, rfl, by rw [k_12, if_pos rfl], ?_⟩
  rw [k_13, if_pos rfl]; rfl
/-- the state that the class fills from -/
def mkT (S : St) (s : Nat) : St := (u1 (mkK S s).1 26 (-3), (mkK S s).2)
theorem mkT_0 {S : St} {s : Nat} : mkT S s = (u1 (mk0 S s).1 25 (S.1 25), (mk0 S s).2) := by
  refine Prod.ext ?_ rfl
  show u1 S.1 26 (-3) = u1 (u1 (u1 S.1 25 0) 26 (-3)) 25 (S.1 25)
  rw [u1_comm (k := 26) (k' := 25) (by decide), u1_u1, u1_id (f := S.1) rfl]
theorem mk_1 {S : St} {s : Nat} (k : Nat) : mk1 s (nD S) k 0 (mk0 S s) = (u1 (fil s (nD S) k 0 (mkT S s)).2.1 25 (fil s (nD S) k 0 (mkT S s)).1, (fil s (nD S) k 0 (mkT S s)).2.2) := by
  rw [mkT_0]; exact mk1_fil k 0 (mk0 S s) (S.1 25) rfl rfl
theorem mk_IM {S : St} {t s : Nat} (I : Inv S t) (hs : s < 6) : IM (mk1 s (nD S) (pmN S s) 0 (mk0 S s)) t s (nD S) (pmN S s) := by
  have h0 : IM (mk0 S s) t s (nD S) 0 := ⟨I.agr mk0_agr, rfl, hs, fun _ p hp => absurd hp (by omega)⟩
  have := mk1_im (pmN S s) 0 (mk0 S s) h0 (by show 0 + pmN S s ≤ pmN S s; omega)
  rwa [Nat.zero_add] at this
theorem mk_MK {S : St} {t s : Nat} (I : Inv S t) (hs : s < 6) : MK (mk1 s (nD S) (pmN S s) 0 (mk0 S s)) t s (nD S) := by
  have h := mk_IM I hs
  have h12 : ∀ j, j ≠ 14 → j ≠ 27 → (mk1 s (nD S) (pmN S s) 0 (mk0 S s)).2.1 j = (mkK S s).2.1 j := fun j a b => mk1_o a b _ _ _
  have K := MK.mk I hs
  exact ⟨h.1, hs, h.2.1, by rw [h12 12 (by decide) (by decide)]; exact K.2.2.2.1, by rw [h12 13 (by decide) (by decide), h12 16 (by decide) (by decide)]; exact K.2.2.2.2⟩
theorem mk_pm {S : St} {s : Nat} (k : Nat) : pmN (mk1 s (nD S) k 0 (mk0 S s)) s = pmN S s := by
  unfold pmN; rw [mk1_o (by decide) (by decide)]; rfl
theorem mk_cm {S : St} {s : Nat} (k : Nat) : cmN (mk1 s (nD S) k 0 (mk0 S s)) s = cmN S s := by
  unfold cmN; rw [mk1_o (by decide) (by decide)]; rfl
theorem mk_2 {S : St} {r s : Nat} (k : Nat) (h25 : S.1 25 = 0) (h26 : S.1 26 = -3) : mk2 s r k 0 S = (u1 (chk s r k 0 S).2.1 25 (chk s r k 0 S).1, (chk s r k 0 S).2.2) := by
  have := mk2_chk (s := s) (r := r) k 0 S 0 h25 h26
  rw [u1_id (f := S.1) h25] at this
  exact this
theorem mk2_n {s r : Nat} : ∀ k c S, nD (mk2 s r k c S) = nD S ∧ (mk2 s r k c S).1 11 = S.1 11 := by
  intro k
  induction k with
  | zero => intro c S; exact ⟨rfl, rfl⟩
  | succ k ih =>
    intro c S
    rw [mk2]
    by_cases h : S.1 25 = 0
    · rw [if_pos h]; exact ih (c + 1) _
    · rw [if_neg h]; exact ⟨rfl, rfl⟩
set_option maxRecDepth 100000 in
set_option maxHeartbeats 4000000 in
theorem c_X11_make {b0 : Nat} {D : va_G} {dA : Nat → ClassId} {ad : Nat → Nat → Nat} {Q : PQ} {Sm S : St} {f : Nat} {t : Nat} (I : Inv S t) (sh place : Int32) (hq : ∀ ad2 : Nat → Nat → Nat, ad2 0 0 = ad 0 0 → ad2 16 0 = ad 16 0 → Q (some (.int (F_make S sh place).1)) (dmW (F_make S sh place).2 0) ad2 (cw dA ad2 Sm (F_make S sh place).2 f)) : Ct b0 D dA yX11_make cX11_make 5 (some .int) (RmA 6 3 14) [.ref (ad 0 0), .int sh, .int place] (dmW S 0) ad (cw dA ad Sm S f) Q := by
  refine ct_of (by decide) (Nat.le_of_ble_eq_true rfl) ?_
  refine e_aload dX11_make_0 rfl ?_
  refine e_iload dX11_make_1 rfl ?_
  refine n_callV1 dX11_make_2 ca_X11_191 (show dmW S 0 0 0 from rfl) cw_0 (c2_X11_shapeAt _ (fun hs0 => ?_) (fun s hs5 es hs1 => ?_))
  · skip
    refine e_astore dX11_make_5 ?_
    refine e_aload dX11_make_6 rfl ?_
    refine e_ifnull_0 dX11_make_7 ?_
    refine e_push dX11_make_17 ?_
    exact e_iretI dX11_make_18 rfl (qx (hq ad rfl rfl) (by first | (simp [F_make, hs0]; done) | (simp [F_make, h14]; done))) (by decide) (by decide)
  · subst es
    have ts : tN (nI s) = s := tN_n (by omega)
    have hs : s < 6 := by omega
    refine e_astore dX11_make_5 ?_
    refine e_aload dX11_make_6 rfl ?_
    refine e_ifnull_r dX11_make_7 ?_
    refine e_iload dX11_make_10 rfl ?_
    refine n_callS1 dX11_make_11 ca_X11_162  (c_X11_isPlace _ ?_) 
    refine e_if_neB dX11_make_14 (fun h14 => ?_) (fun h14 => ?_)
    · obtain ⟨pl, pl1, pl2, rfl⟩ := inB_l (a := 0) (b := 9) rfl rfl (by decide) (by decide) h14
      have tpl : tN (nI pl) = pl := tN_n (by omega)
      obtain ⟨hp, hp5, hcm, hc4, -⟩ := I.2.2.2.2.1 s hs
      obtain ⟨hC, hR, hD⟩ := bd512 I
      have hFm : F_make S (nI s) (nI pl) = ((mk3 (mk2 s (nD S) (cmN S s) 0 (mk1 s (nD S) (pmN S s) 0 (mk0 S s))) (nD S) pl).1 25, mk3 (mk2 s (nD S) (cmN S s) 0 (mk1 s (nD S) (pmN S s) 0 (mk0 S s))) (nD S) pl) := by
        rw [F_make, if_pos (by rw [hs1, h14]; rfl), ts, tpl]; rfl
      refine e_new (8) (nD S) dX11_make_19 fn_X11_216 (by decide) (by decide) (fun a8 => ?_)
      refine e_dup dX11_make_22 ?_
      refine e_aload dX11_make_23 rfl ?_
      refine e_callI1 dX11_make_24 ca_X11_218  (rm_inA (C' := 2) (S' := 10) (by decide) (by decide) (by decide) (by decide)) (c_X5_init (d := nD S) (s := s) (n := pmN S s) hp5 u2_s (Or.inr ⟨rfl, rfl⟩) u2_s (show dmU (dmW S 0) 8 (nD S) 11 s from Or.inl hs) rfl ((u2_x (by decide)).trans ((cw_11 (dA := dA) (ad := ad) (Sm := Sm) (S := S) (f := f) (i := s)).trans (by rw [hp]))) (fun b c => ?_)) (by exact Nat.le_of_ble_eq_true rfl)
      refine e_conv (mk_cv I hs) ?_
      refine e_astore dX11_make_27 ?_
      have h8 : u2 (u2 (u2 ad 8 (nD S) a8) 9 (nD S) b) 10 (nD S) c 8 (nD S) = a8 := (u2_x (by decide)).trans ((u2_x (by decide)).trans u2_s)
      have g1 : u2 (u2 (u2 ad 8 (nD S) a8) 9 (nD S) b) 10 (nD S) c 0 0 = ad 0 0 := rfl
      have g2 : u2 (u2 (u2 ad 8 (nD S) a8) 9 (nD S) b) 10 (nD S) c 16 0 = ad 16 0 := rfl
      generalize u2 (u2 (u2 ad 8 (nD S) a8) 9 (nD S) b) 10 (nD S) c = ad2 at h8 g1 g2 ⊢
      refine e_lvA (l := [some (.ref (ad2 0 0)), none, some (.int (nI pl)), none, some (.ref (ad2 8 (nD S)))]) ?_ ⟨congrArg (fun z => some (Value.ref z)) g1.symm, rfl, congrArg (fun z => some (Value.ref z)) h8.symm, trivial⟩
      refine e_aload dX11_make_29 rfl ?_
      refine e_push dX11_make_30 ?_
      refine w_put12 dX11_make_32 fp_X11_59 ?_
      change E _ _ _ _ _ _ _ _ _ _ _ _ _ (dmW (mkT S s) 1) ad2 (cw dA ad2 Sm (mkT S s) 0) _ _
      refine e_aload dX11_make_35 rfl ?_
      refine e_aload dX11_make_36 rfl ?_
      refine e_aload dX11_make_37 rfl ?_
      refine n_callV1 dX11_make_39 ca_X11_221 (show dmW (mkT S s) 1 0 0 from rfl) cw_0 (c_X11_fillParts (S := mkT S s) (MK.mk I hs).u26 (fun f1 hf1 => ?_)) 
      refine w_put11 dX11_make_42 fp_X11_56 ?_
      have e1 := mk_1 (S := S) (s := s) (pmN S s)
      have hM1 := mk_MK I hs
      have hI1 := mk_IM I hs
      have hpm1 := mk_pm (S := S) (s := s) (pmN S s)
      have hcm1 := mk_cm (S := S) (s := s) (pmN S s)
      have hf1' : (mk1 s (nD S) (pmN S s) 0 (mk0 S s)).1 25 = 0 → f1 = pmN S s ∧ (mk1 s (nD S) (pmN S s) 0 (mk0 S s)).1 26 = -3 := fun z => by
        have z' : (fil s (nD S) (pmN S s) 0 (mkT S s)).1 = 0 := by rw [e1] at z; exact z
        refine ⟨hf1 z', ?_⟩
        rw [e1]
        show (fil s (nD S) (pmN S s) 0 (mkT S s)).2.1 26 = -3
        rw [fil_0 _ _ _ z']; rfl
      change E _ _ _ _ _ _ _ _ _ _ _ _ _ (dmW (u1 (fil s (nD S) (pmN S s) 0 (mkT S s)).2.1 25 (fil s (nD S) (pmN S s) 0 (mkT S s)).1, (fil s (nD S) (pmN S s) 0 (mkT S s)).2.2) 1) ad2 (cw dA ad2 Sm (u1 (fil s (nD S) (pmN S s) 0 (mkT S s)).2.1 25 (fil s (nD S) (pmN S s) 0 (mkT S s)).1, (fil s (nD S) (pmN S s) 0 (mkT S s)).2.2) f1) _ _
      rw [← e1]
      generalize mk1 s (nD S) (pmN S s) 0 (mk0 S s) = M1 at hM1 hI1 hpm1 hcm1 hf1' hFm ⊢
      refine e_aload dX11_make_45 rfl ?_
      refine x_get dX11_make_46 fg_X11_56 rfl (show dmW (M1) 1 0 0 from rfl) cw_0 rfl ?_
      refine e_if_ne dX11_make_49 (fun h49 => ?_) (fun h49 => ?_)
      · have hF : F_make S (nI s) (nI pl) = ((actS M1).1 25, actS M1) := by
          rw [hFm, mk2_stop h49]; unfold mk3; rw [if_neg h49]
        refine e_aload dX11_make_62 rfl ?_
        refine x_get dX11_make_63 fg_X11_56 rfl (show dmW (M1) 1 0 0 from rfl) cw_0 rfl ?_
        refine e_if_ne dX11_make_66 (fun h66 => ?_) (fun h66 => ?_)
        · refine e_aload dX11_make_87 rfl ?_
          refine e_dup dX11_make_88 ?_
          refine x_get dX11_make_89 fg_X11_29 rfl (show dmW (M1) 1 0 0 from rfl) cw_0 rfl ?_
          refine e_push dX11_make_92 ?_
          refine e_iadd dX11_make_93 ?_
          refine w_put4 dX11_make_94 fp_X11_29 ?_
          refine e_aload dX11_make_97 rfl ?_
          refine x_get dX11_make_98 fg_X11_56 rfl (show dmW (actS (M1)) 1 0 0 from rfl) cw_0 rfl ?_
          refine e_conv (dr_cv (f' := f)) ?_
          exact e_iretI dX11_make_101 rfl (qx (hq ad2 g1 g2) hF) (by decide) (by decide)
        · exact absurd h66 h49
      · obtain ⟨rfl, h26⟩ := hf1' h49
        have e2 := mk_2 (S := M1) (r := nD S) (s := s) (cmN S s) h49 h26
        have hI2 := mk2_im (cmN S s) 0 M1 hI1
        have hn2 := (mk2_n (s := s) (r := nD S) (cmN S s) 0 M1).1
        have hp2 : pN (mk2 s (nD S) (cmN S s) 0 M1) (nD S) = pmN S s := by
          unfold pN; rw [mk2_2]; exact hM1.pn.2.1.trans hpm1
        have ho : ∀ p, p < pmN M1 s → okP M1 s (nD S) p := fun p hp => hI1.2.2.2 h49 p (by rw [hpm1] at hp; exact hp)
        rw [hM1.2.2.1] at hn2
        rw [← hpm1]
        refine e_aload dX11_make_52 rfl ?_
        refine e_aload dX11_make_53 rfl ?_
        refine e_aload dX11_make_54 rfl ?_
        refine n_callV1 dX11_make_56 ca_X11_225 (show dmW M1 1 0 0 from rfl) cw_0 (c_X11_runChecks hM1 ho ?_) 
        refine w_put11 dX11_make_59 fp_X11_56 ?_
        rw [hpm1, hcm1]
        change E _ _ _ _ _ _ _ _ _ _ _ _ _ (dmW (u1 (chk s (nD S) (cmN S s) 0 M1).2.1 25 (chk s (nD S) (cmN S s) 0 M1).1, (chk s (nD S) (cmN S s) 0 M1).2.2) 1) ad2 (cw dA ad2 Sm (u1 (chk s (nD S) (cmN S s) 0 M1).2.1 25 (chk s (nD S) (cmN S s) 0 M1).1, (chk s (nD S) (cmN S s) 0 M1).2.2) (pmN S s)) _ _
        rw [← e2]
        generalize mk2 s (nD S) (cmN S s) 0 M1 = M2 at hI2 hn2 hp2 hFm ⊢
        have h11 := hI2.1.2.2.2.2.2.1.1
        refine e_aload dX11_make_62 rfl ?_
        refine x_get dX11_make_63 fg_X11_56 rfl (show dmW (M2) 1 0 0 from rfl) cw_0 rfl ?_
        refine e_if_ne dX11_make_66 (fun h66 => ?_) (fun h66 => ?_)
        · have hF : F_make S (nI s) (nI pl) = ((actS M2).1 25, actS M2) := by
            rw [hFm]; unfold mk3; rw [if_neg h66]
          refine e_aload dX11_make_87 rfl ?_
          refine e_dup dX11_make_88 ?_
          refine x_get dX11_make_89 fg_X11_29 rfl (show dmW (M2) 1 0 0 from rfl) cw_0 rfl ?_
          refine e_push dX11_make_92 ?_
          refine e_iadd dX11_make_93 ?_
          refine w_put4 dX11_make_94 fp_X11_29 ?_
          refine e_aload dX11_make_97 rfl ?_
          refine x_get dX11_make_98 fg_X11_56 rfl (show dmW (actS M2) 1 0 0 from rfl) cw_0 rfl ?_
          refine e_conv (dr_cv (f' := f)) ?_
          exact e_iretI dX11_make_101 rfl (qx (hq ad2 g1 g2) hF) (by decide) (by decide)
        · refine e_aload dX11_make_69 rfl ?_
          refine x_get dX11_make_70 fg_X11_37 rfl (show dmW (M2) 1 0 0 from rfl) cw_0 rfl ?_
          refine e_iload dX11_make_73 rfl ?_
          refine e_aload dX11_make_74 rfl ?_
          refine w_pl (t0 := nI (100000 + nD S)) pl dX11_make_76 rfl (by omega) (tr_d (by omega)) rfl (show dmW M2 1 8 (nD S) from by show nD S < nD M2 + 1; omega) cw_8 (fa_t (Or.inr (Or.inl rfl))) ?_
          refine e_aload dX11_make_77 rfl ?_
          refine e_dup dX11_make_78 ?_
          refine x_get dX11_make_79 fg_X11_53 rfl (show dmW (M2.1, u2 M2.2.1 15 pl (nI (100000 + nD S)), M2.2.2) 1 0 0 from rfl) cw_0 rfl ?_
          refine e_push dX11_make_82 ?_
          refine e_iadd dX11_make_83 ?_
          refine w_rec (S := (M2.1, u2 M2.2.1 15 pl (nI (100000 + nD S)), M2.2.2)) f dX11_make_84 fp_X11_53 (show pmN S s = pN M2 (nD M2) by rw [hn2]; exact hp2.symm) (show M2.1 11 = nI (nD M2) from h11) (show nD M2 ≤ 512 by omega) ?_
          refine e_aload dX11_make_87 rfl ?_
          refine e_dup dX11_make_88 ?_
          refine x_get dX11_make_89 fg_X11_29 rfl rfl cw_0 rfl ?_
          refine e_push dX11_make_92 ?_
          refine e_iadd dX11_make_93 ?_
          refine w_put4 dX11_make_94 fp_X11_29 ?_
          refine e_aload dX11_make_97 rfl ?_
          refine x_get dX11_make_98 fg_X11_56 rfl rfl cw_0 rfl ?_
          exact e_iretI dX11_make_101 rfl (qx (hq ad2 g1 g2) (by rw [hFm]; unfold mk3; rw [if_pos h66]; exact Prod.ext rfl (Prod.ext (u1_comm (by decide)) rfl))) (by decide) (by decide)
    · refine e_push dX11_make_17 ?_
      exact e_iretI dX11_make_18 rfl (qx (hq ad rfl rfl) (by first | (simp [F_make, hs0]; done) | (simp [F_make, h14]; done))) (by decide) (by decide)
