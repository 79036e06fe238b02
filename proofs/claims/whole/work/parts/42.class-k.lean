set_option maxRecDepth 100000 in
set_option maxHeartbeats 4000000 in
theorem c3_X0_append {b0 : Nat} {D : va_G} {dA : Nat → ClassId} {dm : Nat → Nat → Prop} {ad : Nat → Nat → Nat} {Q : PQ} {ct : Nat → Nat → va_E} {k2 i2 ci v : Nat} {fs : List Value} {b m : Nat} {f : Nat → Option Nat} (h2 : dm 2 b) (e2 : ct 2 b = .inr (0, [.ref (ad 3 b), .int (nI m)])) (h3 : dm 3 b) (e3 : ct 3 b = rfs dA 2 60 f) (hm : m < 60) (hv : ad k2 i2 = v) (hk2 : dm k2 i2) (he2 : ct k2 i2 = .inr (ci, fs)) (hci : ci = 3 ∨ ci = 5 ∨ ci = 8) (hn2 : k2 ≠ 2 ∧ k2 ≠ 3) (hq : Q (some (.int (nI m))) dm ad (u2 (u2 ct 3 b (rfs dA 2 60 (va_up f m (some v)))) 2 b (.inr (0, [.ref (ad 3 b), .int (nI (m + 1))])))) : Ct b0 D dA yX0_append cX0_append 2 (some .int) (Rm 0) [.ref (ad 2 b), .ref v] dm ad ct Q := by
  subst hv
  exact c_X0_append h2 e2 h3 e3 hm hk2 he2 hci hn2 hq

set_option maxRecDepth 100000 in
set_option maxHeartbeats 4000000 in
theorem c_X11_constant {b0 : Nat} {D : va_G} {dA : Nat → ClassId} {ad : Nat → Nat → Nat} {Q : PQ} {Sm S : St} {f : Nat} {t : Nat} (I : Inv S t) (kind : Int32) (name : Int64) (body : Int32) (hq : ∀ ad2 : Nat → Nat → Nat, ad2 0 0 = ad 0 0 → ad2 16 0 = ad 16 0 → Q (some (.int (F_constant S kind name body).1)) (dmW (F_constant S kind name body).2 0) ad2 (cw dA ad2 Sm (F_constant S kind name body).2 f)) : Ct b0 D dA yX11_constant cX11_constant 7 (some .int) (RmA 6 2 7) [.ref (ad 0 0), .int kind, .long name, .int body] (dmW S 0) ad (cw dA ad Sm S f) Q := by
  refine ct_of (by decide) (Nat.le_of_ble_eq_true rfl) ?_
  refine e_aload dX11_constant_0 rfl ?_
  refine e_iload dX11_constant_1 rfl ?_
  refine e_push dX11_constant_2 ?_
  refine n_callV2 dX11_constant_3 ca_X11_66 (show dmW S 0 0 0 from rfl) cw_0 (c2_X11_buildAt _ _ (fun hb0 => ?_) (fun kd bd hkd hbd ek eb hk5 hb2 => ?_))
  · rw [show inB (0 : Int32) 0 2 = true from by decide, Bool.and_true] at hb0
    refine e_astore dX11_constant_6 ?_
    refine e_aload dX11_constant_8 rfl ?_
    refine e_ifnull_0 dX11_constant_10 ?_
    refine e_push dX11_constant_39 ?_
    exact e_iretI dX11_constant_40 rfl (qx (hq ad rfl rfl) (by rw [F_constant, hb0]; rfl)) (by decide) (by decide)
  · subst ek
    have e0 : bd = 0 := (nI_eq (b := 0) (by omega) (by decide)).mp eb.symm
    subst e0
    have h60 := I.1.2.1
    have hb : 3 * kd < 18 := by omega
    obtain ⟨hm, hmC, hbi, hbj⟩ := I.2.1 (3 * kd) hb
    have tk : tN (nI kd) = kd := tN_n (by omega)
    rw [show 3 * kd + 0 = 3 * kd from rfl]
    refine e_astore dX11_constant_6 ?_
    refine e_aload dX11_constant_8 rfl ?_
    refine e_ifnull_r dX11_constant_10 ?_
    refine e_lload dX11_constant_13 rfl ?_
    refine n_callS1 dX11_constant_14 ca_X11_70  (c_X11_isName _ ?_) 
    rw [nm_cl]
    refine e_if_eqB dX11_constant_17 (fun h17 => ?_) (fun h17 => ?_)
    · refine e_push dX11_constant_39 ?_
      exact e_iretI dX11_constant_40 rfl (qx (hq ad rfl rfl) (by first | (rw [F_constant, h17, Bool.and_false]; rfl) | (rw [F_constant, h36, Bool.and_false]; rfl))) (by decide) (by decide)
    · refine e_aload dX11_constant_20 rfl ?_
      refine e_lload dX11_constant_22 rfl ?_
      refine n_callV1 dX11_constant_23 ca_X11_74 (show dmW S 0 2 (3 * kd) from hb) cw_2 (c_X0_bearing _ (show dmW S 0 2 (3 * kd) from hb) (cw_2.trans (by rw [hm])) (show dmW S 0 3 (3 * kd) from hb) cw_3 (by omega) (g := bc S (3 * kd)) (ci := fun c => cb (S.2.1 3 c)) (vs := fun c => [.int (S.2.1 4 c), .int (S.2.1 5 c)]) (ls := fun c => (nI c, S.2.1 1 c, S.2.2 c, fo S c)) (fun i hi => ⟨ln_t hi, (hbi i hi).2.1, cw_4, cb_or _, (hbi i hi).2.1, cw_5⟩) ?_) 
      rcases by_name I (show kd < 6 by omega) name with ⟨j, c, hj, hc, e1, e2, e3⟩ | ⟨e1, e2⟩
      · have e1' : fnd (fun i => decide (S.2.2 (bc S (3 * kd) i) = name)) (mb S (3 * kd)) 0 = some j := e1
        rw [e1', show (some j : Option Nat).bind (lnF ad S (3 * kd)) = lnF ad S (3 * kd) j from rfl, ln_t (b := 3 * kd) hj]
        refine e_ifnonnull_r dX11_constant_26 ?_
        refine e_push dX11_constant_39 ?_
        exact e_iretI dX11_constant_40 rfl (qx (hq ad rfl rfl) (by rw [F_constant, e2, show decide ((some c : Option Nat) = none) = false from rfl, Bool.and_false]; rfl)) (by decide) (by decide)
      have e1' : fnd (fun i => decide (S.2.2 (bc S (3 * kd) i) = name)) (mb S (3 * kd)) 0 = none := e1
      rw [e1', show (none : Option Nat).bind (lnF ad S (3 * kd)) = none from rfl]
      refine e_ifnonnull_0 dX11_constant_26 ?_
      refine e_iload dX11_constant_29 rfl ?_
      refine e_push dX11_constant_31 ?_
      refine e_push dX11_constant_32 ?_
      refine n_callS3 dX11_constant_33 ca_X11_78  (c_X11_isIn _ _ _ ?_) 
      refine e_if_neB dX11_constant_36 (fun h36 => ?_) (fun h36 => ?_)
      · obtain ⟨bo, b1, b2, rfl⟩ := inB_l (a := 0) (b := 2) rfl rfl (by decide) (by decide) h36
        have hbo : nI bo = 0 ∨ nI bo = 1 ∨ nI bo = 2 := by
          rcases (show bo = 0 ∨ bo = 1 ∨ bo = 2 by omega) with rfl | rfl | rfl
          · exact Or.inl rfl
          · exact Or.inr (Or.inl rfl)
          · exact Or.inr (Or.inr rfl)
        rw [F_constant, if_pos (by rw [hk5, h17, e2, h36]; rfl), tk] at hq
        refine e_aload dX11_constant_41 rfl ?_
        refine x_get dX11_constant_42 fg_X11_15 rfl (show dmW S 0 0 0 from rfl) cw_0 rfl ?_
        refine e_push dX11_constant_45 ?_
        refine e_icmp_lt dX11_constant_47 (fun h47 => ?_) (fun h47 => ?_)
        · have hlt : nC S < 60 := by
            rw [I.1.1] at h47
            exact (nI_ltI (by omega) (by decide)).mp h47
          have hn60 : ¬ S.1 0 = 60 := by rw [I.1.1]; exact fun z => absurd ((nI_eq (b := 60) (by omega) (by decide)).mp z) (by omega)
          rw [if_neg hn60] at hq
          refine e_iload dX11_constant_53 rfl ?_
          refine e_new (5) (nC S) dX11_constant_55 fn_X11_82 (by decide) (by decide) (fun a5 => ?_)
          refine e_dup dX11_constant_58 ?_
          refine e_aload dX11_constant_59 rfl ?_
          refine x_get dX11_constant_60 fg_X11_15 rfl (show dmU (dmW S 0) 5 (nC S) 0 0 from Or.inl rfl) (cw_0 (dA := dA) (ad := ad) (Sm := Sm) (S := S) (f := f) (i := 0)) rfl ?_
          refine e_iload dX11_constant_63 rfl ?_
          refine e_lload dX11_constant_64 rfl ?_
          refine e_aload dX11_constant_65 rfl ?_
          refine x_get dX11_constant_67 fg_X11_84 rfl (show dmU (dmW S 0) 5 (nC S) 2 (3 * kd) from Or.inl hb) (cw_2 (dA := dA) (ad := ad) (Sm := Sm) (S := S) (f := f) (i := 3 * kd)) rfl ?_
          refine n_callI4 dX11_constant_70 ca_X11_87  (c_X3_init (x := nC S) _ _ _ _ u2_s (Or.inr ⟨rfl, rfl⟩) u2_s ?_) 
          refine e_callS2 dX11_constant_73 ca_X11_90  (rm_inA (C' := 1) (S' := 3) (by decide) (by decide) (by decide) (by decide)) (c_X11_newConstant (nC S) _ hbo (fun a4 => ?_)) (by exact Nat.le_of_ble_eq_true rfl)
          refine e_astore dX11_constant_76 ?_
          refine e_aload dX11_constant_78 rfl ?_
          refine e_aload dX11_constant_80 rfl ?_
          refine n_callV1 dX11_constant_82 ca_X11_94 (show dmU (dmU (dmW S 0) 5 (nC S)) 4 (nC S) 2 (3 * kd) from Or.inl (Or.inl hb)) (cw_2 (dA := dA) (ad := ad) (Sm := Sm) (S := S) (f := f) (i := 3 * kd)) (c3_X0_append (k2 := 4) (i2 := nC S) (m := mb S (3 * kd)) (f := lnF ad S (3 * kd)) (show dmU (dmU (dmW S 0) 5 (nC S)) 4 (nC S) 2 (3 * kd) from Or.inl (Or.inl hb)) ((cw_2 (dA := dA) (ad := ad) (Sm := Sm) (S := S) (f := f) (i := 3 * kd)).trans (by rw [hm]; rfl)) (show dmU (dmU (dmW S 0) 5 (nC S)) 4 (nC S) 3 (3 * kd) from Or.inl (Or.inl hb)) (cw_3 (dA := dA) (ad := ad) (Sm := Sm) (S := S) (f := f) (i := 3 * kd)) (by omega) u2_s (Or.inr ⟨rfl, rfl⟩) u2_s (cb_or _) (by decide) ?_) 
          refine e_pop dX11_constant_85 ?_
          refine e_aload dX11_constant_86 rfl ?_
          refine x_get dX11_constant_87 fg_X11_11 rfl (show dmU (dmU (dmW S 0) 5 (nC S)) 4 (nC S) 0 0 from Or.inl (Or.inl rfl)) (cw_0 (dA := dA) (ad := ad) (Sm := Sm) (S := S) (f := f) (i := 0)) rfl ?_
          refine e_aload dX11_constant_90 rfl ?_
          refine x_get dX11_constant_91 fg_X11_15 rfl (show dmU (dmU (dmW S 0) 5 (nC S)) 4 (nC S) 0 0 from Or.inl (Or.inl rfl)) (cw_0 (dA := dA) (ad := ad) (Sm := Sm) (S := S) (f := f) (i := 0)) rfl ?_
          refine e_aload dX11_constant_94 rfl ?_
          refine x_ast (nC S) dX11_constant_96 rfl (show dmU (dmU (dmW S 0) 5 (nC S)) 4 (nC S) 1 0 from Or.inl (Or.inl (by rw [dmW_1]; decide))) (show _ = rfs dA 2 60 (coF ad S) from rfl) rfl I.1.1 (by omega) (by decide) u2_s (Or.inr ⟨rfl, rfl⟩) ((u2_x (by decide)).trans ((u2_x (by decide)).trans u2_s)) (fa_c (cb_or _)) ?_
          refine e_aload dX11_constant_97 rfl ?_
          refine e_dup dX11_constant_98 ?_
          refine x_get dX11_constant_99 fg_X11_15 rfl (show dmU (dmU (dmW S 0) 5 (nC S)) 4 (nC S) 0 0 from Or.inl (Or.inl rfl)) (cw_0 (dA := dA) (ad := ad) (Sm := Sm) (S := S) (f := f) (i := 0)) rfl ?_
          refine e_push dX11_constant_102 ?_
          refine e_iadd dX11_constant_103 ?_
          refine x_put dX11_constant_104 fp_X11_15 rfl (show dmU (dmU (dmW S 0) 5 (nC S)) 4 (nC S) 0 0 from Or.inl (Or.inl rfl)) (cw_0 (dA := dA) (ad := ad) (Sm := Sm) (S := S) (f := f) (i := 0)) rfl rfl (Nat.le_of_ble_eq_true rfl) ?_
          refine e_conv (con_cv (kd := kd) I (by omega) hlt) ?_
          have hnC : nC S < nC (cnS S kd name (nI bo)) := by
            rw [show nC (cnS S kd name (nI bo)) = nC S + 1 from co_nC (kd := nI kd) (name := name) (bo := nI bo) I]; omega
          refine e_aload dX11_constant_107 rfl ?_
          refine x_get dX11_constant_109 (fg_X11_98 (cb_or _)) u2_s (show dmW (cnS S kd name (nI bo)) 0 4 (nC S) from hnC) cw_4 rfl ?_
          refine x_get dX11_constant_112 fg_X11_102 rfl (show dmW (cnS S kd name (nI bo)) 0 5 (nC S) from hnC) cw_5 rfl ?_
          exact e_iretI dX11_constant_115 rfl (hq _ rfl rfl) (by decide) (by decide)
        · have h60e : S.1 0 = 60 := by
            rw [I.1.1] at h47 ⊢
            rcases Nat.lt_or_ge (nC S) 60 with z | z
            · exact absurd ((nI_ltI (by omega) (by decide)).mpr z) h47
            · rw [show nC S = 60 by omega]; rfl
          refine e_push dX11_constant_50 ?_
          exact e_iretI dX11_constant_52 rfl (qx (hq ad rfl rfl) (by rw [if_pos h60e])) (by decide) (by decide)
      · refine e_push dX11_constant_39 ?_
        exact e_iretI dX11_constant_40 rfl (qx (hq ad rfl rfl) (by first | (rw [F_constant, h17, Bool.and_false]; rfl) | (rw [F_constant, h36, Bool.and_false]; rfl))) (by decide) (by decide)
