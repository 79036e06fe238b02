set_option maxRecDepth 100000 in
set_option maxHeartbeats 4000000 in
theorem c_X11_row {b0 : Nat} {D : va_G} {dA : Nat → ClassId} {ad : Nat → Nat → Nat} {Q : PQ} {Sm S : St} {f : Nat} {t : Nat} (I : Inv S t) (p n : Int32) (hq : ∀ ad2 : Nat → Nat → Nat, ad2 0 0 = ad 0 0 → ad2 16 0 = ad 16 0 → Q (some (.int (F_row S p n).1)) (dmW (F_row S p n).2 0) ad2 (cw dA ad2 Sm (F_row S p n).2 f)) : Ct b0 D dA yX11_row cX11_row 3 (some .int) (RmA 3 2 13) [.ref (ad 0 0), .int p, .int n] (dmW S 0) ad (cw dA ad Sm S f) Q := by
  refine ct_of (by decide) (Nat.le_of_ble_eq_true rfl) ?_
  refine e_iload dX11_row_0 rfl ?_
  refine n_callS1 dX11_row_1 ca_X11_162  (c_X11_isPlace _ ?_) 
  refine e_if_eqB dX11_row_4 (fun h4 => ?_) (fun h4 => ?_)
  · refine e_push dX11_row_23 ?_
    exact e_iretI dX11_row_24 rfl (qx (hq ad rfl rfl) (by first | (simp [F_row, h4]; done) | (rw [F_row, h20, decide_eq_false h10, h4]; rfl))) (by decide) (by decide)
  · obtain ⟨p, p1, p2, rfl⟩ := inB_l (a := 0) (b := 9) rfl rfl (by decide) (by decide) h4
    have tp : tN (nI p) = p := tN_n (by omega)
    refine e_iload dX11_row_7 rfl ?_
    refine e_push dX11_row_8 ?_
    refine e_icmp_eq dX11_row_10 (fun h10 => ?_) (fun h10 => ?_)
    · subst h10
      rw [F_row, if_pos (by rw [h4]; rfl), if_pos rfl, tp] at hq
      refine e_aload dX11_row_25 rfl ?_
      refine x_get dX11_row_26 fg_X11_37 rfl (show dmW S 0 0 0 from rfl) cw_0 rfl ?_
      refine e_iload dX11_row_29 rfl ?_
      refine e_iload dX11_row_30 rfl ?_
      refine e_push dX11_row_31 ?_
      refine e_icmp_ne dX11_row_33 (fun h => absurd rfl h) (fun _ => ?_)
      refine e_null dX11_row_36 ?_
      refine e_goto dX11_row_37 ?_
      refine w_plN p dX11_row_48 rfl (by omega) ?_
      refine e_push dX11_row_49 ?_
      exact e_iretI dX11_row_50 rfl (hq ad rfl rfl) (by decide) (by decide)
    · refine e_iload dX11_row_13 rfl ?_
      refine e_push dX11_row_14 ?_
      refine e_push dX11_row_15 ?_
      refine n_callS3 dX11_row_17 ca_X11_78  (c_X11_isIn _ _ _ ?_) 
      refine e_if_neB dX11_row_20 (fun h20 => ?_) (fun h20 => ?_)
      · obtain ⟨n, n0, n12, rfl⟩ := inB_l (a := 0) (b := 12) rfl rfl (by decide) (by decide) h20
        rw [F_row, if_pos (by rw [h4, h20, Bool.or_true]; rfl), if_neg h10, tp] at hq
        refine e_aload dX11_row_25 rfl ?_
        refine x_get dX11_row_26 fg_X11_37 rfl (show dmW S 0 0 0 from rfl) cw_0 rfl ?_
        refine e_iload dX11_row_29 rfl ?_
        refine e_iload dX11_row_30 rfl ?_
        refine e_push dX11_row_31 ?_
        refine e_icmp_ne dX11_row_33 (fun h33 => ?_) (fun h33 => ?_)
        · refine e_new (6) (nR S) dX11_row_40 fn_X11_166 (by decide) (by decide) (fun a => ?_)
          refine e_dup dX11_row_43 ?_
          refine e_iload dX11_row_44 rfl ?_
          refine e_callI1 dX11_row_45 ca_X11_168  (rm_inA (C' := 1) (S' := 12) (by decide) (by decide) (by decide) (by decide)) (c_X7_init (r := nR S) n12 u2_s (Or.inr ⟨rfl, rfl⟩) u2_s (fun a2 => ?_)) (by exact Nat.le_of_ble_eq_true rfl)
          refine x_ast p dX11_row_48 rfl (show dmU (dmU (dmW S 0) 6 (nR S)) 7 (nR S) 1 6 from Or.inl (Or.inl (by rw [dmW_1]; decide))) (show _ = rfs dA 4 10 (plF ad S) from rfl) rfl rfl (by omega) (by decide) (show u2 (u2 ad 6 (nR S) a) 7 (nR S) a2 6 (nR S) = a from (u2_x (by decide)).trans u2_s) (Or.inl (Or.inr ⟨rfl, rfl⟩)) u2_s (fa_t (Or.inr (Or.inr (Or.inr (Or.inl rfl))))) ?_
          refine e_conv (ro_cv I (by omega) n12) ?_
          refine e_push dX11_row_49 ?_
          exact e_iretI dX11_row_50 rfl (hq _ rfl rfl) (by decide) (by decide)
        · exact absurd h33 h10
      · refine e_push dX11_row_23 ?_
        exact e_iretI dX11_row_24 rfl (qx (hq ad rfl rfl) (by first | (simp [F_row, h4]; done) | (rw [F_row, h20, decide_eq_false h10, h4]; rfl))) (by decide) (by decide)
