set_option maxHeartbeats 4000000 in
set_option maxRecDepth 100000 in
theorem l_law {b0 : Nat} {D : va_G} {dA : Nat → ClassId} {nm : String} {b L : Nat} {xs : Nat → Int32} (hL : L ≤ 3072) : ∀ k t (S : St) (ad : Nat → Nat → Nat), t + k = 512 → Inv S t → E b0 D dA (yLw nm) cL_law 4 ret room_1 (EXL b L xs b0) QFL 18 (lfA [some (.ref b), some (.ref (ad 0 0)), some (.ref (ad 16 0)), some (.int (nI (6 * t)))]) [] (dmW S 0) ad (cw dA ad S S 0) (95 + 3 * t) (13457 + 14 * t) := by
  intro k
  induction k with
  | zero =>
    intro t S ad hi I
    refine e_iload dL_law_18 rfl ?_
    refine e_aload dL_law_19 rfl ?_
    refine e_slen dL_law_20 ?_
    refine e_push dL_law_21 ?_
    refine e_isub dL_law_23 ?_
    refine e_icmp_gt dL_law_24 (fun h24 => ?_) (fun h24 => ?_)
    · refine e_push dL_law_1243 ?_
      exact e_lawret dL_law_1244 (by omega) (by omega)
    · exact absurd (lp_in hL (by omega) h24) (by omega)
  | succ k ih =>
    intro t S ad hi I
    refine e_iload dL_law_18 rfl ?_
    refine e_aload dL_law_19 rfl ?_
    refine e_slen dL_law_20 ?_
    refine e_push dL_law_21 ?_
    refine e_isub dL_law_23 ?_
    refine e_icmp_gt dL_law_24 (fun h24 => ?_) (fun h24 => ?_)
    · refine e_push dL_law_1243 ?_
      exact e_lawret dL_law_1244 (by omega) (by omega)
    · have h6 := lp_in hL (by omega) h24
      have hk : ∀ (S' : St) (ad' : Nat → Nat → Nat), Inv S' (t + 1) → E b0 D dA (yLw nm) cL_law 4 ret room_1 (EXL b L xs b0) QFL 1237 (lfA [some (.ref b), some (.ref (ad' 0 0)), some (.ref (ad' 16 0)), some (.int (nI (6 * t)))]) [] (dmW S' 0) ad' (cw dA ad' S' S' 0) (95 + 3 * t + 3) (13457 + 14 * t + 14) := fun S' ad' I' => by
        refine e_iinc dL_law_1237 rfl (show nI (6 * t) + Int32.ofInt 6 = nI (6 * t + 6) from nI_add (6 * t) 6) ?_
        refine e_goto dL_law_1240 ?_
        exact e_lvA (ih (t + 1) S' ad' (by omega) I') ⟨rfl, rfl, rfl, rfl, trivial⟩
      refine e_aload dL_law_27 rfl ?_
      refine e_iload dL_law_28 rfl ?_
      refine e_sld (6 * t) dL_law_29 rfl (by omega) (by omega) ?_
      refine e_push dL_law_30 ?_
      refine e_iand dL_law_32 ?_
      rcases sw_26 (xs (6 * t) &&& 31) with ⟨j, hj, e⟩ | hf
      · refine e_topi e ?_
        match j, hj with
        | 0, _ =>
          refine e_tab (off := 123) (t := 156) dL_law_33 (by decide) (by decide) (by decide) (by decide) ?_
          exact lc_0 I (by omega) hL h6 (by omega) (by omega) hk
        | 1, _ =>
          refine e_tab (off := 196) (t := 229) dL_law_33 (by decide) (by decide) (by decide) (by decide) ?_
          exact lc_1 I (by omega) hL h6 (by omega) (by omega) hk
        | 2, _ =>
          refine e_tab (off := 229) (t := 262) dL_law_33 (by decide) (by decide) (by decide) (by decide) ?_
          exact lc_2 I (by omega) hL h6 (by omega) (by omega) hk
        | 3, _ =>
          refine e_tab (off := 302) (t := 335) dL_law_33 (by decide) (by decide) (by decide) (by decide) ?_
          exact lc_3 I (by omega) hL h6 (by omega) (by omega) hk
        | 4, _ =>
          refine e_tab (off := 345) (t := 378) dL_law_33 (by decide) (by decide) (by decide) (by decide) ?_
          exact lc_4 I (by omega) hL h6 (by omega) (by omega) hk
        | 5, _ =>
          refine e_tab (off := 408) (t := 441) dL_law_33 (by decide) (by decide) (by decide) (by decide) ?_
          exact lc_5 I (by omega) hL h6 (by omega) (by omega) hk
        | 6, _ =>
          refine e_tab (off := 441) (t := 474) dL_law_33 (by decide) (by decide) (by decide) (by decide) ?_
          exact lc_6 I (by omega) hL h6 (by omega) (by omega) hk
        | 7, _ =>
          refine e_tab (off := 474) (t := 507) dL_law_33 (by decide) (by decide) (by decide) (by decide) ?_
          exact lc_7 I (by omega) hL h6 (by omega) (by omega) hk
        | 8, _ =>
          refine e_tab (off := 507) (t := 540) dL_law_33 (by decide) (by decide) (by decide) (by decide) ?_
          exact lc_8 I (by omega) hL h6 (by omega) (by omega) hk
        | 9, _ =>
          refine e_tab (off := 540) (t := 573) dL_law_33 (by decide) (by decide) (by decide) (by decide) ?_
          exact lc_9 I (by omega) hL h6 (by omega) (by omega) hk
        | 10, _ =>
          refine e_tab (off := 573) (t := 606) dL_law_33 (by decide) (by decide) (by decide) (by decide) ?_
          exact lc_10 I (by omega) hL h6 (by omega) (by omega) hk
        | 11, _ =>
          refine e_tab (off := 656) (t := 689) dL_law_33 (by decide) (by decide) (by decide) (by decide) ?_
          exact lc_11 I (by omega) hL h6 (by omega) (by omega) hk
        | 12, _ =>
          refine e_tab (off := 689) (t := 722) dL_law_33 (by decide) (by decide) (by decide) (by decide) ?_
          exact lc_12 I (by omega) hL h6 (by omega) (by omega) hk
        | 13, _ =>
          refine e_tab (off := 722) (t := 755) dL_law_33 (by decide) (by decide) (by decide) (by decide) ?_
          exact lc_13 I (by omega) hL h6 (by omega) (by omega) hk
        | 14, _ =>
          refine e_tab (off := 765) (t := 798) dL_law_33 (by decide) (by decide) (by decide) (by decide) ?_
          exact lc_14 I (by omega) hL h6 (by omega) (by omega) hk
        | 15, _ =>
          refine e_tab (off := 798) (t := 831) dL_law_33 (by decide) (by decide) (by decide) (by decide) ?_
          exact lc_15 I (by omega) hL h6 (by omega) (by omega) hk
        | 16, _ =>
          refine e_tab (off := 821) (t := 854) dL_law_33 (by decide) (by decide) (by decide) (by decide) ?_
          exact lc_16 I (by omega) hL h6 (by omega) (by omega) hk
        | 17, _ =>
          refine e_tab (off := 854) (t := 887) dL_law_33 (by decide) (by decide) (by decide) (by decide) ?_
          exact lc_17 I (by omega) hL h6 (by omega) (by omega) hk
        | 18, _ =>
          refine e_tab (off := 887) (t := 920) dL_law_33 (by decide) (by decide) (by decide) (by decide) ?_
          exact lc_18 I (by omega) hL h6 (by omega) (by omega) hk
        | 19, _ =>
          refine e_tab (off := 930) (t := 963) dL_law_33 (by decide) (by decide) (by decide) (by decide) ?_
          exact lc_19 I (by omega) hL h6 (by omega) (by omega) hk
        | 20, _ =>
          refine e_tab (off := 983) (t := 1016) dL_law_33 (by decide) (by decide) (by decide) (by decide) ?_
          exact lc_20 I (by omega) hL h6 (by omega) (by omega) hk
        | 21, _ =>
          refine e_tab (off := 1026) (t := 1059) dL_law_33 (by decide) (by decide) (by decide) (by decide) ?_
          exact lc_21 I (by omega) hL h6 (by omega) (by omega) hk
        | 22, _ =>
          refine e_tab (off := 1059) (t := 1092) dL_law_33 (by decide) (by decide) (by decide) (by decide) ?_
          exact lc_22 I (by omega) hL h6 (by omega) (by omega) hk
        | 23, _ =>
          refine e_tab (off := 1082) (t := 1115) dL_law_33 (by decide) (by decide) (by decide) (by decide) ?_
          exact lc_23 I (by omega) hL h6 (by omega) (by omega) hk
        | 24, _ =>
          refine e_tab (off := 1115) (t := 1148) dL_law_33 (by decide) (by decide) (by decide) (by decide) ?_
          exact lc_24 I (by omega) hL h6 (by omega) (by omega) hk
        | 25, _ =>
          refine e_tab (off := 1158) (t := 1191) dL_law_33 (by decide) (by decide) (by decide) (by decide) ?_
          exact lc_25 I (by omega) hL h6 (by omega) (by omega) hk
        | 26, _ =>
          refine e_tab (off := 1181) (t := 1214) dL_law_33 (by decide) (by decide) (by decide) (by decide) ?_
          exact lc_26 I (by omega) hL h6 (by omega) (by omega) hk
        | j + 27, h => exact absurd h (by omega)
      · refine e_tabD (t := 1237) dL_law_33 (sw_f hf) (by decide) ?_
        exact e_wide (by omega) (by omega) (hk S ad (I.mono (by omega) (by omega)))
set_option maxHeartbeats 4000000 in
set_option maxRecDepth 100000 in
theorem law_start {b0 : Nat} {D : va_G} {dA : Nat → ClassId} {nm : String} {b L : Nat} {xs : Nat → Int32} (hL : L ≤ 3072) : E b0 D dA (yLw nm) cL_law 4 ret room_1 (EXL b L xs b0) QFL 0 (lfL [.ref b]) [] (fun _ _ => False) (fun _ _ => 0) (fun _ _ => .inr (0, [])) 0 0 := by
  refine e_new (0) (0) dL_law_0 fn_L_7 (by decide) (by decide) (fun a => ?_)
  refine e_dup dL_law_3 ?_
  refine e_callI0 dL_law_4 ca_L_9 (rm_law (by decide) (by decide) (by decide) (by decide)) (c_X11_init u2_s (Or.inr ⟨rfl, rfl⟩) u2_s (fun ad2 h0 => ?_)) (by exact Nat.le_of_ble_eq_true rfl)
  refine e_astore dL_law_7 ?_
  refine e_new (16) (0) dL_law_8 fn_L_10 (by decide) (by decide) (fun a2 => ?_)
  refine e_dup dL_law_11 ?_
  refine e_callI0 dL_law_12 ca_L_12 (rm_law (by decide) (by decide) (by decide) (by decide)) (c_X12_init (a0 := a2) u2_s (Or.inr ⟨rfl, rfl⟩) (fun i h => h.elim (fun z => absurd (dmI_big z) (by decide)) (fun z => z.2)) (fun k i h => h.elim (fun z => by have := dmI_big z; omega) (fun z => by have := z.1; omega)) u2_s (fun ad3 hag => ?_)) (by exact Nat.le_of_ble_eq_true rfl)
  refine e_astore dL_law_15 ?_
  refine e_arrq (k := 1) (i := 2) (t0 := 3) (N := 18) (f := fun q => if q < 18 then some (ad2 2 q) else none) (g := fun j => some (ad3 2 j)) (Or.inl (Or.inl (Or.inr (Or.inl rfl)))) rfl (fun j hj => (if_pos hj).trans (congrArg some (hag 2 j (by decide)).symm)) ?_
  refine e_arrq (k := 1) (i := 7) (t0 := 5) (N := 6) (f := fun q => if q < 6 then some (ad2 11 q) else none) (g := fun j => some (ad3 11 j)) (Or.inl (Or.inl (Or.inr (Or.inr (Or.inr (Or.inr (Or.inl rfl))))))) rfl (fun j hj => (if_pos hj).trans (congrArg some (hag 11 j (by decide)).symm)) ?_
  refine e_conv (st_cv (fun i => hag 1 i (by decide)) (fun i => hag 3 i (by decide)) (fun i => hag 12 i (by decide)) (fun i => hag 13 i (by decide)) (fun i => hag 14 i (by decide))) ?_
  refine e_push dL_law_16 ?_
  refine e_istore dL_law_17 ?_
  refine e_wide (show _ ≤ 95 + 3 * 0 by decide) (show _ ≤ 13457 + 14 * 0 by decide) ?_
  exact e_lvA (l_law hL 512 0 S0 ad3 (by omega) Inv.start) ⟨rfl, congrArg (fun z => some (Value.ref z)) (show a = ad3 0 0 from h0.symm.trans (hag 0 0 (by decide)).symm), congrArg (fun z => some (Value.ref z)) (show a2 = ad3 16 0 from ((hag 16 0 (by decide)).trans u2_s).symm), rfl, trivial⟩
