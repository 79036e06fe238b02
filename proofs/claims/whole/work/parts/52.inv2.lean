/-! ===== the same: part, check, make; the start ===== -/
theorem Inv.part {S : St} {t : Nat} {s sort k : Int32} (I : Inv S t) : Inv (F_part S s sort k).2 t := by
  unfold F_part
  split
  · rename_i h
    rw [Bool.and_eq_true] at h
    split
    · exact I
    · rename_i hn5
      obtain ⟨s, -, hs, rfl⟩ := inB_l (a := 0) (b := 5) rfl rfl (by decide) (by decide) h.1
      rw [tN_n (by omega)] at hn5 ⊢
      have hs6 : s < 6 := by omega
      obtain ⟨hp, hp5, -⟩ := I.2.2.2.2.1 s hs6
      have hpm : pmN S s < 5 := by
        rcases Nat.lt_or_ge (pmN S s) 5 with z | z
        · exact z
        · exact absurd (by rw [hp, show pmN S s = 5 by omega]; rfl) hn5
      have hso : sort = 0 ∨ sort = 1 ∨ sort = 2 ∨ sort = 3 ∨ sort = 4 := by
        have h2 := h.2
        unfold paB at h2
        rw [Bool.and_eq_true, Bool.and_eq_true] at h2
        rcases sw_04 sort with z | z | z | z | z | ⟨-, -, -, -, -, z⟩
        · exact Or.inl z
        · exact Or.inr (Or.inl z)
        · exact Or.inr (Or.inr (Or.inl z))
        · exact Or.inr (Or.inr (Or.inr (Or.inl z)))
        · exact Or.inr (Or.inr (Or.inr (Or.inr z)))
        · rw [h2.1.1] at z; cases z
      have hpm1 : ∀ x, pmN (paS S s sort k) x = if x = s then pmN S s + 1 else pmN S x := fun x => by
        unfold pmN
        rw [pa_16]
        by_cases e : x = s
        · rw [if_pos e, if_pos e, hp, show nI (pmN S s) + 1 = nI (pmN S s + 1) from inc1 _, nI_clamp (by omega), nI_clamp (by omega)]
        · rw [if_neg e, if_neg e]
      have h17 : ∀ s' p, p < 5 → ¬ (s' = s ∧ p = pmN S s) → (paS S s sort k).2.1 17 (5 * s' + p) = S.2.1 17 (5 * s' + p) := fun s' p h5 hne => by
        rw [pa_17, if_neg (fun z => hne (by omega))]
      have hI := I
      obtain ⟨Ic, Ib, Io, Ir, Is, Id, Ip, It, Iz⟩ := I
      refine ⟨Ic, Ib, Io, Ir, fun x hx => ?_, ⟨Id.1, Id.2.1, fun d hd => ?_⟩, Ip, It, Iz⟩
      · obtain ⟨a1, a2, a3, a4, a5, a6⟩ := Is x hx
        rw [hpm1, pa_16]
        refine ⟨?_, ?_, a3, a4, fun p hp' => ?_, fun c hc => ?_⟩
        · by_cases e : x = s
          · rw [if_pos e, if_pos e, hp]; exact inc1 _
          · rw [if_neg e, if_neg e]; exact a1
        · by_cases e : x = s
          · rw [if_pos e]; omega
          · rw [if_neg e]; exact a2
        · by_cases e : x = s
          · rw [if_pos e] at hp'
            by_cases ep : p = pmN S s
            · rw [pa_17, if_pos (by rw [e, ep])]; exact hso
            · rw [h17 x p (by omega) (fun z => ep z.2)]; rw [e] at a5 ⊢; exact a5 p (by omega)
          · rw [if_neg e] at hp'
            rw [h17 x p (by omega) (fun z => e z.1)]; exact a5 p hp'
        · obtain ⟨a, b, ha, hb, f1, f2, f3, f4⟩ := a6 c hc
          have hle : pmN S x ≤ (if x = s then pmN S s + 1 else pmN S x) := by
            by_cases e : x = s
            · rw [if_pos e, e]; omega
            · rw [if_neg e]; exact Nat.le_refl _
          have ga := h17 x a (by omega) (fun z => by rw [z.1] at ha; have := z.2; omega)
          have gb := h17 x b (by omega) (fun z => by rw [z.1] at hb; have := z.2; omega)
          rw [← ga] at f4
          rw [← gb] at f3
          exact ⟨a, b, by omega, by omega, f1, f2, f3, f4⟩
      · have hd' : d < nD S := hd
        obtain ⟨d1, d2, d3, d4, d5⟩ := Id.2.2 d hd'
        refine ⟨d1, d2, d3, ?_, fun p hp' => ?_⟩
        · show pN S d ≤ pmN (paS S s sort k) (shN S d)
          rw [hpm1]
          by_cases e : shN S d = s
          · rw [if_pos e]; rw [e] at d4; omega
          · rw [if_neg e]; exact d4
        · have := pa_17n (sort := sort) (k := k) hI hs6 hpm hd' (show p < pN S d from hp')
          have h2 := d5 p hp'
          rw [← this] at h2
          exact h2
  · exact I
theorem inB_m {v x : Int32} {N : Nat} (hx : x = nI N) (hN : N < 2 ^ 30) (h : inB v 0 (x - 1) = true) : ∃ j, j < N ∧ v = nI j := by
  subst hx; exact inB_n hN h
theorem fit_k {kd so : Int32} (hk : inB kd 0 5 = true) (h : fitB kd so = true) : (kd = 0 ∧ so = 0) ∨ (kd = 1 ∧ so = 0) ∨ (kd = 2 ∧ so = 3) ∨ (kd = 3 ∧ so = 3) ∨ (kd = 4 ∧ (so = 1 ∨ so = 2)) ∨ (kd = 5 ∧ so = 4) := by
  rcases sw_05 kd with rfl | rfl | rfl | rfl | rfl | rfl | ⟨-, -, -, -, -, -, z⟩
  · exact Or.inl ⟨rfl, of_decide_eq_true h⟩
  · exact Or.inr (Or.inl ⟨rfl, of_decide_eq_true h⟩)
  · exact Or.inr (Or.inr (Or.inl ⟨rfl, of_decide_eq_true h⟩))
  · exact Or.inr (Or.inr (Or.inr (Or.inl ⟨rfl, of_decide_eq_true h⟩)))
  · refine Or.inr (Or.inr (Or.inr (Or.inr (Or.inl ⟨rfl, ?_⟩))))
    have h' : (decide (so = 1) || decide (so = 2)) = true := h
    rw [Bool.or_eq_true] at h'
    exact h'.imp of_decide_eq_true of_decide_eq_true
  · exact Or.inr (Or.inr (Or.inr (Or.inr (Or.inr ⟨rfl, of_decide_eq_true h⟩))))
  · rw [hk] at z; cases z
theorem Inv.check {S : St} {t : Nat} {s kd a b : Int32} (I : Inv S t) : Inv (F_check S s kd a b).2 t := by
  unfold F_check
  split
  · rename_i h
    unfold ckB at h
    simp only [Bool.and_eq_true] at h
    obtain ⟨⟨⟨⟨⟨h1, h2⟩, h3⟩, h4⟩, h5⟩, h6⟩ := h
    split
    · exact I
    · rename_i hn4
      obtain ⟨s, -, hs, rfl⟩ := inB_l (a := 0) (b := 5) rfl rfl (by decide) (by decide) h1
      rw [tN_n (by omega)] at hn4 h3 h4 h5 h6 ⊢
      have hs6 : s < 6 := by omega
      obtain ⟨hp, hp5, hc, hc4, -⟩ := I.2.2.2.2.1 s hs6
      have hcm : cmN S s < 4 := by
        rcases Nat.lt_or_ge (cmN S s) 4 with z | z
        · exact z
        · exact absurd (by rw [hc, show cmN S s = 4 by omega]; rfl) hn4
      obtain ⟨a, ha, rfl⟩ := inB_m hp (by omega) h3
      obtain ⟨b, hb, rfl⟩ := inB_m hp (by omega) h4
      rw [tN_n (by omega)] at h5 h6
      have hcm1 := fun x => ch_cm (S := S) (t := t) (s := s) (x := x) (kd := kd) (a := nI a) (b := nI b) I hs6
      have e20 : ∀ x, (chS S s kd (nI a) (nI b)).2.1 20 x = if x = 4 * s + cmN S s then kd else S.2.1 20 x := fun x => by
        show u2 (u2 (u2 (u2 S.2.1 20 (4 * s + cmN S s) kd) 21 (4 * s + cmN S s) (nI a)) 22 (4 * s + cmN S s) (nI b)) 19 s (S.2.1 19 s + 1) 20 x = _
        rw [u2_x (by decide), u2_x (by decide), u2_x (by decide), u2_e]
        by_cases e : x = 4 * s + cmN S s
        · rw [if_pos ⟨rfl, e⟩, if_pos e]
        · rw [if_neg (fun z => e z.2), if_neg e]
      have e21 : ∀ x, (chS S s kd (nI a) (nI b)).2.1 21 x = if x = 4 * s + cmN S s then nI a else S.2.1 21 x := fun x => by
        show u2 (u2 (u2 (u2 S.2.1 20 (4 * s + cmN S s) kd) 21 (4 * s + cmN S s) (nI a)) 22 (4 * s + cmN S s) (nI b)) 19 s (S.2.1 19 s + 1) 21 x = _
        rw [u2_x (by decide), u2_x (by decide), u2_e]
        by_cases e : x = 4 * s + cmN S s
        · rw [if_pos ⟨rfl, e⟩, if_pos e]
        · rw [if_neg (fun z => e z.2), if_neg e]; rfl
      have e22 : ∀ x, (chS S s kd (nI a) (nI b)).2.1 22 x = if x = 4 * s + cmN S s then nI b else S.2.1 22 x := fun x => by
        show u2 (u2 (u2 (u2 S.2.1 20 (4 * s + cmN S s) kd) 21 (4 * s + cmN S s) (nI a)) 22 (4 * s + cmN S s) (nI b)) 19 s (S.2.1 19 s + 1) 22 x = _
        rw [u2_x (by decide), u2_e]
        by_cases e : x = 4 * s + cmN S s
        · rw [if_pos ⟨rfl, e⟩, if_pos e]
        · rw [if_neg (fun z => e z.2), if_neg e]; rfl
      obtain ⟨Ic, Ib, Io, Ir, Is, Id, Ip, It, Iz⟩ := I
      refine ⟨Ic, Ib, Io, Ir, fun x hx => ?_, Id, Ip, It, Iz⟩
      obtain ⟨a1, a2, a3, a4, a5, a6⟩ := Is x hx
      rw [hcm1, ch_19]
      refine ⟨a1, a2, ?_, ?_, a5, fun c hc' => ?_⟩
      · by_cases e : x = s
        · rw [if_pos e, if_pos e, hc]; exact inc1 _
        · rw [if_neg e, if_neg e]; exact a3
      · by_cases e : x = s
        · rw [if_pos e]; omega
        · rw [if_neg e]; exact a4
      · rw [e20, e21, e22]
        by_cases en : x = s ∧ c = cmN S s
        · obtain ⟨rfl, rfl⟩ := en
          rw [if_pos rfl, if_pos rfl, if_pos rfl]
          exact ⟨a, b, ha, hb, rfl, rfl, of_decide_eq_true h5, fit_k h2 h6⟩
        · have hc5 : c < cmN S x := by
            by_cases e : x = s
            · rw [if_pos e] at hc'
              rw [e]
              rcases Nat.lt_or_ge c (cmN S s) with z | z
              · exact z
              · exact absurd ⟨e, by omega⟩ en
            · rw [if_neg e] at hc'; exact hc'
          have hne : ¬ 4 * x + c = 4 * s + cmN S s := fun z => en (by omega)
          rw [if_neg hne, if_neg hne, if_neg hne]
          exact a6 c hc5
  · exact I
theorem nD_of {S : St} {n : Nat} (h : S.1 11 = nI n) (hn : n ≤ 100000) : nD S = n := by
  unfold nD; rw [h, nI_clamp (by omega)]; exact Nat.min_eq_left hn
theorem Inv.make {S : St} {t : Nat} {s pl : Int32} (I : Inv S t) (ht : t < 512) : Inv (F_make S s pl).2 (t + 1) := by
  unfold F_make
  split
  · rename_i h
    rw [Bool.and_eq_true] at h
    obtain ⟨s, -, hs, rfl⟩ := inB_l (a := 0) (b := 5) rfl rfl (by decide) (by decide) h.1
    obtain ⟨pl, -, hpl, rfl⟩ := inB_l (a := 0) (b := 9) rfl rfl (by decide) (by decide) h.2
    rw [tN_n (by omega), tN_n (by omega)]
    have hs6 : s < 6 := by omega
    have hM1 := mk_MK I hs6
    have hI1 := mk_IM I hs6
    have hpm1 := mk_pm (S := S) (s := s) (pmN S s)
    have hI2 := mk2_im (cmN S s) 0 _ hI1
    have h22 := mk2_2 (s := s) (r := nD S) (cmN S s) 0 (mk1 s (nD S) (pmN S s) 0 (mk0 S s))
    show Inv (mk3 (mk2 s (nD S) (cmN S s) 0 (mk1 s (nD S) (pmN S s) 0 (mk0 S s))) (nD S) pl) (t + 1)
    generalize mk2 s (nD S) (cmN S s) 0 (mk1 s (nD S) (pmN S s) 0 (mk0 S s)) = M at hI2 h22 ⊢
    generalize hM : mk1 s (nD S) (pmN S s) 0 (mk0 S s) = M1 at hM1 hpm1 h22
    have h12 : M.2.1 12 (nD S) = nI s := by rw [h22]; exact hM1.2.2.2.1
    have h13 : M.2.1 13 (nD S) = M.2.1 16 s := by rw [h22]; exact hM1.2.2.2.2
    have hpm : pmN M s = pmN S s := by unfold pmN at hpm1 ⊢; rw [h22]; exact hpm1
    obtain ⟨IM0, hnD, -, hok⟩ := hI2
    unfold mk3
    split
    · rename_i h25
      have hok := hok h25
      have IM1 : Inv (actS M) t := IM0.agr act_agr
      have h11 := IM0.2.2.2.2.2.1.1
      obtain ⟨hC, hR, hD⟩ := bd512 IM0
      obtain ⟨q1, q2, -⟩ := IM0.2.2.2.2.1 s hs6
      have hDt := IM0.2.2.2.2.2.1.2.1
      have hn : nD (u1 (actS M).1 11 ((actS M).1 11 + 1), u2 M.2.1 15 pl (nI (100000 + nD S)), M.2.2) = nD M + 1 := by
        refine nD_of ?_ (by omega)
        show M.1 11 + 1 = _
        rw [h11]; exact inc1 _
      obtain ⟨Ic, Ib, Io, Ir, Is, Id, Ip, It, Iz⟩ := IM0
      refine ⟨Ic, Ib, Io, ⟨Ir.1, Nat.le_succ_of_le Ir.2.1, Ir.2.2⟩, Is, ⟨?_, by rw [hn]; omega, fun d hd => ?_⟩, ⟨fun q hq => ?_, Ip.2⟩, by omega, Iz⟩
      · rw [hn]
        show M.1 11 + 1 = _
        rw [h11]; exact inc1 _
      · rw [hn] at hd
        have hok' : ∀ so v, okV M so v → okV (u1 (actS M).1 11 ((actS M).1 11 + 1), u2 M.2.1 15 pl (nI (100000 + nD S)), M.2.2) so v := fun so v z => okV_mono (S := M) (Nat.le_refl _) (Nat.le_refl _) (by omega) z
        show M.2.1 12 d = nI (shN M d) ∧ shN M d < 6 ∧ M.2.1 13 d = nI (pN M d) ∧ pN M d ≤ pmN M (shN M d) ∧ ∀ p, p < pN M d → (M.2.1 17 (5 * shN M d + p) = 0 ∧ ∃ q, q < 2 ^ 31 ∧ M.2.1 14 (5 * d + p) = nI q) ∨ (M.2.1 17 (5 * shN M d + p) ≠ 0 ∧ okV _ (M.2.1 17 (5 * shN M d + p)) (M.2.1 14 (5 * d + p)))
        by_cases e : d = nD S
        · subst e
          have hsh : shN M (nD S) = s := by unfold shN; rw [h12, nI_clamp (by omega)]
          have hpn : pN M (nD S) = pmN M s := by unfold pN pmN; rw [h13]
          rw [hsh, hpn]
          refine ⟨h12, hs6, by rw [h13]; exact q1, Nat.le_refl _, fun p hp => ?_⟩
          rcases hok p (by rw [← hpm]; exact hp) with z | ⟨z, y⟩
          · exact Or.inl z
          · exact Or.inr ⟨z, hok' _ _ y⟩
        · obtain ⟨d1, d2, d3, d4, d5⟩ := Id.2.2 d (by omega)
          refine ⟨d1, d2, d3, d4, fun p hp => ?_⟩
          rcases d5 p hp with z | ⟨z, y⟩
          · exact Or.inl z
          · exact Or.inr ⟨z, hok' _ _ y⟩
      · show okT _ (u2 M.2.1 15 pl (nI (100000 + nD S)) 15 q)
        by_cases e : q = pl
        · subst e
          rw [u2_s]
          exact Or.inr (Or.inr (Or.inr ⟨nD S, by rw [hn]; omega, rfl⟩))
        · rw [u2_n (fun z => e z.2)]
          exact okT_mono (S := M) (Nat.le_refl _) (Nat.le_refl _) (by rw [hn]; omega) (Ip.1 q hq)
    · exact (IM0.agr act_agr).mono (by omega) (by omega)
  · exact I.mono (by omega) (by omega)
theorem Inv.start : Inv S0 0 := by
  have n0 : nC S0 = 0 := rfl
  have m0 : ∀ b, mb S0 b = 0 := fun b => rfl
  refine ⟨⟨rfl, by omega, fun c hc => absurd hc (by omega), fun c c' hc => absurd hc (by omega)⟩, fun b hb => ⟨rfl, by rw [m0]; omega, fun i hi => absurd hi (by rw [m0]; omega), fun i j hi => absurd hi (by rw [m0]; omega)⟩, fun c hc => absurd hc (by omega), ⟨rfl, Nat.le_refl _, fun r hr => absurd hr (show ¬ r < 0 by omega)⟩, fun s hs => ⟨rfl, show 0 ≤ 5 by omega, rfl, show 0 ≤ 4 by omega, fun p hp => absurd hp (show ¬ p < 0 by omega), fun c hc => absurd hc (show ¬ c < 0 by omega)⟩, ⟨rfl, Nat.le_refl _, fun d hd => absurd hd (show ¬ d < 0 by omega)⟩, ⟨fun p hp => Or.inl ?_, fun p hp => ⟨0, by omega, rfl⟩⟩, by omega, fun c _ _ => ⟨rfl, rfl⟩⟩
  show (if p < 10 then (-1 : Int32) else 0) = -1
  exact if_pos hp
