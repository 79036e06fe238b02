/-! ===== what holds at every time is kept by every call ===== -/
theorem Inv.mono {S : St} {t t' : Nat} (I : Inv S t) (h : t ≤ t') (h5 : t' ≤ 512) : Inv S t' :=
  ⟨I.1, I.2.1, I.2.2.1, ⟨I.2.2.2.1.1, Nat.le_trans I.2.2.2.1.2.1 h, I.2.2.2.1.2.2⟩, I.2.2.2.2.1, ⟨I.2.2.2.2.2.1.1, Nat.le_trans I.2.2.2.2.2.1.2.1 h, I.2.2.2.2.2.1.2.2⟩, I.2.2.2.2.2.2.1, h5, I.2.2.2.2.2.2.2.2⟩
theorem act_agr {S : St} : Agr S (actS S) := ⟨rfl, rfl, rfl, rfl, fun _ _ _ _ _ _ _ _ _ _ => rfl, fun _ _ => ⟨rfl, rfl, fun _ _ => rfl⟩⟩
theorem Inv.pl {S : St} {t p : Nat} {v : Int32} (I : Inv S t) (hv : okT S v) : Inv (S.1, u2 S.2.1 15 p v, S.2.2) t := by
  obtain ⟨Ic, Ib, Io, Ir, Is, Id, Ip, It, Iz⟩ := I
  refine ⟨Ic, Ib, Io, Ir, Is, Id, ⟨fun q hq => ?_, Ip.2⟩, It, Iz⟩
  show okT S (u2 S.2.1 15 p v 15 q)
  by_cases e : q = p
  · subst e; rw [u2_s]; exact hv
  · rw [u2_n (fun z => e z.2)]; exact Ip.1 q hq
theorem Inv.hold {S : St} {t : Nat} {p c : Int32} (I : Inv S t) : Inv (F_hold S p c).2 t := by
  unfold F_hold
  split
  · rename_i h
    rw [Bool.and_eq_true] at h
    have hc := h.2
    unfold isC at hc
    rw [I.1.1] at hc
    obtain ⟨c, hcl, rfl⟩ := inB_n (by have := I.1.2.1; omega) hc
    exact (I.pl (p := tN p) (Or.inr (Or.inl ⟨c, hcl, rfl⟩))).agr (st_agr.tr act_agr)
  · exact I
theorem Inv.worth {S : St} {t : Nat} {c v : Int32} (I : Inv S t) : Inv (F_worth S c v).2 t := by
  unfold F_worth
  split
  · exact I.agr (st_agr.tr act_agr)
  · exact I
theorem Inv.weigh {S : St} {t : Nat} {c w : Int32} (I : Inv S t) : Inv (F_weigh S c w).2 t := by
  unfold F_weigh
  split
  · rename_i h
    rw [Bool.and_eq_true] at h
    have hc := h.1
    unfold isC at hc
    have h60 := I.1.2.1
    rw [I.1.1] at hc
    obtain ⟨c, hcl, rfl⟩ := inB_n (by omega) hc
    obtain ⟨w, -, hw, rfl⟩ := inB_l (a := 0) (b := 1000) rfl rfl (by decide) (by decide) h.2
    rw [tN_n (by omega)]
    obtain ⟨Ic, Ib, Io, Ir, Is, Id, Ip, It, Iz⟩ := I
    have e4 : ∀ x, u2 S.2.1 4 c (nI w) 4 x = if x = c then nI w else S.2.1 4 x := fun x => by
      rw [u2_e]
      by_cases e : x = c
      · rw [if_pos ⟨rfl, e⟩, if_pos e]
      · rw [if_neg (fun z => e z.2), if_neg e]
    refine ⟨⟨Ic.1, Ic.2.1, fun x hx => ?_, Ic.2.2.2⟩, Ib, Io, Ir, Is, Id, Ip, It, fun x h1 h2 => ?_⟩
    · obtain ⟨a1, a2, a3, a4, a5⟩ := Ic.2.2.1 x hx
      refine ⟨a1, a2, a3, ?_, ?_⟩
      · show u2 S.2.1 4 c (nI w) 4 x = nI (u2 S.2.1 4 c (nI w) 4 x).toNatClampNeg
        rw [e4]
        by_cases e : x = c
        · rw [if_pos e, nI_clamp (by omega)]
        · rw [if_neg e]; exact a4
      · show (u2 S.2.1 4 c (nI w) 4 x).toNatClampNeg ≤ 1000
        rw [e4]
        by_cases e : x = c
        · rw [if_pos e, nI_clamp (by omega)]; exact hw
        · rw [if_neg e]; exact a5
    · have hx : nC S ≤ x := h1
      refine ⟨?_, (Iz x h1 h2).2⟩
      show u2 S.2.1 4 c (nI w) 4 x = 0
      rw [e4, if_neg (by omega)]
      exact (Iz x h1 h2).1
  · exact I
theorem Inv.d5 {S : St} {t c : Nat} {x y : Int32} (I : Inv S t) (hc : c < nC S) : Inv (u1 S.1 29 x, u2 S.2.1 5 c y, S.2.2) t := by
  obtain ⟨Ic, Ib, Io, Ir, Is, Id, Ip, It, Iz⟩ := I
  refine ⟨Ic, Ib, Io, Ir, Is, Id, Ip, It, fun q h1 h2 => ⟨(Iz q h1 h2).1, ?_⟩⟩
  have hq : nC S ≤ q := h1
  show u2 S.2.1 5 c y 5 q = 0
  rw [u2_n (fun z => by have := z.2; omega)]
  exact (Iz q h1 h2).2
theorem Inv.draw {S : St} {t : Nat} {kind bd n : Int32} {seed : Int64} (I : Inv S t) : Inv (F_draw S kind bd seed n).2 t := by
  unfold F_draw
  split
  · rename_i h
    rw [Bool.and_eq_true, Bool.and_eq_true] at h
    obtain ⟨⟨h1, h2⟩, -⟩ := h
    obtain ⟨kd, -, hk, rfl⟩ := inB_l (a := 0) (b := 5) rfl rfl (by decide) (by decide) h1
    obtain ⟨bd, -, hbd, rfl⟩ := inB_l (a := 0) (b := 2) rfl rfl (by decide) (by decide) h2
    rw [tN_n (by omega), tN_n (by omega)]
    split
    · rename_i hl0
      have h60 := I.1.2.1
      have hb : 3 * kd + bd < 18 := by omega
      obtain ⟨hm, hmC, hbi, hbj⟩ := I.2.1 _ hb
      have hbx := hbiX I hb
      have hs0 := lack_sum (fun i hi => ⟨(hbx i hi).2.1, (hbx i hi).2.2.2, by have := (hbx i hi).1; omega⟩) hm hl0
      have hsw := sumW_le (S := S) (b := 3 * kd + bd) (m := mb S (3 * kd + bd)) (by omega) (fun i hi => (hbx i hi).2.2.1)
      obtain ⟨l, hl, el⟩ := mdl_lt (drw seed n) (n := sumW S (3 * kd + bd) (mb S (3 * kd + bd))) hs0 (by omega)
      rw [el, tN_n (by omega)]
      have hc := (hbi _ (pick_lt hl)).2.1
      exact (I.d5 hc).agr (st_agr.tr act_agr)
    · exact I
  · exact I
theorem Inv.item {S : St} {t : Nat} {p i v : Int32} (I : Inv S t) : Inv (F_item S p i v).2 t := by
  unfold F_item
  split
  · split
    · refine Inv.agr (S := S) ⟨rfl, rfl, rfl, rfl, fun j h10 _ _ _ _ _ _ _ _ => ?_, fun d hd => ⟨rfl, rfl, fun q hq => rfl⟩⟩ I
      funext x
      show u2 S.2.1 10 _ v j x = S.2.1 j x
      exact u2_x h10
    · exact I
  · exact I
theorem Inv.share {S : St} {t : Nat} {p q : Int32} (I : Inv S t) : Inv (F_share S p q).2 t := by
  unfold F_share
  split
  · rename_i h
    rw [Bool.and_eq_true] at h
    obtain ⟨q, -, hq, rfl⟩ := inB_l (a := 0) (b := 9) rfl rfl (by decide) (by decide) h.2
    refine I.pl ?_
    rw [tN_n (by omega)]
    exact I.2.2.2.2.2.2.1.1 q (by omega)
  · exact I
theorem Inv.take {S : St} {t : Nat} {p q o : Int32} (I : Inv S t) : Inv (F_take S p q o).2 t := by
  unfold F_take
  split
  · rename_i h
    rw [Bool.and_eq_true, Bool.and_eq_true] at h
    obtain ⟨⟨h1, h2⟩, -⟩ := h
    obtain ⟨p, -, hp, rfl⟩ := inB_l (a := 0) (b := 9) rfl rfl (by decide) (by decide) h1
    split
    · rename_i g
      rw [Bool.and_eq_true] at g
      rw [tN_n (by omega)] at h2 g ⊢
      obtain ⟨hC, hR, hD⟩ := bd512 I
      obtain ⟨d, hd, e⟩ := fam5 (I.2.2.2.2.2.2.1.1 p (by omega)) hR hC I.1.2.2.1 (of_decide_eq_true h2)
      rw [e, rc_n (by omega)] at g ⊢
      obtain ⟨hsh, hsh6, hpn, hpm, hpv⟩ := I.2.2.2.2.2.1.2.2 d hd
      have hpm5 := (I.2.2.2.2.1 _ hsh6).2.1
      have g1 := g.1
      rw [hpn] at g1
      obtain ⟨q, hq, rfl⟩ := inB_n (by omega) g1
      rw [tN_n (by omega)] at g ⊢
      refine I.pl ?_
      rcases hpv q hq with ⟨z, -⟩ | ⟨z, y⟩
      · rw [decide_eq_true z] at g; exact absurd g.2 (by decide)
      · exact okV_T z y
    · exact I
  · exact I
theorem okT_mono {S S' : St} {v : Int32} (hC : nC S ≤ nC S') (hR : nR S ≤ nR S') (hD : nD S ≤ nD S') (h : okT S v) : okT S' v := by
  rcases h with h | ⟨c, hc, e⟩ | ⟨c, hc, e⟩ | ⟨c, hc, e⟩
  · exact Or.inl h
  · exact Or.inr (Or.inl ⟨c, by omega, e⟩)
  · exact Or.inr (Or.inr (Or.inl ⟨c, by omega, e⟩))
  · exact Or.inr (Or.inr (Or.inr ⟨c, by omega, e⟩))
theorem okV_mono {S S' : St} {so v : Int32} (hC : nC S ≤ nC S') (hR : nR S ≤ nR S') (hD : nD S ≤ nD S') (h : okV S so v) : okV S' so v := by
  rcases h with h | h | ⟨g, c, hc, e⟩ | ⟨g, c, hc, e⟩ | ⟨g, c, hc, e⟩
  · exact Or.inl h
  · exact Or.inr (Or.inl h)
  · exact Or.inr (Or.inr (Or.inl ⟨g, c, by omega, e⟩))
  · exact Or.inr (Or.inr (Or.inr (Or.inl ⟨g, c, by omega, e⟩)))
  · exact Or.inr (Or.inr (Or.inr (Or.inr ⟨g, c, by omega, e⟩)))
theorem I_d.mono {S S' : St} {t : Nat} (h : I_d S t) (h11 : S'.1 11 = S.1 11) (hC : nC S ≤ nC S') (hR : nR S ≤ nR S') (e12 : S'.2.1 12 = S.2.1 12) (e13 : S'.2.1 13 = S.2.1 13) (e14 : S'.2.1 14 = S.2.1 14) (e16 : S'.2.1 16 = S.2.1 16) (e17 : S'.2.1 17 = S.2.1 17) : I_d S' t := by
  have hn : nD S' = nD S := by unfold nD; rw [h11]
  refine ⟨by rw [hn, h11]; exact h.1, by rw [hn]; exact h.2.1, fun d hd => ?_⟩
  rw [hn] at hd
  obtain ⟨d1, d2, d3, d4, d5⟩ := h.2.2 d hd
  have k1 : shN S' d = shN S d := by unfold shN; rw [e12]
  have k2 : pN S' d = pN S d := by unfold pN; rw [e13]
  have k3 : ∀ s, pmN S' s = pmN S s := fun s => by unfold pmN; rw [e16]
  rw [k1, k2, k3, e12, e13, e14, e17]
  refine ⟨d1, d2, d3, d4, fun p hp => ?_⟩
  rcases d5 p hp with z | ⟨z, y⟩
  · exact Or.inl z
  · exact Or.inr ⟨z, okV_mono hC hR (by omega) y⟩
theorem Inv.row {S : St} {t : Nat} {p n : Int32} (I : Inv S t) (ht : t < 512) : Inv (F_row S p n).2 (t + 1) := by
  unfold F_row
  split
  · rename_i h
    rw [Bool.and_eq_true] at h
    split
    · exact (I.pl (Or.inl rfl)).mono (by omega) (by omega)
    · rename_i hn3
      have h2 := h.2
      rw [decide_eq_false hn3, Bool.false_or] at h2
      obtain ⟨n, -, hn, rfl⟩ := inB_l (a := 0) (b := 12) rfl rfl (by decide) (by decide) h2
      obtain ⟨p, -, hp, rfl⟩ := inB_l (a := 0) (b := 9) rfl rfl (by decide) (by decide) h.1
      rw [tN_n (by omega)]
      show Inv (roS S p (nI n)) (t + 1)
      have hR1 := ro_nR (p := p) (n := nI n) I
      have eo := fun k a b c => ro_o (S := S) (p := p) (n := nI n) k a b c
      obtain ⟨hC, hR, hD⟩ := bd512 I
      obtain ⟨Ic, Ib, Io, Ir, Is, Id, Ip, It, Iz⟩ := I
      have e1 := eo 1 (by decide) (by decide) (by decide)
      have e3 := eo 3 (by decide) (by decide) (by decide)
      have e4 := eo 4 (by decide) (by decide) (by decide)
      have e5 := eo 5 (by decide) (by decide) (by decide)
      have e6 := eo 6 (by decide) (by decide) (by decide)
      have e7 := eo 7 (by decide) (by decide) (by decide)
      have hnC : nC (roS S p (nI n)) = nC S := rfl
      have hnD : nD (roS S p (nI n)) = nD S := rfl
      refine ⟨?_, ?_, ?_, ?_, ?_, ?_, ⟨fun q hq => ?_, ?_⟩, by omega, ?_⟩
      · unfold I_c nC kN wN at *; rw [e1, e3, e4]; exact Ic
      · unfold I_b nC kN mb bc at *; rw [e1, e6, e7]; exact Ib
      · unfold I_o nC kN mb bc at *; rw [e1, e6, e7]; exact Io
      · refine ⟨?_, by rw [hR1]; have := Ir.2.1; omega, fun r hr => ?_⟩
        · rw [hR1]
          show S.1 8 + 1 = _
          rw [Ir.1]; exact inc1 _
        · rw [hR1] at hr
          unfold sz
          rw [ro_9]
          by_cases e : r = nR S
          · rw [if_pos e, nI_clamp (by omega)]; exact ⟨rfl, hn⟩
          · rw [if_neg e]; exact Ir.2.2 r (by omega)
      · unfold I_s pmN cmN at *; rw [eo 16 (by decide) (by decide) (by decide), eo 17 (by decide) (by decide) (by decide), eo 19 (by decide) (by decide) (by decide), eo 20 (by decide) (by decide) (by decide), eo 21 (by decide) (by decide) (by decide), eo 22 (by decide) (by decide) (by decide)]; exact Is
      · have := Id.mono (S' := roS S p (nI n)) rfl (by omega) (by omega) (eo 12 (by decide) (by decide) (by decide)) (eo 13 (by decide) (by decide) (by decide)) (eo 14 (by decide) (by decide) (by decide)) (eo 16 (by decide) (by decide) (by decide)) (eo 17 (by decide) (by decide) (by decide))
        exact ⟨this.1, Nat.le_succ_of_le this.2.1, this.2.2⟩
      · rw [ro_15]
        by_cases e : q = p
        · rw [if_pos e]; exact Or.inr (Or.inr (Or.inl ⟨nR S, by omega, rfl⟩))
        · rw [if_neg e]; exact okT_mono (by omega) (by omega) (by omega) (Ip.1 q hq)
      · rw [eo 24 (by decide) (by decide) (by decide)]; exact Ip.2
      · unfold I_z nC at *; rw [e4, e5]; exact Iz
  · exact I.mono (by omega) (by omega)
theorem Inv.give {S : St} {t : Nat} {p v q : Int32} (I : Inv S t) : Inv (F_give S p v q).2 t := by
  unfold F_give
  split
  · rename_i h
    rw [Bool.and_eq_true] at h
    obtain ⟨q, -, hq, rfl⟩ := inB_l (a := 0) (b := 9) rfl rfl (by decide) (by decide) h.2
    obtain ⟨Ic, Ib, Io, Ir, Is, Id, Ip, It, Iz⟩ := I
    refine ⟨Ic, Ib, Io, Ir, Is, Id, ⟨Ip.1, fun x hx => ?_⟩, It, Iz⟩
    show ∃ y, y < 10 ∧ u2 (u2 S.2.1 23 (tN p) v) 24 (tN p) (nI q) 24 x = nI y
    by_cases e : x = tN p
    · subst e; rw [u2_s]; exact ⟨q, by omega, rfl⟩
    · rw [u2_n (fun z => e z.2)]; exact Ip.2 x hx
  · exact I
theorem Inv.arrange {S : St} {t : Nat} {c bd : Int32} (I : Inv S t) : Inv (F_arrange S c bd).2 t := by
  unfold F_arrange
  split
  · rename_i h
    rw [Bool.and_eq_true] at h
    have hc := h.1
    unfold isC at hc
    have h60 := I.1.2.1
    rw [I.1.1] at hc
    obtain ⟨c, hcl, rfl⟩ := inB_n (by omega) hc
    obtain ⟨bd, hb1, hb2, rfl⟩ := inB_l (a := 1) (b := 2) rfl rfl (by decide) (by decide) h.2
    rw [tN_n (by omega), tN_n (by omega)]
    have hk6 := (I.1.2.2.1 c hcl).2.1
    have hb : 3 * kN S c + bd < 18 := by omega
    obtain ⟨hm, hmC, hbi, hbj⟩ := I.2.1 _ hb
    rcases fnd_spec (orP S (3 * kN S c + bd) (nI c)) (mb S (3 * kN S c + bd)) 0 with ⟨j, e, -⟩ | ⟨e, hn⟩
    · rw [e]; exact I
    · rw [e]
      refine I.ap hb hcl (by omega) (fun i hi z => ?_)
      have := hn i (Nat.zero_le _) (by omega)
      simp only [orP, decide_eq_false_iff_not] at this
      exact this (by rw [(hbi i hi).1, z])
  · exact I
theorem shuf_inv {t b : Nat} {seed : Int64} (hb : b < 18) (h3 : ¬ b % 3 = 0) : ∀ i S, Inv S t → (i = 0 ∨ i < mb S b) → Inv (S.1, shufA seed b i S.2.1, S.2.2) t := by
  intro i
  induction i with
  | zero => intro S I _; exact I
  | succ i ih =>
    intro S I hi
    have him : i + 1 < mb S b := hi.resolve_left (by omega)
    have h60 := I.1.2.1
    have hmC := (I.2.1 b hb).2.1
    obtain ⟨j, hj, e⟩ := mdl_lt (drw seed (nI (i + 1))) (n := i + 2) (by omega) (by omega)
    have I2 := I.sw hb h3 him (show j < mb S b by omega)
    have hm : mb (swS S b (i + 1) j) b = mb S b := by unfold mb; rw [sw_s 6 (by decide)]
    have := ih (swS S b (i + 1) j) I2 (Or.inr (by omega))
    rw [shufA, e, tN_n (by omega)]
    exact this
theorem Inv.shuffle {S : St} {t : Nat} {kind bd : Int32} {seed : Int64} (I : Inv S t) : Inv (F_shuffle S kind bd seed).2 t := by
  unfold F_shuffle
  split
  · rename_i h
    rw [Bool.and_eq_true] at h
    obtain ⟨kd, -, hk, rfl⟩ := inB_l (a := 0) (b := 5) rfl rfl (by decide) (by decide) h.1
    obtain ⟨bd, hb1, hb2, rfl⟩ := inB_l (a := 1) (b := 2) rfl rfl (by decide) (by decide) h.2
    rw [tN_n (by omega), tN_n (by omega)]
    exact shuf_inv (by omega) (by omega) _ S I (by omega)
  · exact I
theorem Inv.constant {S : St} {t : Nat} {kind body : Int32} {name : Int64} (I : Inv S t) : Inv (F_constant S kind name body).2 t := by
  unfold F_constant
  split
  · rename_i h
    rw [Bool.and_eq_true, Bool.and_eq_true, Bool.and_eq_true] at h
    obtain ⟨⟨⟨h1, -⟩, h3⟩, h4⟩ := h
    split
    · exact I
    · rename_i hn60
      obtain ⟨kd, -, hk, rfl⟩ := inB_l (a := 0) (b := 5) rfl rfl (by decide) (by decide) h1
      obtain ⟨bo, -, hbo, rfl⟩ := inB_l (a := 0) (b := 2) rfl rfl (by decide) (by decide) h4
      have hlt : nC S < 60 := by
        rcases Nat.lt_or_ge (nC S) 60 with z | z
        · exact z
        · exact absurd (by rw [I.1.1, show nC S = 60 by have := I.1.2.1; omega]; rfl) hn60
      rw [tN_n (by omega)]
      show Inv (cnS S kd name (nI bo)) t
      have hnone := of_decide_eq_true h3
      have hnC : nC (cnS S kd name (nI bo)) = nC S + 1 := co_nC (kd := nI kd) (name := name) (bo := nI bo) I
      have hnC' : nC (coS S (nI kd) name (nI bo)) = nC S + 1 := co_nC (kd := nI kd) (name := name) (bo := nI bo) I
      have hkN : ∀ x, kN (cnS S kd name (nI bo)) x = if x = nC S then kd else kN S x := fun x => co_kN (S := S) (name := name) (bo := nI bo) (by omega)
      have e1 : ∀ x, (cnS S kd name (nI bo)).2.1 1 x = if x = nC S then nI kd else S.2.1 1 x := fun x => by
        show u2 (u2 S.2.1 1 (nC S) (nI kd)) 3 (nC S) (nI bo) 1 x = _
        rw [u2_x (by decide), u2_e]
        by_cases e : x = nC S
        · rw [if_pos ⟨rfl, e⟩, if_pos e]
        · rw [if_neg (fun z => e z.2), if_neg e]
      have e3 : ∀ x, (cnS S kd name (nI bo)).2.1 3 x = if x = nC S then nI bo else S.2.1 3 x := fun x => by
        show u2 (u2 S.2.1 1 (nC S) (nI kd)) 3 (nC S) (nI bo) 3 x = _
        rw [u2_e]
        by_cases e : x = nC S
        · rw [if_pos ⟨rfl, e⟩, if_pos e]
        · rw [if_neg (fun z => e z.2), if_neg e, u2_x (by decide)]
      have eN : ∀ x, (cnS S kd name (nI bo)).2.2 x = if x = nC S then name else S.2.2 x := fun x => by
        show u1 S.2.2 (nC S) name x = _
        rw [u1_e]
      have hb : 3 * kd < 18 := by omega
      have hmC := (I.2.1 _ hb).2.1
      have hbi := (I.2.1 _ hb).2.2.1
      have hIb : I_b (cnS S kd name (nI bo)) := ap_Ib (co_Ib I (by omega)) (by omega) hb (by omega) (by rw [co_kN (by omega), if_pos rfl]; omega) (fun i hi z => by have := (hbi i hi).2.1; rw [show bc S (3 * kd) i = nC S from z] at this; omega) (by rw [hnC']; show mb S (3 * kd) < _; omega)
      have hho := fun i hi => co_ho (S := S) (t := t) (kd := kd) (i := i) (name := name) (bo := nI bo) I (by omega) hi
      obtain ⟨Ic, Ib, Io, Ir, Is, Id, Ip, It, Iz⟩ := I
      refine ⟨⟨?_, by omega, fun x hx => ?_, fun x y hx hy hk' hn' => ?_⟩, hIb, fun x hx => ?_, Ir, Is, Id.mono (S' := cnS S kd name (nI bo)) rfl (by omega) (Nat.le_refl _) rfl rfl rfl rfl rfl, ⟨fun q hq => okT_mono (S := S) (by omega) (Nat.le_refl _) (Nat.le_refl _) (Ip.1 q hq), Ip.2⟩, It, fun x h1 h2 => ?_⟩
      · rw [hnC]
        show S.1 0 + 1 = _
        rw [Ic.1]; exact inc1 _
      · rw [hnC] at hx
        rw [e1, e3, hkN]
        by_cases e : x = nC S
        · have hz := (Iz (nC S) (Nat.le_refl _) hlt).1
          have hw : wN (cnS S kd name (nI bo)) x = 0 := by
            show (S.2.1 4 x).toNatClampNeg = 0
            rw [e, hz]; rfl
          rw [if_pos e, if_pos e, if_pos e, hw]
          refine ⟨rfl, by omega, ?_, ?_, by omega⟩
          · rcases (show bo = 0 ∨ bo = 1 ∨ bo = 2 by omega) with rfl | rfl | rfl
            · exact Or.inl rfl
            · exact Or.inr (Or.inl rfl)
            · exact Or.inr (Or.inr rfl)
          · show S.2.1 4 x = nI 0
            rw [e, hz]; rfl
        · rw [if_neg e, if_neg e, if_neg e]; exact Ic.2.2.1 x (by omega)
      · rw [hnC] at hx hy
        rw [hkN, hkN] at hk'
        rw [eN, eN] at hn'
        have key : ∀ z, z < nC S → kN S z = kd → S.2.2 z = name → False := fun z hz hkz hnz => by
          have := fnd_none hnone z (Nat.zero_le _) (by omega)
          simp only [byP, Bool.and_eq_false_iff, decide_eq_false_iff_not] at this
          rcases this with w | w
          · exact w (by rw [(Ic.2.2.1 z hz).1, hkz])
          · exact w hnz
        by_cases ex : x = nC S
        · by_cases ey : y = nC S
          · rw [ex, ey]
          · rw [if_pos ex, if_neg ey] at hk' hn'
            exact absurd (key y (by omega) hk'.symm hn'.symm) (fun z => z)
        · by_cases ey : y = nC S
          · rw [if_neg ex, if_pos ey] at hk' hn'
            exact absurd (key x (by omega) hk' hn') (fun z => z)
          · rw [if_neg ex, if_neg ey] at hk' hn'
            exact Ic.2.2.2 x y (by omega) (by omega) hk' hn'
      · rw [hnC] at hx
        rw [hkN]
        have hmb : ∀ b', mb (cnS S kd name (nI bo)) b' = if b' = 3 * kd then mb S (3 * kd) + 1 else mb S b' := fun b' => ap_mb (S := coS S (nI kd) name (nI bo)) (show mb S (3 * kd) < 60 by omega)
        have hbc : ∀ b' i, i < 60 → bc (cnS S kd name (nI bo)) b' i = if b' = 3 * kd ∧ i = mb S (3 * kd) then nC S else bc S b' i := fun b' i hi => ap_bc (S := coS S (nI kd) name (nI bo)) (show mb S (3 * kd) < 60 by omega) hi (by omega)
        by_cases e : x = nC S
        · rw [if_pos e]
          refine ⟨mb S (3 * kd), ?_, ?_⟩
          · rw [hmb, if_pos rfl]; omega
          · rw [hbc _ _ (by omega), if_pos ⟨rfl, rfl⟩, e]
        · rw [if_neg e]
          obtain ⟨-, h6, j, hj, ej⟩ := hho x (by omega)
          have hm2 := (Ib (3 * kN S x) (by omega)).2.1
          refine ⟨j, ?_, ?_⟩
          · rw [hmb]
            split
            · rename_i z; rw [z] at hj; omega
            · exact hj
          · rw [hbc _ _ (by omega), if_neg (fun z => by rw [z.1] at hj; have := z.2; omega)]; exact ej
      · rw [hnC] at h1
        exact Iz x (by omega) h2
  · exact I
