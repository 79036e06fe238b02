/-! ===== making records in the class ===== -/
def MK (S : St) (t s r : Nat) : Prop := Inv S t ∧ s < 6 ∧ nD S = r ∧ S.2.1 12 r = nI s ∧ S.2.1 13 r = S.2.1 16 s
theorem MK.pn {S : St} {t s r : Nat} (h : MK S t s r) : shN S r = s ∧ pN S r = pmN S s ∧ pmN S s ≤ 5 ∧ S.2.1 13 r = nI (pN S r) ∧ S.2.1 16 s = nI (pmN S s) := by
  obtain ⟨I, hs, -, h12, h13⟩ := h
  obtain ⟨hp, hp5, -⟩ := I.2.2.2.2.1 s hs
  have e2 : pN S r = pmN S s := by unfold pN pmN; rw [h13]
  refine ⟨by unfold shN; rw [h12, nI_clamp (by omega)], e2, hp5, ?_, hp⟩
  rw [e2, h13]; exact hp
theorem MK.agr {S S' : St} {t s r : Nat} (h : MK S t s r) (g : Agr S S') (e12 : S'.2.1 12 = S.2.1 12) (e13 : S'.2.1 13 = S.2.1 13) : MK S' t s r := by
  obtain ⟨I, hs, hr, h12, h13⟩ := h
  refine ⟨I.agr g, hs, ?_, by rw [e12]; exact h12, ?_⟩
  · unfold nD at hr ⊢; rw [g.2.2.1]; exact hr
  · rw [e13, g.2.2.2.2.1 16 (by decide) (by decide) (by decide) (by decide) (by decide) (by decide) (by decide) (by decide) (by decide)]; exact h13
theorem tk_1 {S : St} {s p r : Nat} : (tkF S s p r).2.1 = S.1 := by
  unfold tkF
  split
  · rfl
  · split
    · rfl
    · split
      · rfl
      · split
        · rfl
        · split <;> rfl
theorem tk_n {S : St} {s p r : Nat} : (tkF S s p r).2.2.2 = S.2.2 := by
  unfold tkF
  split
  · rfl
  · split
    · rfl
    · split
      · rfl
      · split
        · rfl
        · split <;> rfl
theorem tk_o {S : St} {s p r j : Nat} (h14 : j ≠ 14) (h27 : j ≠ 27) : (tkF S s p r).2.2.1 j = S.2.1 j := by
  have hv : ∀ v, (vaS S r p v).2.1 j = S.2.1 j := fun v => by funext x; exact u2_x h14
  unfold tkF
  split
  · exact hv _
  · split
    · exact hv _
    · split
      · exact hv _
      · split
        · exact hv _
        · split
          · funext x
            show u2 (vaS S r p (gvT S p)).2.1 27 _ _ j x = _
            rw [u2_x h27, hv]
          · exact hv _
theorem tk_25 {S : St} {s p r : Nat} {o : Int32} : tkF (u1 S.1 25 o, S.2) s p r = ((tkF S s p r).1, (u1 S.1 25 o, (tkF S s p r).2.2)) := by
  unfold tkF
  show (if S.2.1 17 (5 * s + p) = 0 then _ else if famF S (gvT S p) = 0 then _ else if casB (S.2.1 17 (5 * s + p)) (famF S (gvT S p)) = false then _ else if forB S (S.2.1 17 (5 * s + p)) (S.2.1 18 (5 * s + p)) (gvT S p) = true then _ else if S.2.1 17 (5 * s + p) < 3 then _ else _) = _
  split
  · rfl
  · split
    · rfl
    · split
      · rfl
      · split
        · rfl
        · split <;> rfl
theorem tk_w {S : St} {s p r : Nat} : (tkF S s p r).1 = 0 ∨ (tkF S s p r).1 = 1 ∨ (tkF S s p r).1 = 2 := by
  unfold tkF
  split
  · cases inB (S.2.1 23 p) 0 (S.2.1 18 (5 * s + p))
    · exact Or.inr (Or.inr rfl)
    · exact Or.inl rfl
  · split
    · exact Or.inl rfl
    · split
      · exact Or.inr (Or.inl rfl)
      · split
        · exact Or.inr (Or.inr rfl)
        · split <;> exact Or.inl rfl
theorem tk_f {S : St} {s p r : Nat} (h : ¬ (tkF S s p r).1 = 0) : ∃ v, (tkF S s p r).2 = vaS S r p v := by
  unfold tkF at h ⊢
  split
  · exact ⟨_, rfl⟩
  · rename_i h1
    rw [if_neg h1] at h
    split
    · exact ⟨_, rfl⟩
    · rename_i h2
      rw [if_neg h2] at h
      split
      · exact ⟨_, rfl⟩
      · rename_i h3
        rw [if_neg h3] at h
        split
        · exact ⟨_, rfl⟩
        · rename_i h4
          rw [if_neg h4] at h
          split
          · rename_i h5
            rw [if_pos h5] at h; exact absurd rfl h
          · exact ⟨_, rfl⟩
theorem MK.tk {S : St} {t s r p : Nat} (h : MK S t s r) (hp : p < 5) : MK (tkF S s p r).2 t s r := by
  obtain ⟨I, hs, hr, h12, h13⟩ := h
  subst hr
  exact MK.agr ⟨I, hs, rfl, h12, h13⟩ (tk_agr hp) (tk_o (by decide) (by decide)) (tk_o (by decide) (by decide))
def fil (s r : Nat) : Nat → Nat → St → Int32 × St
  | 0, _, S => (0, S)
  | k + 1, p, S => if (tkF S s p r).1 = 0 then fil s r k (p + 1) (tkF S s p r).2 else ((tkF S s p r).1, (u1 (tkF S s p r).2.1 26 (nI p), (tkF S s p r).2.2))
def chk (s r : Nat) : Nat → Nat → St → Int32 × St
  | 0, _, S => (0, S)
  | k + 1, c, S => if ckA S s r c = 0 then chk s r k (c + 1) S else (ckA S s r c, (u1 S.1 26 (nI (10 + c)), S.2))
theorem u1_u1 {α : Type} {f : Nat → α} {k : Nat} {v w : α} : u1 (u1 f k v) k w = u1 f k w := by
  funext a
  rw [u1_e, u1_e, u1_e]
  by_cases h : a = k
  · rw [if_pos h, if_pos h]
  · rw [if_neg h, if_neg h, if_neg h]
theorem u1_id {α : Type} {f : Nat → α} {k : Nat} {v : α} (h : f k = v) : u1 f k v = f := by
  funext a
  rw [u1_e]
  by_cases e : a = k
  · rw [if_pos e, e, h]
  · rw [if_neg e]
theorem mk1_stop {s r : Nat} {S : St} (h : ¬ S.1 25 = 0) : ∀ k p, mk1 s r k p S = S := by
  intro k p
  cases k with
  | zero => rfl
  | succ k => rw [mk1, if_neg h]
theorem mk2_stop {s r : Nat} {S : St} (h : ¬ S.1 25 = 0) : ∀ k p, mk2 s r k p S = S := by
  intro k p
  cases k with
  | zero => rfl
  | succ k => rw [mk2, if_neg h]
theorem wy_0 {S : St} {x : Nat × Nat → Int32} {w : Int32} {T : St} {i : Nat} (h1 : T.1 = S.1) (h25 : S.1 25 = 0) (h26 : S.1 26 = -3) (hw : w = 0) : wyS (w, T) i = T := by
  subst hw
  unfold wyS
  show (u1 (u1 T.1 25 0) 26 (if (0 : Int32) < 0 then nI i else -3), T.2) = T
  rw [if_neg (by decide), u1_id (f := T.1) (by rw [h1]; exact h25), u1_id (by rw [h1]; exact h26)]
theorem mk1_fil {s r : Nat} : ∀ k p S o, S.1 25 = 0 → S.1 26 = -3 → mk1 s r k p S = (u1 (fil s r k p (u1 S.1 25 o, S.2)).2.1 25 (fil s r k p (u1 S.1 25 o, S.2)).1, (fil s r k p (u1 S.1 25 o, S.2)).2.2) := by
  intro k
  induction k with
  | zero =>
    intro p S o h25 h26
    show S = (u1 (u1 S.1 25 o) 25 0, S.2)
    rw [u1_u1, u1_id h25]
  | succ k ih =>
    intro p S o h25 h26
    rw [mk1, if_pos h25, fil, tk_25]
    by_cases hw : (tkF S s p r).1 = 0
    · rw [if_pos hw]
      have e : wyS (tkF S s p r) p = (S.1, (tkF S s p r).2.2) := by
        have := wy_0 (S := S) (x := fun _ => 0) (T := (tkF S s p r).2) (i := p) tk_1 h25 h26 hw
        rw [← tk_1 (S := S) (s := s) (p := p) (r := r)]
        exact this
      rw [e]
      exact ih (p + 1) (S.1, (tkF S s p r).2.2) o h25 h26
    · rw [if_neg hw]
      have h0 : (0 : Int32) < (tkF S s p r).1 := by
        rcases tk_w (S := S) (s := s) (p := p) (r := r) with z | z | z
        · exact absurd z hw
        · rw [z]; decide
        · rw [z]; decide
      have e : wyS (tkF S s p r) p = (u1 (u1 S.1 25 (tkF S s p r).1) 26 (nI p), (tkF S s p r).2.2) := by
        unfold wyS
        rw [if_pos h0, tk_1]
      rw [e, mk1_stop (show ¬ u1 (u1 S.1 25 (tkF S s p r).1) 26 (nI p) 25 = 0 from hw)]
      show (u1 (u1 S.1 25 (tkF S s p r).1) 26 (nI p), (tkF S s p r).2.2) = (u1 (u1 (u1 S.1 25 o) 26 (nI p)) 25 (tkF S s p r).1, (tkF S s p r).2.2)
      rw [u1_comm (k := 26) (k' := 25) (by decide), u1_u1]
theorem ck_w {S : St} {kd a b : Int32} : ckF S kd a b = 0 ∨ 0 < ckF S kd a b := by
  unfold ckF
  repeat' split
  all_goals first | exact Or.inl rfl | exact Or.inr (by decide)
theorem mk2_chk {s r : Nat} : ∀ k c S o, S.1 25 = 0 → S.1 26 = -3 → mk2 s r k c S = (u1 (chk s r k c (u1 S.1 25 o, S.2)).2.1 25 (chk s r k c (u1 S.1 25 o, S.2)).1, (chk s r k c (u1 S.1 25 o, S.2)).2.2) := by
  intro k
  induction k with
  | zero =>
    intro p S o h25 h26
    show S = (u1 (u1 S.1 25 o) 25 0, S.2)
    rw [u1_u1, u1_id h25]
  | succ k ih =>
    intro c S o h25 h26
    have eA : ckA (u1 S.1 25 o, S.2) s r c = ckA S s r c := rfl
    rw [mk2, if_pos h25, chk, eA]
    by_cases hw : ckA S s r c = 0
    · rw [if_pos hw, wy_0 (S := S) (x := fun _ => 0) (T := S) rfl h25 h26 hw]
      exact ih (c + 1) S o h25 h26
    · rw [if_neg hw]
      have h0 : (0 : Int32) < ckA S s r c := (ck_w (S := S)).resolve_left hw
      have e : wyS (ckA S s r c, S) (10 + c) = (u1 (u1 S.1 25 (ckA S s r c)) 26 (nI (10 + c)), S.2) := by
        unfold wyS
        rw [if_pos h0]
      rw [e, mk2_stop (show ¬ u1 (u1 S.1 25 (ckA S s r c)) 26 (nI (10 + c)) 25 = 0 from hw)]
      show (u1 (u1 S.1 25 (ckA S s r c)) 26 (nI (10 + c)), S.2) = (u1 (u1 (u1 S.1 25 o) 26 (nI (10 + c))) 25 (ckA S s r c), S.2)
      rw [u1_comm (k := 26) (k' := 25) (by decide), u1_u1]
theorem fil_0 {s r : Nat} : ∀ k p S, (fil s r k p S).1 = 0 → (fil s r k p S).2.1 = S.1 := by
  intro k
  induction k with
  | zero => intro p S _; rfl
  | succ k ih =>
    intro p S h
    rw [fil] at h ⊢
    by_cases hw : (tkF S s p r).1 = 0
    · rw [if_pos hw] at h ⊢
      exact (ih _ _ h).trans tk_1
    · rw [if_neg hw] at h; exact absurd h hw
theorem mk1_im {t s r : Nat} : ∀ k p S, IM S t s r p → p + k ≤ pmN S s → IM (mk1 s r k p S) t s r (p + k) := by
  intro k
  induction k with
  | zero => intro p S h _; exact h
  | succ k ih =>
    intro p S h hp
    rw [mk1]
    by_cases h25 : S.1 25 = 0
    · rw [if_pos h25]
      have e : pmN (wyS (tkF S s p r) p) s = pmN S s := by
        unfold pmN
        show ((tkF S s p r).2.2.1 16 s).toNatClampNeg = _
        rw [tk_o (by decide) (by decide)]
      have := ih (p + 1) _ (h.tk h25 (by omega)) (by rw [e]; omega)
      rwa [show p + 1 + k = p + (k + 1) by omega] at this
    · rw [if_neg h25]
      exact ⟨h.1, h.2.1, h.2.2.1, fun z => absurd z h25⟩
theorem mk2_im {t s r n : Nat} : ∀ k c S, IM S t s r n → IM (mk2 s r k c S) t s r n := by
  intro k
  induction k with
  | zero => intro c S h; exact h
  | succ k ih =>
    intro c S h
    rw [mk2]
    by_cases h25 : S.1 25 = 0
    · rw [if_pos h25]
      exact ih (c + 1) _ (h.ck h25)
    · rw [if_neg h25]; exact h
theorem mk1_o {s r j : Nat} (h14 : j ≠ 14) (h27 : j ≠ 27) : ∀ k p S, (mk1 s r k p S).2.1 j = S.2.1 j := by
  intro k
  induction k with
  | zero => intro p S; rfl
  | succ k ih =>
    intro p S
    rw [mk1]
    by_cases h25 : S.1 25 = 0
    · rw [if_pos h25, ih]; exact tk_o h14 h27
    · rw [if_neg h25]
theorem mk2_2 {s r : Nat} : ∀ k c S, (mk2 s r k c S).2 = S.2 := by
  intro k
  induction k with
  | zero => intro p S; rfl
  | succ k ih =>
    intro p S
    rw [mk2]
    by_cases h25 : S.1 25 = 0
    · rw [if_pos h25, ih]; rfl
    · rw [if_neg h25]
/-! the new record's cells -/
def mkK (S : St) (s : Nat) : St := (S.1, u2 (u2 S.2.1 12 (nD S) (nI s)) 13 (nD S) (S.2.1 16 s), S.2.2)
theorem k_12 {S : St} {s i : Nat} : (mkK S s).2.1 12 i = if i = nD S then nI s else S.2.1 12 i := by
  show u2 (u2 S.2.1 12 (nD S) (nI s)) 13 (nD S) (S.2.1 16 s) 12 i = _
  rw [u2_x (by decide), u2_e]
  by_cases e : i = nD S
  · rw [if_pos ⟨rfl, e⟩, if_pos e]
  · rw [if_neg (fun z => e z.2), if_neg e]
theorem k_13 {S : St} {s i : Nat} : (mkK S s).2.1 13 i = if i = nD S then S.2.1 16 s else S.2.1 13 i := by
  show u2 (u2 S.2.1 12 (nD S) (nI s)) 13 (nD S) (S.2.1 16 s) 13 i = _
  rw [u2_e]
  by_cases e : i = nD S
  · rw [if_pos ⟨rfl, e⟩, if_pos e]
  · rw [if_neg (fun z => e z.2), if_neg e, u2_x (by decide)]
theorem k_sh {S : St} {s i : Nat} (hs : s < 6) : shN (mkK S s) i = if i = nD S then s else shN S i := by
  unfold shN
  rw [k_12]
  by_cases e : i = nD S
  · rw [if_pos e, if_pos e, nI_clamp (by omega)]
  · rw [if_neg e, if_neg e]
theorem k_p {S : St} {s i : Nat} : pN (mkK S s) i = if i = nD S then pmN S s else pN S i := by
  unfold pN pmN
  rw [k_13]
  by_cases e : i = nD S
  · rw [if_pos e, if_pos e]
  · rw [if_neg e, if_neg e]
theorem fl_lt {S : St} {f i p : Nat} (h : i < nD S) : flB S f i p = decide (p < pN S i) := by
  unfold flB; rw [decide_eq_true h]; rfl
theorem fl_ge {S : St} {f i p : Nat} (h : ¬ i < nD S) : flB S f i p = (decide (p < f) && decide (p < pN S i)) := by
  unfold flB; rw [decide_eq_false h]; rfl
theorem nu_f {S : St} {f f' i : Nat} (h : i < nD S) : nuF S f i = nuF S f' i := by
  funext p; unfold nuF; rw [fl_lt h, fl_lt h]
theorem th_f {ad : Nat → Nat → Nat} {S : St} {f f' i : Nat} (h : i < nD S) : thF ad S f i = thF ad S f' i := by
  funext p; unfold thF; rw [fl_lt h, fl_lt h]
theorem k_nu {S : St} {s i f f' : Nat} (hs : s < 6) (h : i < nD S) : nuF (mkK S s) f' i = nuF S f i := by
  have hn : ¬ i = nD S := by omega
  funext p
  unfold nuF
  rw [fl_lt h, fl_lt (S := mkK S s) h, k_p, if_neg hn, k_sh hs, if_neg hn]
  rfl
theorem k_th {ad : Nat → Nat → Nat} {S : St} {s i f f' : Nat} (hs : s < 6) (h : i < nD S) : thF ad (mkK S s) f' i = thF ad S f i := by
  have hn : ¬ i = nD S := by omega
  funext p
  unfold thF
  rw [fl_lt h, fl_lt (S := mkK S s) h, k_p, if_neg hn, k_sh hs, if_neg hn]
  rfl
theorem mk_cv {dA : Nat → ClassId} {ad : Nat → Nat → Nat} {Sm S : St} {t f s a b c : Nat} {z : va_E} (I : Inv S t) (hs : s < 6) : ∀ q i, dmW (mkK S s) 1 q i → dmU (dmU (dmU (dmW S 0) 8 (nD S)) 9 (nD S)) 10 (nD S) q i ∧ u2 (u2 (u2 ad 8 (nD S) a) 9 (nD S) b) 10 (nD S) c q i = u2 (u2 (u2 ad 8 (nD S) a) 9 (nD S) b) 10 (nD S) c q i ∧ u2 (u2 (u2 (u2 (cw dA ad Sm S f) 8 (nD S) z) 8 (nD S) (.inr (4, [.ref (ad 11 s), .int (nI (pmN S s)), .ref b, .ref c]))) 9 (nD S) (ins dA (pmN S s) (fun _ => 0))) 10 (nD S) (rfs dA 4 (pmN S s) (fun _ => none)) q i = cw dA (u2 (u2 (u2 ad 8 (nD S) a) 9 (nD S) b) 10 (nD S) c) Sm (mkK S s) 0 q i := by
  have hpm := (I.2.2.2.2.1 s hs).1
  have hag : ∀ k i, dmW S 0 k i → u2 (u2 (u2 ad 8 (nD S) a) 9 (nD S) b) 10 (nD S) c k i = ad k i := fun k i hd => by
    have hx : ∀ q, q = 8 ∨ q = 9 ∨ q = 10 → ¬ (k = q ∧ i = nD S) := by
      rintro q hq ⟨rfl, rfl⟩
      rcases hq with rfl | rfl | rfl <;> exact absurd (show nD S < nD S + 0 from hd) (by omega)
    rw [u2_n (hx 10 (by omega)), u2_n (hx 9 (by omega)), u2_n (hx 8 (by omega))]
  have hcw := cw_ad (dA := dA) (Sm := Sm) (f := f) (ad := ad) (ad' := u2 (u2 (u2 ad 8 (nD S) a) 9 (nD S) b) 10 (nD S) c) I (fun _ => rfl) (fun _ => rfl) (fun _ => rfl) (fun _ => rfl) hag
  have L : ∀ q i, dmW S 0 q i → dmU (dmU (dmU (dmW S 0) 8 (nD S)) 9 (nD S)) 10 (nD S) q i := fun _ _ h => Or.inl (Or.inl (Or.inl h))
  refine cw_cases (S := mkK S s) (τ := 1) (fun i hi => ⟨L 0 i hi, rfl, hcw 0 i hi⟩) (fun i hi => ⟨L 1 i hi, rfl, hcw 1 i hi⟩) (fun i hi => ⟨L 2 i hi, rfl, hcw 2 i hi⟩) (fun i hi => ⟨L 3 i hi, rfl, hcw 3 i hi⟩) (fun i hi => ⟨L 4 i hi, rfl, hcw 4 i hi⟩) (fun i hi => ⟨L 5 i hi, rfl, hcw 5 i hi⟩) (fun i hi => ⟨L 6 i hi, rfl, hcw 6 i hi⟩) (fun i hi => ⟨L 7 i hi, rfl, hcw 7 i hi⟩) ?_ ?_ ?_ (fun i hi => ⟨L 11 i hi, rfl, hcw 11 i hi⟩) (fun i hi => ⟨L 12 i hi, rfl, hcw 12 i hi⟩) (fun i hi => ⟨L 13 i hi, rfl, hcw 13 i hi⟩) (fun i hi => ⟨L 14 i hi, rfl, hcw 14 i hi⟩) (fun i hi => ⟨L 15 i hi, rfl, hcw 15 i hi⟩) (fun i hi => ⟨L 16 i hi, rfl, hcw 16 i hi⟩) (fun i hi => ⟨L 17 i hi, rfl, hcw 17 i hi⟩)
  · intro i hi
    have hi' : i < nD S + 1 := hi
    by_cases e : i = nD S
    · refine ⟨Or.inl (Or.inl (Or.inr ⟨rfl, e⟩)), rfl, ?_⟩
      rw [cw_8, k_sh hs, k_13, if_pos e, if_pos e, e, u2_x (by decide), u2_x (by decide), u2_s, hpm, u2_s, u2_x (k' := 9) (by decide), u2_s]
      rfl
    · have hl : i < nD S + 0 := by omega
      refine ⟨L 8 i hl, rfl, ?_⟩
      rw [cw_8, k_sh hs, k_13, if_neg e, if_neg e, u2_x (by decide), u2_x (by decide), u2_n (fun z => e z.2), u2_n (fun z => e z.2)]
      exact hcw 8 i hl
  · intro i hi
    have hi' : i < nD S + 1 := hi
    by_cases e : i = nD S
    · refine ⟨Or.inl (Or.inr ⟨rfl, e⟩), rfl, ?_⟩
      rw [cw_9, k_p, if_pos e, e, u2_x (by decide), u2_s, show nuF (mkK S s) 0 (nD S) = fun _ => 0 from ?_]
      funext p
      unfold nuF
      rw [fl_ge (show ¬ nD S < nD (mkK S s) from Nat.lt_irrefl _), decide_eq_false (by omega)]
      rfl
    · have hl : i < nD S + 0 := by omega
      refine ⟨L 9 i hl, rfl, ?_⟩
      rw [cw_9, k_p, if_neg e, k_nu (f := f) hs hl, u2_x (by decide), u2_n (fun z => e z.2), u2_x (by decide), u2_x (by decide)]
      exact hcw 9 i hl
  · intro i hi
    have hi' : i < nD S + 1 := hi
    by_cases e : i = nD S
    · refine ⟨Or.inr ⟨rfl, e⟩, rfl, ?_⟩
      rw [cw_10, k_p, if_pos e, e, u2_s, show thF (u2 (u2 (u2 ad 8 (nD S) a) 9 (nD S) b) 10 (nD S) c) (mkK S s) 0 (nD S) = fun _ => none from ?_]
      funext p
      unfold thF
      rw [fl_ge (show ¬ nD S < nD (mkK S s) from Nat.lt_irrefl _), decide_eq_false (by omega)]
      rfl
    · have hl : i < nD S + 0 := by omega
      refine ⟨L 10 i hl, rfl, ?_⟩
      rw [cw_10, k_p, if_neg e, k_th (f := f) hs hl, u2_n (fun z => e z.2), u2_x (by decide), u2_x (by decide), u2_x (by decide)]
      exact hcw 10 i hl
/-! a PART's value into the record -/
theorem va_14 {S : St} {r p i q : Nat} {v : Int32} (hp : p < 5) (hq : q < 5) : (vaS S r p v).2.1 14 (5 * i + q) = if i = r ∧ q = p then v else S.2.1 14 (5 * i + q) := by
  show u2 S.2.1 14 (5 * r + p) v 14 (5 * i + q) = _
  rw [u2_e]
  by_cases e : i = r ∧ q = p
  · rw [if_pos e, if_pos ⟨rfl, by rw [e.1, e.2]⟩]
  · rw [if_neg e, if_neg (fun z => e (by have := z.2; omega))]
theorem va_14n {S : St} {r p i q : Nat} {v : Int32} (hp : p < 5) (hq : q < 5) (h : ¬ (i = r ∧ q = p)) : (vaS S r p v).2.1 14 (5 * i + q) = S.2.1 14 (5 * i + q) := (va_14 hp hq).trans (if_neg h)
theorem va_14s {S : St} {r p : Nat} {v : Int32} (hp : p < 5) : (vaS S r p v).2.1 14 (5 * r + p) = v := (va_14 hp hp).trans (if_pos ⟨rfl, rfl⟩)
theorem va_nu {S : St} {t r p i f f' : Nat} {v : Int32} (I : Inv S t) (hr : nD S = r) (hp : p < 5) (h : i < nD S) : nuF (vaS S r p v) f' i = nuF S f i := by
  funext q
  unfold nuF
  rw [fl_lt h, fl_lt (S := vaS S r p v) h]
  show (if (decide (q < pN S i) && decide (S.2.1 17 (5 * shN S i + q) = 0)) = true then (vaS S r p v).2.1 14 (5 * i + q) else 0) = _
  by_cases hq : q < pN S i
  · have hq5 : q < 5 := by
      obtain ⟨-, h6, -, hpi, -⟩ := I.2.2.2.2.2.1.2.2 i h
      have := (I.2.2.2.2.1 _ h6).2.1
      omega
    rw [va_14n hp hq5 (fun z => by have := z.1; omega)]
  · rw [decide_eq_false hq]; rfl
theorem va_th {ad : Nat → Nat → Nat} {S : St} {t r p i f f' : Nat} {v : Int32} (I : Inv S t) (hr : nD S = r) (hp : p < 5) (h : i < nD S) : thF ad (vaS S r p v) f' i = thF ad S f i := by
  funext q
  unfold thF
  rw [fl_lt h, fl_lt (S := vaS S r p v) h]
  show (if (decide (q < pN S i) && !decide (S.2.1 17 (5 * shN S i + q) = 0)) = true then tr ad ((vaS S r p v).2.1 14 (5 * i + q)) else none) = _
  by_cases hq : q < pN S i
  · have hq5 : q < 5 := by
      obtain ⟨-, h6, -, hpi, -⟩ := I.2.2.2.2.2.1.2.2 i h
      have := (I.2.2.2.2.1 _ h6).2.1
      omega
    rw [va_14n hp hq5 (fun z => by have := z.1; omega)]
  · rw [decide_eq_false hq, Bool.false_and, if_neg Bool.false_ne_true, if_neg Bool.false_ne_true]
theorem va_nuR {S : St} {t s r p : Nat} {v : Int32} (M : MK S t s r) (hp : p < pmN S s) (f' : Nat) (hf : f' = p + 1 ∨ f' = p) (q : Nat) : nuF (vaS S r p v) f' r q = if q = p then (if f' = p + 1 ∧ S.2.1 17 (5 * s + p) = 0 then v else 0) else nuF S p r q := by
  obtain ⟨e1, e2, h5, -, -⟩ := M.pn
  have hr := M.2.2.1
  unfold nuF
  rw [fl_ge (S := vaS S r p v) (show ¬ r < nD S by omega), fl_ge (show ¬ r < nD S by omega)]
  show (if (decide (q < f') && decide (q < pN S r) && decide (S.2.1 17 (5 * shN S r + q) = 0)) = true then (vaS S r p v).2.1 14 (5 * r + q) else 0) = _
  rw [e1, e2]
  by_cases hq : q = p
  · subst hq
    rw [if_pos rfl, decide_eq_true hp]
    rcases hf with rfl | rfl
    · rw [decide_eq_true (Nat.lt_succ_self _), va_14s (by omega)]
      by_cases hz : S.2.1 17 (5 * s + q) = 0
      · rw [decide_eq_true hz]; exact (if_pos ⟨rfl, hz⟩).symm
      · rw [decide_eq_false hz]; exact (if_neg (fun y => hz y.2)).symm
    · rw [decide_eq_false (Nat.lt_irrefl _)]; exact (if_neg (fun z => absurd z.1 (by omega))).symm
  · rw [if_neg hq]
    by_cases hl : q < pmN S s
    · rw [decide_eq_true hl, va_14n (by omega) (by omega) (fun z => hq z.2), show decide (q < f') = decide (q < p) from by congr 1; exact propext ⟨fun z => by omega, fun z => by omega⟩]
    · rw [decide_eq_false hl, Bool.and_false, Bool.and_false]; rfl
theorem va_thR {ad : Nat → Nat → Nat} {S : St} {t s r p : Nat} {v : Int32} (M : MK S t s r) (hp : p < pmN S s) (f' : Nat) (hf : f' = p + 1 ∨ f' = p) (q : Nat) : thF ad (vaS S r p v) f' r q = if q = p then (if f' = p + 1 ∧ ¬ S.2.1 17 (5 * s + p) = 0 then tr ad v else none) else thF ad S p r q := by
  obtain ⟨e1, e2, h5, -, -⟩ := M.pn
  have hr := M.2.2.1
  unfold thF
  rw [fl_ge (S := vaS S r p v) (show ¬ r < nD S by omega), fl_ge (show ¬ r < nD S by omega)]
  show (if (decide (q < f') && decide (q < pN S r) && !decide (S.2.1 17 (5 * shN S r + q) = 0)) = true then tr ad ((vaS S r p v).2.1 14 (5 * r + q)) else none) = _
  rw [e1, e2]
  by_cases hq : q = p
  · subst hq
    rw [if_pos rfl, decide_eq_true hp]
    rcases hf with rfl | rfl
    · rw [decide_eq_true (Nat.lt_succ_self _), va_14s (by omega)]
      by_cases hz : S.2.1 17 (5 * s + q) = 0
      · rw [decide_eq_true hz, Bool.not_true, Bool.and_false, if_neg Bool.false_ne_true, if_neg (show ¬ (q + 1 = q + 1 ∧ ¬ S.2.1 17 (5 * s + q) = 0) from fun y => y.2 hz)]
      · rw [decide_eq_false hz, Bool.not_false, Bool.and_true, Bool.and_true, if_pos rfl, if_pos (show q + 1 = q + 1 ∧ ¬ S.2.1 17 (5 * s + q) = 0 from ⟨rfl, hz⟩)]
    · rw [decide_eq_false (Nat.lt_irrefl _), Bool.false_and, Bool.false_and, if_neg Bool.false_ne_true, if_neg (fun z => absurd z.1 (by omega))]
  · rw [if_neg hq]
    by_cases hl : q < pmN S s
    · rw [decide_eq_true hl, va_14n (by omega) (by omega) (fun z => hq z.2), show decide (q < f') = decide (q < p) from by congr 1; exact propext ⟨fun z => by omega, fun z => by omega⟩]
    · rw [decide_eq_false hl, Bool.and_false, Bool.and_false, Bool.false_and, if_neg Bool.false_ne_true, if_neg Bool.false_ne_true]
theorem nu_0 {S : St} {t s r p : Nat} (M : MK S t s r) : nuF S p r p = 0 := by
  unfold nuF
  rw [fl_ge (show ¬ r < nD S by have := M.2.2.1; omega), decide_eq_false (Nat.lt_irrefl _)]; rfl
theorem th_0 {ad : Nat → Nat → Nat} {S : St} {t s r p : Nat} (M : MK S t s r) : thF ad S p r p = none := by
  unfold thF
  rw [fl_ge (show ¬ r < nD S by have := M.2.2.1; omega), decide_eq_false (Nat.lt_irrefl _)]; rfl
theorem va_cvN {dA : Nat → ClassId} {ad : Nat → Nat → Nat} {Sm S : St} {t s r p : Nat} {v : Int32} (M : MK S t s r) (hp : p < pmN S s) (hz : S.2.1 17 (5 * s + p) = 0) : ∀ k i, dmW (vaS S r p v) 1 k i → dmW S 1 k i ∧ ad k i = ad k i ∧ u2 (cw dA ad Sm S p) 9 r (ins dA (pN S r) (upd (nuF S p r) p v)) k i = cw dA ad Sm (vaS S r p v) (p + 1) k i := by
  have hp5 : p < 5 := by have := M.pn.2.2.1; omega
  refine cw_cases (S := vaS S r p v) (τ := 1) (fun i hi => ⟨hi, rfl, rfl⟩) (fun i hi => ⟨hi, rfl, rfl⟩) (fun i hi => ⟨hi, rfl, rfl⟩) (fun i hi => ⟨hi, rfl, rfl⟩) (fun i hi => ⟨hi, rfl, rfl⟩) (fun i hi => ⟨hi, rfl, rfl⟩) (fun i hi => ⟨hi, rfl, rfl⟩) (fun i hi => ⟨hi, rfl, rfl⟩) (fun i hi => ⟨hi, rfl, rfl⟩) ?_ ?_ (fun i hi => ⟨hi, rfl, rfl⟩) (fun i hi => ⟨hi, rfl, rfl⟩) (fun i hi => ⟨hi, rfl, rfl⟩) (fun i hi => ⟨hi, rfl, rfl⟩) (fun i hi => ⟨hi, rfl, rfl⟩) (fun i hi => ⟨hi, rfl, rfl⟩) (fun i hi => ⟨hi, rfl, rfl⟩)
  · refine fun i hi => ⟨hi, rfl, ?_⟩
    have hi' : i < nD S + 1 := hi
    rw [cw_9]
    by_cases e : i = r
    · subst e
      rw [u2_s, show nuF (vaS S i p v) (p + 1) i = upd (nuF S p i) p v from ?_]
      · rfl
      · funext q
        rw [va_nuR M hp (p + 1) (Or.inl rfl)]
        unfold upd
        by_cases hq : q = p
        · rw [if_pos hq, if_pos hq, if_pos ⟨rfl, hz⟩]
        · rw [if_neg hq, if_neg hq]
    · rw [u2_n (fun z => e z.2), va_nu (f := p) M.1 M.2.2.1 hp5 (by have := M.2.2.1; omega)]; rfl
  · refine fun i hi => ⟨hi, rfl, ?_⟩
    have hi' : i < nD S + 1 := hi
    rw [cw_10, u2_x (by decide)]
    by_cases e : i = r
    · subst e
      rw [show thF ad (vaS S i p v) (p + 1) i = thF ad S p i from ?_]
      · rfl
      · funext q
        rw [va_thR M hp (p + 1) (Or.inl rfl)]
        by_cases hq : q = p
        · rw [if_pos hq, if_neg (fun y => y.2 hz), hq, th_0 M]
        · rw [if_neg hq]
    · rw [va_th (f := p) M.1 M.2.2.1 hp5 (by have := M.2.2.1; omega)]; rfl
theorem va_cvT {dA : Nat → ClassId} {ad : Nat → Nat → Nat} {Sm S : St} {t s r p : Nat} {v : Int32} (M : MK S t s r) (hp : p < pmN S s) (hz : ¬ S.2.1 17 (5 * s + p) = 0) : ∀ k i, dmW (vaS S r p v) 1 k i → dmW S 1 k i ∧ ad k i = ad k i ∧ u2 (cw dA ad Sm S p) 10 r (rfs dA 4 (pN S r) (va_up (thF ad S p r) p (tr ad v))) k i = cw dA ad Sm (vaS S r p v) (p + 1) k i := by
  have hp5 : p < 5 := by have := M.pn.2.2.1; omega
  refine cw_cases (S := vaS S r p v) (τ := 1) (fun i hi => ⟨hi, rfl, rfl⟩) (fun i hi => ⟨hi, rfl, rfl⟩) (fun i hi => ⟨hi, rfl, rfl⟩) (fun i hi => ⟨hi, rfl, rfl⟩) (fun i hi => ⟨hi, rfl, rfl⟩) (fun i hi => ⟨hi, rfl, rfl⟩) (fun i hi => ⟨hi, rfl, rfl⟩) (fun i hi => ⟨hi, rfl, rfl⟩) (fun i hi => ⟨hi, rfl, rfl⟩) ?_ ?_ (fun i hi => ⟨hi, rfl, rfl⟩) (fun i hi => ⟨hi, rfl, rfl⟩) (fun i hi => ⟨hi, rfl, rfl⟩) (fun i hi => ⟨hi, rfl, rfl⟩) (fun i hi => ⟨hi, rfl, rfl⟩) (fun i hi => ⟨hi, rfl, rfl⟩) (fun i hi => ⟨hi, rfl, rfl⟩)
  · refine fun i hi => ⟨hi, rfl, ?_⟩
    have hi' : i < nD S + 1 := hi
    rw [cw_9, u2_x (by decide)]
    by_cases e : i = r
    · subst e
      rw [show nuF (vaS S i p v) (p + 1) i = nuF S p i from ?_]
      · rfl
      · funext q
        rw [va_nuR M hp (p + 1) (Or.inl rfl)]
        by_cases hq : q = p
        · rw [if_pos hq, if_neg (fun y => hz y.2), hq, nu_0 M]
        · rw [if_neg hq]
    · rw [va_nu (f := p) M.1 M.2.2.1 hp5 (by have := M.2.2.1; omega)]; rfl
  · refine fun i hi => ⟨hi, rfl, ?_⟩
    have hi' : i < nD S + 1 := hi
    rw [cw_10]
    by_cases e : i = r
    · subst e
      rw [u2_s, show thF ad (vaS S i p v) (p + 1) i = va_up (thF ad S p i) p (tr ad v) from ?_]
      · rfl
      · funext q
        rw [va_thR M hp (p + 1) (Or.inl rfl)]
        by_cases hq : q = p
        · rw [if_pos hq, if_pos ⟨rfl, hz⟩, hq, va_up_self]
        · rw [if_neg hq, va_up_ne _ _ hq]
    · rw [u2_n (fun z => e z.2), va_th (f := p) M.1 M.2.2.1 hp5 (by have := M.2.2.1; omega)]; rfl
/-- a PART that failed: what the other side wrote there is seen by nobody -/
theorem va_cvF {dA : Nat → ClassId} {ad : Nat → Nat → Nat} {Sm S : St} {t s r p : Nat} {v : Int32} (M : MK S t s r) (hp : p < pmN S s) : ∀ k i, dmW (vaS S r p v) 1 k i → dmW S 1 k i ∧ ad k i = ad k i ∧ cw dA ad Sm S p k i = cw dA ad Sm (vaS S r p v) p k i := by
  have hp5 : p < 5 := by have := M.pn.2.2.1; omega
  refine cw_cases (S := vaS S r p v) (τ := 1) (fun i hi => ⟨hi, rfl, rfl⟩) (fun i hi => ⟨hi, rfl, rfl⟩) (fun i hi => ⟨hi, rfl, rfl⟩) (fun i hi => ⟨hi, rfl, rfl⟩) (fun i hi => ⟨hi, rfl, rfl⟩) (fun i hi => ⟨hi, rfl, rfl⟩) (fun i hi => ⟨hi, rfl, rfl⟩) (fun i hi => ⟨hi, rfl, rfl⟩) (fun i hi => ⟨hi, rfl, rfl⟩) ?_ ?_ (fun i hi => ⟨hi, rfl, rfl⟩) (fun i hi => ⟨hi, rfl, rfl⟩) (fun i hi => ⟨hi, rfl, rfl⟩) (fun i hi => ⟨hi, rfl, rfl⟩) (fun i hi => ⟨hi, rfl, rfl⟩) (fun i hi => ⟨hi, rfl, rfl⟩) (fun i hi => ⟨hi, rfl, rfl⟩)
  · refine fun i hi => ⟨hi, rfl, ?_⟩
    have hi' : i < nD S + 1 := hi
    rw [cw_9, cw_9, show nuF (vaS S r p v) p i = nuF S p i from ?_]
    · rfl
    · by_cases e : i = r
      · subst e
        funext q
        rw [va_nuR M hp p (Or.inr rfl)]
        by_cases hq : q = p
        · rw [if_pos hq, if_neg (fun y => absurd y.1 (by omega)), hq, nu_0 M]
        · rw [if_neg hq]
      · exact va_nu M.1 M.2.2.1 hp5 (by have := M.2.2.1; omega)
  · refine fun i hi => ⟨hi, rfl, ?_⟩
    have hi' : i < nD S + 1 := hi
    rw [cw_10, cw_10, show thF ad (vaS S r p v) p i = thF ad S p i from ?_]
    · rfl
    · by_cases e : i = r
      · subst e
        funext q
        rw [va_thR M hp p (Or.inr rfl)]
        by_cases hq : q = p
        · rw [if_pos hq, if_neg (fun y => absurd y.1 (by omega)), hq, th_0 M]
        · rw [if_neg hq]
      · exact va_th M.1 M.2.2.1 hp5 (by have := M.2.2.1; omega)
/-- the record in the making is dropped -/
theorem dr_cv {dA : Nat → ClassId} {ad : Nat → Nat → Nat} {Sm S : St} {f f' : Nat} : ∀ k i, dmW S 0 k i → dmW S 1 k i ∧ ad k i = ad k i ∧ cw dA ad Sm S f k i = cw dA ad Sm S f' k i := by
  refine cw_cases (S := S) (τ := 0) (fun i hi => ⟨hi, rfl, rfl⟩) (fun i hi => ⟨hi, rfl, rfl⟩) (fun i hi => ⟨hi, rfl, rfl⟩) (fun i hi => ⟨hi, rfl, rfl⟩) (fun i hi => ⟨hi, rfl, rfl⟩) (fun i hi => ⟨hi, rfl, rfl⟩) (fun i hi => ⟨hi, rfl, rfl⟩) (fun i hi => ⟨hi, rfl, rfl⟩) (fun i hi => ⟨Nat.lt_succ_of_lt hi, rfl, rfl⟩) ?_ ?_ (fun i hi => ⟨hi, rfl, rfl⟩) (fun i hi => ⟨hi, rfl, rfl⟩) (fun i hi => ⟨hi, rfl, rfl⟩) (fun i hi => ⟨hi, rfl, rfl⟩) (fun i hi => ⟨hi, rfl, rfl⟩) (fun i hi => ⟨hi, rfl, rfl⟩) (fun i hi => ⟨hi, rfl, rfl⟩)
  · intro i hi
    refine ⟨Nat.lt_succ_of_lt hi, rfl, ?_⟩
    rw [cw_9, cw_9, nu_f (f := f) (f' := f') hi]
  · intro i hi
    refine ⟨Nat.lt_succ_of_lt hi, rfl, ?_⟩
    rw [cw_10, cw_10, th_f (f := f) (f' := f') hi]
section XM
variable {b0 : Nat} {D : va_G} {dA : Nat → ClassId} {y : MethodName} {cc : ByteArray} {nL : Nat} {ret : Option FieldType} {R : Room} {EX : Array Value → State → Prop} {QF : List Frame → Array Value → State → State → Prop} {pc n t : Nat} {lv : Nat → Option Value} {st : List Value} {ad : Nat → Nat → Nat} {cells slots : Nat} {Sm S : St} {f : Nat} {idx : Nat}
/-- the record is counted: it is one of the others from now on -/
theorem w_rec (f' : Nat) (hd : dc cc pc (.putfield idx) 3 n) (hg : FP y.cls idx 9 10 .int false) (hf : f = pN S (nD S)) (h11 : S.1 11 = nI (nD S)) (h5 : nD S ≤ 512) (kk : E b0 D dA y cc nL ret R EX QF n lv st (dmW (u1 S.1 11 (S.1 11 + 1), S.2) 0) ad (cw dA ad Sm (u1 S.1 11 (S.1 11 + 1), S.2) f') cells slots) : E b0 D dA y cc nL ret R EX QF pc lv (.int (S.1 11 + 1) :: .ref (ad 0 0) :: st) (dmW S 1) ad (cw dA ad Sm S f) cells slots := by
  subst hf
  have hn : nD (u1 S.1 11 (S.1 11 + 1), S.2) = nD S + 1 := by
    show min (S.1 11 + 1).toNatClampNeg 100000 = _
    rw [h11, show nI (nD S) + 1 = nI (nD S + 1) from inc1 _, nI_clamp (by omega)]
    omega
  refine x_put hd hg rfl (show dmW S 1 0 0 from rfl) cw_0 rfl rfl (Nat.le_of_ble_eq_true rfl) ?_
  refine e_conv ?_ kk
  have hl : ∀ i, i < nD (u1 S.1 11 (S.1 11 + 1), S.2) + 0 → i < nD S + 1 := fun i hi => by rw [hn] at hi; exact hi
  have hfl : ∀ i p, i < nD S + 1 → flB (u1 S.1 11 (S.1 11 + 1), S.2) f' i p = flB S (pN S (nD S)) i p := fun i p hi => by
    rw [fl_lt (show i < nD (u1 S.1 11 (S.1 11 + 1), S.2) by rw [hn]; exact hi)]
    show decide (p < pN S i) = _
    by_cases e : i < nD S
    · rw [fl_lt e]
    · rw [fl_ge e, show i = nD S by omega, Bool.and_self]
  refine cw_cases (S := (u1 S.1 11 (S.1 11 + 1), S.2)) (τ := 0) (fun i hi => by subst hi; exact ⟨rfl, rfl, rfl⟩) (fun i hi => ⟨hi, rfl, rfl⟩) (fun i hi => ⟨hi, rfl, rfl⟩) (fun i hi => ⟨hi, rfl, rfl⟩) (fun i hi => ⟨hi, rfl, rfl⟩) (fun i hi => ⟨hi, rfl, rfl⟩) (fun i hi => ⟨hi, rfl, rfl⟩) (fun i hi => ⟨hi, rfl, rfl⟩) (fun i hi => ⟨hl i hi, rfl, rfl⟩) ?_ ?_ (fun i hi => ⟨hi, rfl, rfl⟩) (fun i hi => ⟨hi, rfl, rfl⟩) (fun i hi => ⟨hi, rfl, rfl⟩) (fun i hi => ⟨hi, rfl, rfl⟩) (fun i hi => ⟨hi, rfl, rfl⟩) (fun i hi => ⟨hi, rfl, rfl⟩) (fun i hi => ⟨hi, rfl, rfl⟩)
  · refine fun i hi => ⟨hl i hi, rfl, ?_⟩
    rw [cw_9, u2_x (by decide), cw_9, show nuF (u1 S.1 11 (S.1 11 + 1), S.2) f' i = nuF S (pN S (nD S)) i from ?_]
    · rfl
    · funext p; unfold nuF; rw [hfl i p (hl i hi)]; rfl
  · refine fun i hi => ⟨hl i hi, rfl, ?_⟩
    rw [cw_10, u2_x (by decide), cw_10, show thF ad (u1 S.1 11 (S.1 11 + 1), S.2) f' i = thF ad S (pN S (nD S)) i from ?_]
    · rfl
    · funext p; unfold thF; rw [hfl i p (hl i hi)]; rfl
theorem w_nu {x v : Int32} {s r p : Nat} (M : MK S t s r) (hp : p < pmN S s) (hz : S.2.1 17 (5 * s + p) = 0) (hd : dc cc pc .iastore 1 n) (hx : x = nI p) (kk : E b0 D dA y cc nL ret R EX QF n lv st (dmW (vaS S r p v) 1) ad (cw dA ad Sm (vaS S r p v) (p + 1)) cells slots) : E b0 D dA y cc nL ret R EX QF pc lv (.int v :: .int x :: .ref (ad 9 r) :: st) (dmW S 1) ad (cw dA ad Sm S p) cells slots := by
  obtain ⟨-, e2, h5, -, -⟩ := M.pn
  refine x_ist p hd rfl (show dmW S 1 9 r from by show r < nD S + 1; have := M.2.2.1; omega) cw_9 hx (by omega) (by omega) ?_
  exact e_conv (va_cvN M hp hz) kk
theorem w_th {x v : Int32} {s r p : Nat} (M : MK S t s r) (hv : okT S v) (hp : p < pmN S s) (hz : ¬ S.2.1 17 (5 * s + p) = 0) (hd : dc cc pc .aastore 1 n) (hx : x = nI p) (kk : E b0 D dA y cc nL ret R EX QF n lv st (dmW (vaS S r p v) 1) ad (cw dA ad Sm (vaS S r p v) (p + 1)) cells slots) : E b0 D dA y cc nL ret R EX QF pc lv (va_rf (tr ad v) :: .int x :: .ref (ad 10 r) :: st) (dmW S 1) ad (cw dA ad Sm S p) cells slots := by
  obtain ⟨-, e2, h5, -, -⟩ := M.pn
  obtain ⟨hC, hR, hD⟩ := bd512 M.1
  have hk : dmW S 1 10 r := by show r < nD S + 1; have := M.2.2.1; omega
  have hcv := va_cvT (dA := dA) (ad := ad) (Sm := Sm) (v := v) M hp hz
  rcases hv with rfl | ⟨c, hc, rfl⟩ | ⟨q, hr, rfl⟩ | ⟨d, hd', rfl⟩
  · rw [tr_0] at hcv ⊢
    exact x_astN p hd rfl hk cw_10 rfl hx (by omega) (by omega) (e_conv hcv kk)
  · rw [tr_c (by omega)] at hcv ⊢
    exact x_ast p hd rfl hk cw_10 rfl hx (by omega) (by omega) rfl (show dmW S 1 4 c from hc) cw_4 (fa_t (by rcases cb_or (S.2.1 3 c) with z | z | z; exact Or.inl z; exact Or.inr (Or.inr (Or.inl z)); exact Or.inr (Or.inr (Or.inr (Or.inr z))))) (e_conv hcv kk)
  · rw [tr_r (by omega)] at hcv ⊢
    exact x_ast p hd rfl hk cw_10 rfl hx (by omega) (by omega) rfl (show dmW S 1 6 q from hr) cw_6 (fa_t (Or.inr (Or.inr (Or.inr (Or.inl rfl))))) (e_conv hcv kk)
  · rw [tr_d (by omega)] at hcv ⊢
    exact x_ast p hd rfl hk cw_10 rfl hx (by omega) (by omega) rfl (show dmW S 1 8 d from Nat.lt_succ_of_lt hd') cw_8 (fa_t (Or.inr (Or.inl rfl))) (e_conv hcv kk)
end XM
def iP_so : Nat → Nat → Bool
  | 1 => iP_Constant
  | 2 => iP_Twice
  | 3 => iP_Row
  | _ => iP_Made
theorem so_of {S : St} {t : Nat} {v : Int32} (I : Inv S t) (hv : okT S v) (hf : ¬ famF S v = 0) (so : Nat) (h1 : 1 ≤ so) (h4 : so ≤ 4) : isP (iP_so so) (tcl S v) = casB (nI so) (famF S v) := by
  rcases tcl_k I hv with ⟨-, e, h2⟩ | ⟨c, -, -, ⟨-, e, h2⟩ | ⟨-, e, h2⟩ | ⟨-, e, h2⟩⟩ | ⟨r, -, -, e, h2⟩ | ⟨d, -, -, e, h2⟩
  · exact absurd h2 hf
  all_goals (rw [e, h2]; rcases (show so = 1 ∨ so = 2 ∨ so = 3 ∨ so = 4 by omega) with rfl | rfl | rfl | rfl <;> decide +kernel)
