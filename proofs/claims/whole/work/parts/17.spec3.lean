/-! ===== making records ===== -/
def vaS (S : St) (r p : Nat) (v : Int32) : St := (S.1, u2 S.2.1 14 (5 * r + p) v, S.2.2)
def casB (sort f : Int32) : Bool := if sort = 1 then decide (f < 4) else if sort = 2 then (decide (f = 2) || decide (f = 3)) else if sort = 3 then decide (f = 4) else decide (f = 5)
def forB (S : St) (sort k v : Int32) : Bool := (decide (sort = 1) && !decide (S.2.1 1 (tN v) = k)) || (decide (sort = 4) && !decide (S.2.1 12 (rcN v) = k))
def gvT (S : St) (p : Nat) : Int32 := S.2.1 15 (tN (S.2.1 24 p))
def tkF (S : St) (s p r : Nat) : Int32 × St :=
  if S.2.1 17 (5 * s + p) = 0 then ((if inB (S.2.1 23 p) 0 (S.2.1 18 (5 * s + p)) = true then 0 else 2), vaS S r p (S.2.1 23 p))
  else if famF S (gvT S p) = 0 then (0, vaS S r p (gvT S p))
  else if casB (S.2.1 17 (5 * s + p)) (famF S (gvT S p)) = false then (1, vaS S r p (gvT S p))
  else if forB S (S.2.1 17 (5 * s + p)) (S.2.1 18 (5 * s + p)) (gvT S p) = true then (2, vaS S r p (gvT S p))
  else if S.2.1 17 (5 * s + p) < 3 then (0, stS (vaS S r p (gvT S p)) (tN (gvT S p))) else (0, vaS S r p (gvT S p))
def ckF (S : St) (kind a b : Int32) : Int32 :=
  if kind = 0 then (if a ≤ b then 0 else 2)
  else if kind = 1 then (if b = 0 then 5 else if a - a / b * b = 0 then 0 else 2)
  else if a = -1 then 3
  else if kind = 2 then (if S.2.1 9 (tN a - 100) ≤ b then 4 else if 0 < S.2.1 10 (12 * (tN a - 100) + tN b) then 0 else 2)
  else if kind = 3 then (if b ≤ S.2.1 9 (tN a - 100) then 0 else 2)
  else if kind = 4 then (if oI (fnd (orP S (3 * kN S (tN a)) a) (mb S (3 * kN S (tN a))) 0) < b then 0 else 2)
  else (if S.2.1 13 (rcN a) = 0 then 4 else if S.2.1 17 (5 * shN S (rcN a)) = 0 then (if S.2.1 14 (5 * rcN a) = b then 0 else 2) else 1)
def wyS (x : Int32 × St) (i : Nat) : St := (u1 (u1 x.2.1 25 x.1) 26 (if 0 < x.1 then nI i else -3), x.2.2)
def mk1 (s r : Nat) : Nat → Nat → St → St
  | 0, _, S => S
  | k + 1, p, S => if S.1 25 = 0 then mk1 s r k (p + 1) (wyS (tkF S s p r) p) else S
def ckA (S : St) (s r c : Nat) : Int32 := ckF S (S.2.1 20 (4 * s + c)) (S.2.1 14 (5 * r + tN (S.2.1 21 (4 * s + c)))) (S.2.1 14 (5 * r + tN (S.2.1 22 (4 * s + c))))
def mk2 (s r : Nat) : Nat → Nat → St → St
  | 0, _, S => S
  | k + 1, c, S => if S.1 25 = 0 then mk2 s r k (c + 1) (wyS (ckA S s r c, S) (10 + c)) else S
def mk0 (S : St) (s : Nat) : St := (u1 (u1 S.1 25 0) 26 (-3), u2 (u2 S.2.1 12 (nD S) (nI s)) 13 (nD S) (S.2.1 16 s), S.2.2)
def mk3 (S : St) (r pl : Nat) : St := if S.1 25 = 0 then (u1 (actS S).1 11 ((actS S).1 11 + 1), u2 S.2.1 15 pl (nI (100000 + r)), S.2.2) else actS S
def mkS (S : St) (s pl : Nat) : St := mk3 (mk2 s (nD S) (cmN S s) 0 (mk1 s (nD S) (pmN S s) 0 (mk0 S s))) (nD S) pl
def F_make (S : St) (s pl : Int32) : Int32 × St := if (inB s 0 5 && inB pl 0 9) = true then ((mkS S (tN s) (tN pl)).1 25, mkS S (tN s) (tN pl)) else (-1, S)
/-- what Inv speaks of is the same -/
def Agr (S S' : St) : Prop := S'.1 0 = S.1 0 ∧ S'.1 8 = S.1 8 ∧ S'.1 11 = S.1 11 ∧ S'.2.2 = S.2.2 ∧ (∀ j, j ≠ 10 → j ≠ 12 → j ≠ 13 → j ≠ 14 → j ≠ 23 → j ≠ 27 → j ≠ 31 → j ≠ 32 → j ≠ 33 → S'.2.1 j = S.2.1 j) ∧ ∀ d, d < nD S → S'.2.1 12 d = S.2.1 12 d ∧ S'.2.1 13 d = S.2.1 13 d ∧ ∀ p, p < 5 → S'.2.1 14 (5 * d + p) = S.2.1 14 (5 * d + p)
theorem Agr.rf (S : St) : Agr S S := ⟨rfl, rfl, rfl, rfl, fun _ _ _ _ _ _ _ _ _ _ => rfl, fun _ _ => ⟨rfl, rfl, fun _ _ => rfl⟩⟩
theorem Agr.tr {S S' S'' : St} (h : Agr S S') (g : Agr S' S'') : Agr S S'' := by
  obtain ⟨a1, a2, a3, a4, a5, a6⟩ := h
  obtain ⟨b1, b2, b3, b4, b5, b6⟩ := g
  have hn : nD S' = nD S := by unfold nD; rw [a3]
  refine ⟨b1.trans a1, b2.trans a2, b3.trans a3, b4.trans a4, fun j c1 c2 c3 c4 c5 c6 c7 c8 c9 => (b5 j c1 c2 c3 c4 c5 c6 c7 c8 c9).trans (a5 j c1 c2 c3 c4 c5 c6 c7 c8 c9), fun d hd => ?_⟩
  obtain ⟨p1, p2, p3⟩ := a6 d hd
  obtain ⟨q1, q2, q3⟩ := b6 d (by rw [hn]; exact hd)
  exact ⟨q1.trans p1, q2.trans p2, fun p hp => (q3 p hp).trans (p3 p hp)⟩
theorem Inv.agr {S S' : St} {t : Nat} (h : Agr S S') (I : Inv S t) : Inv S' t := by
  obtain ⟨a0, a8, a11, an, ae, ad⟩ := h
  have e1 := ae 1 (by decide) (by decide) (by decide) (by decide) (by decide) (by decide) (by decide) (by decide) (by decide)
  have e3 := ae 3 (by decide) (by decide) (by decide) (by decide) (by decide) (by decide) (by decide) (by decide) (by decide)
  have e4 := ae 4 (by decide) (by decide) (by decide) (by decide) (by decide) (by decide) (by decide) (by decide) (by decide)
  have e5 := ae 5 (by decide) (by decide) (by decide) (by decide) (by decide) (by decide) (by decide) (by decide) (by decide)
  have e6 := ae 6 (by decide) (by decide) (by decide) (by decide) (by decide) (by decide) (by decide) (by decide) (by decide)
  have e7 := ae 7 (by decide) (by decide) (by decide) (by decide) (by decide) (by decide) (by decide) (by decide) (by decide)
  have e9 := ae 9 (by decide) (by decide) (by decide) (by decide) (by decide) (by decide) (by decide) (by decide) (by decide)
  have e15 := ae 15 (by decide) (by decide) (by decide) (by decide) (by decide) (by decide) (by decide) (by decide) (by decide)
  have e16 := ae 16 (by decide) (by decide) (by decide) (by decide) (by decide) (by decide) (by decide) (by decide) (by decide)
  have e17 := ae 17 (by decide) (by decide) (by decide) (by decide) (by decide) (by decide) (by decide) (by decide) (by decide)
  have e19 := ae 19 (by decide) (by decide) (by decide) (by decide) (by decide) (by decide) (by decide) (by decide) (by decide)
  have e20 := ae 20 (by decide) (by decide) (by decide) (by decide) (by decide) (by decide) (by decide) (by decide) (by decide)
  have e21 := ae 21 (by decide) (by decide) (by decide) (by decide) (by decide) (by decide) (by decide) (by decide) (by decide)
  have e22 := ae 22 (by decide) (by decide) (by decide) (by decide) (by decide) (by decide) (by decide) (by decide) (by decide)
  have e24 := ae 24 (by decide) (by decide) (by decide) (by decide) (by decide) (by decide) (by decide) (by decide) (by decide)
  obtain ⟨Ic, Ib, Io, Ir, Is, Id, Ip, It, Iz⟩ := I
  refine ⟨?_, ?_, ?_, ?_, ?_, ?_, ?_, It, ?_⟩
  · unfold I_c nC kN wN at *; rw [a0, an, e1, e3, e4]; exact Ic
  · unfold I_b nC kN mb bc at *; rw [a0, e1, e6, e7]; exact Ib
  · unfold I_o nC kN mb bc at *; rw [a0, e1, e6, e7]; exact Io
  · unfold I_r nR sz at *; rw [a8, e9]; exact Ir
  · unfold I_s pmN cmN at *; rw [e16, e17, e19, e20, e21, e22]; exact Is
  · have hn : nD S' = nD S := by unfold nD; rw [a11]
    have hC : nC S' = nC S := by unfold nC; rw [a0]
    have hR : nR S' = nR S := by unfold nR; rw [a8]
    refine ⟨by rw [hn, a11]; exact Id.1, by rw [hn]; exact Id.2.1, fun d hd => ?_⟩
    rw [hn] at hd
    obtain ⟨g1, g2, g3⟩ := ad d hd
    obtain ⟨d1, d2, d3, d4, d5⟩ := Id.2.2 d hd
    have k1 : shN S' d = shN S d := by unfold shN; rw [g1]
    have k2 : pN S' d = pN S d := by unfold pN; rw [g2]
    have k3 : ∀ s, pmN S' s = pmN S s := fun s => by unfold pmN; rw [e16]
    have hp5 : pN S d ≤ 5 := Nat.le_trans d4 (Is _ d2).2.1
    rw [g1, g2, k1, k2, k3, e17]
    refine ⟨d1, d2, d3, d4, fun p hp => ?_⟩
    rw [g3 p (by omega)]
    rcases d5 p hp with z | z
    · exact Or.inl z
    · refine Or.inr ⟨z.1, ?_⟩
      unfold okV at *
      rw [hC, hR, hn]
      exact z.2
  · refine ⟨fun p hp => ?_, fun p hp => by rw [e24]; exact Ip.2 p hp⟩
    have := Ip.1 p hp
    unfold okT nC nR nD at *
    rw [a0, a8, a11, e15]
    exact this
  · unfold I_z nC at *; rw [a0, e4, e5]; exact Iz
theorem va_agr {S : St} {p : Nat} {v : Int32} (hp : p < 5) : Agr S (vaS S (nD S) p v) := by
  refine ⟨rfl, rfl, rfl, rfl, fun j _ _ _ h14 _ _ _ _ _ => ?_, fun d hd => ⟨rfl, rfl, fun q hq => ?_⟩⟩
  · funext x; exact u2_n (fun z => h14 z.1)
  · show u2 S.2.1 14 (5 * nD S + p) v 14 (5 * d + q) = _
    exact u2_n (fun z => by have := z.2; omega)
theorem st_agr {S : St} {c : Nat} : Agr S (stS S c) := by
  refine ⟨rfl, rfl, rfl, rfl, fun j _ _ _ _ _ h27 _ _ _ => ?_, fun d hd => ⟨rfl, rfl, fun q hq => rfl⟩⟩
  funext x; exact u2_n (fun z => h27 z.1)
theorem wy_agr {x : Int32 × St} {i : Nat} : Agr x.2 (wyS x i) := ⟨rfl, rfl, rfl, rfl, fun _ _ _ _ _ _ _ _ _ _ => rfl, fun _ _ => ⟨rfl, rfl, fun _ _ => rfl⟩⟩
theorem mk0_agr {S : St} {s : Nat} : Agr S (mk0 S s) := by
  refine ⟨rfl, rfl, rfl, rfl, fun j _ h12 h13 _ _ _ _ _ _ => ?_, fun d hd => ⟨?_, ?_, fun q hq => rfl⟩⟩
  · funext x
    show u2 (u2 _ _ _ _) _ _ _ _ _ = _
    rw [u2_n (fun z => h13 z.1), u2_n (fun z => h12 z.1)]
  · show u2 S.2.1 12 (nD S) (nI s) 12 d = _
    exact u2_n (fun z => by have := z.2; omega)
  · show u2 (u2 S.2.1 12 (nD S) (nI s)) 13 (nD S) (S.2.1 16 s) 13 d = _
    rw [u2_n (fun z => by have := z.2; omega)]; rfl
theorem tk_agr {S : St} {s p : Nat} (hp : p < 5) : Agr S (tkF S s p (nD S)).2 := by
  unfold tkF
  split
  · exact va_agr hp
  · split
    · exact va_agr hp
    · split
      · exact va_agr hp
      · split
        · exact va_agr hp
        · split
          · exact (va_agr hp).tr st_agr
          · exact va_agr hp
theorem cas_con {S : St} {so v : Int32} (hv : okT S v) (hR : nR S ≤ 512) (hC : nC S ≤ 60) (hb : ∀ c, c < nC S → S.2.1 1 c = nI (kN S c) ∧ kN S c < 6 ∧ (S.2.1 3 c = 0 ∨ S.2.1 3 c = 1 ∨ S.2.1 3 c = 2) ∧ S.2.1 4 c = nI (wN S c) ∧ wN S c ≤ 1000) (hf : ¬ famF S v = 0) (h : casB so (famF S v) = true) (hs : so = 1 ∨ so = 2) : ∃ c, c < nC S ∧ v = nI c := by
  rcases okT_fam hv hR hC with h1 | ⟨h1, h2, h3⟩ | ⟨h1, h2, h3, h4⟩ | ⟨h1, h2, h3, h4⟩
  · rw [famF, if_pos h1] at hf; exact absurd rfl hf
  · exact h3
  · rw [famF, if_neg h1, if_neg h2, if_pos h3] at h
    rcases hs with rfl | rfl <;> exact absurd h (by decide)
  · rw [famF, if_neg h1, if_neg h2, if_neg h3] at h
    rcases hs with rfl | rfl <;> exact absurd h (by decide)
theorem cas_rec {S : St} {so v : Int32} (hv : okT S v) (hR : nR S ≤ 512) (hC : nC S ≤ 60) (hb : ∀ c, c < nC S → S.2.1 1 c = nI (kN S c) ∧ kN S c < 6 ∧ (S.2.1 3 c = 0 ∨ S.2.1 3 c = 1 ∨ S.2.1 3 c = 2) ∧ S.2.1 4 c = nI (wN S c) ∧ wN S c ≤ 1000) (h : casB so (famF S v) = true) (hs : so = 4) : ∃ d, d < nD S ∧ v = nI (100000 + d) := by
  subst hs
  exact fam5 hv hR hC hb (by simpa [casB] using h)
/-- a PART of the record in the making holds what it may -/
def okP (S : St) (s r p : Nat) : Prop := (S.2.1 17 (5 * s + p) = 0 ∧ ∃ q, q < 2 ^ 31 ∧ S.2.1 14 (5 * r + p) = nI q) ∨ (S.2.1 17 (5 * s + p) ≠ 0 ∧ okV S (S.2.1 17 (5 * s + p)) (S.2.1 14 (5 * r + p)))
def IM (S : St) (t s r n : Nat) : Prop := Inv S t ∧ nD S = r ∧ s < 6 ∧ (S.1 25 = 0 → ∀ p, p < n → okP S s r p)
theorem okV_agr {S S' : St} (h : Agr S S') {so v : Int32} (g : okV S so v) : okV S' so v := by
  unfold okV nC nR nD at *
  rw [h.1, h.2.1, h.2.2.1]
  exact g
theorem tk_v {S : St} {s p r : Nat} : ∃ v, (tkF S s p r).2.2.1 14 = u2 S.2.1 14 (5 * r + p) v 14 ∧ v = (if S.2.1 17 (5 * s + p) = 0 then S.2.1 23 p else gvT S p) := by
  unfold tkF
  split
  · exact ⟨_, rfl, rfl⟩
  · split
    · exact ⟨_, rfl, rfl⟩
    · split
      · exact ⟨_, rfl, rfl⟩
      · split
        · exact ⟨_, rfl, rfl⟩
        · split
          · refine ⟨_, ?_, rfl⟩
            funext x
            rfl
          · exact ⟨_, rfl, rfl⟩
theorem tk_0 {S : St} {t s p r : Nat} (I : Inv S t) (hs : s < 6) (hp : p < pmN S s) (h : (tkF S s p r).1 = 0) : (S.2.1 17 (5 * s + p) = 0 ∧ ∃ q, q < 2 ^ 31 ∧ S.2.1 23 p = nI q) ∨ (S.2.1 17 (5 * s + p) ≠ 0 ∧ okV S (S.2.1 17 (5 * s + p)) (gvT S p)) := by
  have hR5 : nR S ≤ 512 := Nat.le_trans I.2.2.2.1.2.1 I.2.2.2.2.2.2.2.1
  obtain ⟨-, hpm5, -, -, hso, -⟩ := I.2.2.2.2.1 s hs
  unfold tkF at h
  split at h
  · rename_i hz
    refine Or.inl ⟨hz, ?_⟩
    have hb : inB (S.2.1 23 p) 0 (S.2.1 18 (5 * s + p)) = true := by
      cases hq : inB (S.2.1 23 p) 0 (S.2.1 18 (5 * s + p)) with
      | true => rfl
      | false => rw [hq] at h; exact absurd (show (2 : Int32) = 0 from h) (by decide)
    obtain ⟨j, hj, e⟩ := nI_of (Int32.not_lt.mpr (inB_iff.mp hb).1)
    exact ⟨j, hj, e⟩
  · rename_i hz
    refine Or.inr ⟨hz, ?_⟩
    obtain ⟨gq, hgq, hge⟩ := I.2.2.2.2.2.2.1.2 p (by omega)
    have hgt : gvT S p = S.2.1 15 gq := by unfold gvT; rw [hge, tN_n (by omega)]
    have hgo : okT S (gvT S p) := by rw [hgt]; exact I.2.2.2.2.2.2.1.1 gq hgq
    split at h
    · rename_i hf
      refine Or.inr (Or.inl ?_)
      rcases okT_fam hgo hR5 I.1.2.1 with h1 | ⟨h1, h2, c, hc, e⟩ | ⟨h1, h2, h3, h4⟩ | ⟨h1, h2, h3, h4⟩
      · exact h1
      · rw [famF, if_neg h2, if_pos h1, e, tN_n (by have := I.1.2.1; omega)] at hf
        rcases (I.1.2.2.1 c hc).2.2.1 with z | z | z <;> rw [z] at hf <;> exact absurd hf (by decide)
      · rw [famF, if_neg h1, if_neg h2, if_pos h3] at hf; exact absurd hf (by decide)
      · rw [famF, if_neg h1, if_neg h2, if_neg h3] at hf; exact absurd hf (by decide)
    · rename_i hf
      split at h
      · exact absurd (show (1 : Int32) = 0 from h) (by decide)
      · rename_i hc
        have hc' : casB (S.2.1 17 (5 * s + p)) (famF S (gvT S p)) = true := by
          cases hq : casB (S.2.1 17 (5 * s + p)) (famF S (gvT S p)) with
          | true => rfl
          | false => exact absurd hq hc
        rcases (hso p hp).resolve_left hz with z | z | z | z
        · exact Or.inr (Or.inr (Or.inl ⟨Or.inl z, cas_con hgo hR5 I.1.2.1 I.1.2.2.1 hf hc' (Or.inl z)⟩))
        · exact Or.inr (Or.inr (Or.inl ⟨Or.inr z, cas_con hgo hR5 I.1.2.1 I.1.2.2.1 hf hc' (Or.inr z)⟩))
        · refine Or.inr (Or.inr (Or.inr (Or.inl ⟨z, ?_⟩)))
          rw [z] at hc'
          exact fam4 hgo hR5 I.1.2.1 I.1.2.2.1 (by simpa [casB] using hc')
        · exact Or.inr (Or.inr (Or.inr (Or.inr ⟨z, cas_rec hgo hR5 I.1.2.1 I.1.2.2.1 hc' z⟩)))
theorem IM.tk {S : St} {t s r p : Nat} (h : IM S t s r p) (hw : S.1 25 = 0) (hp : p < pmN S s) : IM (wyS (tkF S s p r) p) t s r (p + 1) := by
  obtain ⟨I, rfl, hs, ho⟩ := h
  obtain ⟨-, hpm5, -, -, hso, -⟩ := I.2.2.2.2.1 s hs
  have g : Agr S (wyS (tkF S s p (nD S)) p) := (tk_agr (s := s) (show p < 5 by omega)).tr wy_agr
  have e17 : (wyS (tkF S s p (nD S)) p).2.1 17 = S.2.1 17 := g.2.2.2.2.1 17 (by decide) (by decide) (by decide) (by decide) (by decide) (by decide) (by decide) (by decide) (by decide)
  obtain ⟨v, e14, hv⟩ := tk_v (S := S) (s := s) (p := p) (r := nD S)
  have e14' : (wyS (tkF S s p (nD S)) p).2.1 14 = u2 S.2.1 14 (5 * nD S + p) v 14 := e14
  refine ⟨I.agr g, congrArg (fun x => min (Int32.toNatClampNeg x) 100000) g.2.2.1, hs, fun hw' q hq => ?_⟩
  have hw2 : (tkF S s p (nD S)).1 = 0 := hw'
  unfold okP
  rw [e17, e14']
  by_cases hqp : q = p
  · subst hqp
    rw [u2_s]
    rcases tk_0 I hs hp hw2 with ⟨z, y⟩ | ⟨z, y⟩
    · rw [if_pos z] at hv; rw [hv]; exact Or.inl ⟨z, y⟩
    · rw [if_neg z] at hv; rw [hv]; exact Or.inr ⟨z, okV_agr g y⟩
  · rw [u2_n (fun z => hqp (by have := z.2; omega))]
    rcases ho hw q (by omega) with z | ⟨z, y⟩
    · exact Or.inl z
    · exact Or.inr ⟨z, okV_agr g y⟩
theorem IM.ck {S : St} {t s r n i : Nat} {w : Int32} (h : IM S t s r n) (hw : S.1 25 = 0) : IM (wyS (w, S) i) t s r n := by
  obtain ⟨I, hr, hs, ho⟩ := h
  have g : Agr S (wyS (w, S) i) := wy_agr (x := (w, S))
  refine ⟨I.agr g, hr, hs, fun _ p hp => ?_⟩
  rcases ho hw p hp with z | ⟨z, y⟩
  · exact Or.inl z
  · exact Or.inr ⟨z, okV_agr g y⟩
theorem mk1_s {s r : Nat} : ∀ k p S, (mk1 s r k p S).2.1 16 = S.2.1 16 ∧ (mk1 s r k p S).2.1 19 = S.2.1 19 := by
  intro k
  induction k with
  | zero => intro p S; exact ⟨rfl, rfl⟩
  | succ k ih =>
    intro p S
    rw [mk1]
    split
    · obtain ⟨h1, h2⟩ := ih (p + 1) (wyS (tkF S s p r) p)
      refine ⟨h1.trans ?_, h2.trans ?_⟩
      · show (tkF S s p r).2.2.1 16 = _
        unfold tkF
        split
        · rfl
        · split
          · rfl
          · split
            · rfl
            · split
              · rfl
              · split <;> rfl
      · show (tkF S s p r).2.2.1 19 = _
        unfold tkF
        split
        · rfl
        · split
          · rfl
          · split
            · rfl
            · split
              · rfl
              · split <;> rfl
    · exact ⟨rfl, rfl⟩
theorem ck_k {S : St} {s r a : Nat} {kd : Int32} (h : okP S s r a) (hk : (kd = 0 ∧ S.2.1 17 (5 * s + a) = 0) ∨ (kd = 1 ∧ S.2.1 17 (5 * s + a) = 0) ∨ (kd = 2 ∧ S.2.1 17 (5 * s + a) = 3) ∨ (kd = 3 ∧ S.2.1 17 (5 * s + a) = 3) ∨ (kd = 4 ∧ (S.2.1 17 (5 * s + a) = 1 ∨ S.2.1 17 (5 * s + a) = 2)) ∨ (kd = 5 ∧ S.2.1 17 (5 * s + a) = 4)) : kd = 0 ∨ kd = 1 ∨ ((kd = 2 ∨ kd = 3) ∧ (S.2.1 14 (5 * r + a) = -1 ∨ ∃ r', r' < nR S ∧ S.2.1 14 (5 * r + a) = nI (100 + r'))) ∨ (kd = 4 ∧ (S.2.1 14 (5 * r + a) = -1 ∨ ∃ c, c < nC S ∧ S.2.1 14 (5 * r + a) = nI c)) ∨ (kd = 5 ∧ (S.2.1 14 (5 * r + a) = -1 ∨ ∃ d, d < nD S ∧ S.2.1 14 (5 * r + a) = nI (100000 + d))) := by
  have key : ∀ x : Int32, x ≠ 0 → S.2.1 17 (5 * s + a) = x → okV S x (S.2.1 14 (5 * r + a)) := by
    intro x hx e
    rcases h with z | z
    · exact absurd (z.1.symm.trans e) (Ne.symm hx)
    · rw [← e]; exact z.2
  have c3 : S.2.1 17 (5 * s + a) = 3 → (S.2.1 14 (5 * r + a) = -1 ∨ ∃ r', r' < nR S ∧ S.2.1 14 (5 * r + a) = nI (100 + r')) := fun e => by
    rcases key 3 (by decide) e with z | z | ⟨z, -⟩ | ⟨-, z⟩ | ⟨z, -⟩
    · exact absurd z (by decide)
    · exact Or.inl z
    · exact absurd z (by decide)
    · exact Or.inr z
    · exact absurd z (by decide)
  have c12 : (S.2.1 17 (5 * s + a) = 1 ∨ S.2.1 17 (5 * s + a) = 2) → (S.2.1 14 (5 * r + a) = -1 ∨ ∃ c, c < nC S ∧ S.2.1 14 (5 * r + a) = nI c) := fun e => by
    rcases e with e | e
    · rcases key 1 (by decide) e with z | z | ⟨-, z⟩ | ⟨z, -⟩ | ⟨z, -⟩
      · exact absurd z (by decide)
      · exact Or.inl z
      · exact Or.inr z
      · exact absurd z (by decide)
      · exact absurd z (by decide)
    · rcases key 2 (by decide) e with z | z | ⟨-, z⟩ | ⟨z, -⟩ | ⟨z, -⟩
      · exact absurd z (by decide)
      · exact Or.inl z
      · exact Or.inr z
      · exact absurd z (by decide)
      · exact absurd z (by decide)
  have c4 : S.2.1 17 (5 * s + a) = 4 → (S.2.1 14 (5 * r + a) = -1 ∨ ∃ d, d < nD S ∧ S.2.1 14 (5 * r + a) = nI (100000 + d)) := fun e => by
    rcases key 4 (by decide) e with z | z | ⟨z, -⟩ | ⟨z, -⟩ | ⟨-, z⟩
    · exact absurd z (by decide)
    · exact Or.inl z
    · exact absurd z (by decide)
    · exact absurd z (by decide)
    · exact Or.inr z
  rcases hk with ⟨z, -⟩ | ⟨z, -⟩ | ⟨z, e⟩ | ⟨z, e⟩ | ⟨z, e⟩ | ⟨z, e⟩
  · exact Or.inl z
  · exact Or.inr (Or.inl z)
  · exact Or.inr (Or.inr (Or.inl ⟨Or.inl z, c3 e⟩))
  · exact Or.inr (Or.inr (Or.inl ⟨Or.inr z, c3 e⟩))
  · exact Or.inr (Or.inr (Or.inr (Or.inl ⟨z, c12 e⟩)))
  · exact Or.inr (Or.inr (Or.inr (Or.inr ⟨z, c4 e⟩)))
