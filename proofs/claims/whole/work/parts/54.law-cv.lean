/-! ===== from the constructors' end to the start's picture; scratch rows ===== -/
theorem st_cv {dA : Nat → ClassId} {ad ad2 : Nat → Nat → Nat} {Z : va_E} (e1 : ∀ i, ad2 1 i = ad 1 i) (e3 : ∀ i, ad2 3 i = ad 3 i) (e12 : ∀ i, ad2 12 i = ad 12 i) (e13 : ∀ i, ad2 13 i = ad 13 i) (e14 : ∀ i, ad2 14 i = ad 14 i) : ∀ k i, dmW S0 0 k i → dm2 (dmU (dmI 18 6) 16 0) k i ∧ ad2 k i = ad2 k i ∧ u2 (u2 (ctM dA ad2 (u2 (cI dA ad 18 6 6) 16 0 Z) S0) 1 2 (rfs dA 3 18 (fun j => some (ad2 2 j)))) 1 7 (rfs dA 5 6 (fun j => some (ad2 11 j))) k i = cw dA ad2 S0 S0 0 k i := by
  have n0 : nC S0 = 0 := rfl
  have n1 : nR S0 = 0 := rfl
  have n2 : nD S0 = 0 := rfl
  have m0 : ∀ b, mb S0 b = 0 := fun b => rfl
  have c0 : ∀ b, cmN S0 b = 0 := fun b => rfl
  refine cw_cases (S := S0) (τ := 0) ?_ ?_ ?_ ?_ (fun i hi => absurd hi (by rw [n0]; omega)) (fun i hi => absurd hi (by rw [n0]; omega)) (fun i hi => absurd hi (by rw [n1]; omega)) (fun i hi => absurd hi (by rw [n1]; omega)) (fun i hi => absurd hi (by rw [n2]; omega)) (fun i hi => absurd hi (by rw [n2]; omega)) (fun i hi => absurd hi (by rw [n2]; omega)) ?_ ?_ ?_ ?_ (fun i hi => absurd hi.2 (by rw [c0]; omega)) ?_ ?_
  · intro i hi
    obtain rfl : i = 0 := hi
    refine ⟨Or.inl (Or.inl rfl), rfl, ?_⟩
    rw [cw_0, e1, e1, e1, e1, e1, e1, e1]
    rfl
  · intro i hi
    refine ⟨Or.inl (Or.inl hi), rfl, ?_⟩
    rcases hi with rfl | rfl | rfl | rfl | rfl | rfl | rfl
    · show rfs dA 2 60 (fun _ => none) = rfs dA 2 60 (coF ad2 S0)
      rw [show coF ad2 S0 = fun _ => none from funext fun j => if_neg (by rw [n0]; omega)]
    · rfl
    · rfl
    · show rfs dA 4 10 (fun _ => none) = rfs dA 4 10 (plF ad2 S0)
      rw [show plF ad2 S0 = fun _ => none from funext fun j => ?_]
      by_cases hj : j < 10
      · rw [pl_t hj, show S0.2.1 15 j = -1 from if_pos hj, tr_0]
      · exact if_neg hj
    · rfl
    · rfl
    · rfl
  · intro i hi
    refine ⟨Or.inl (Or.inl hi), rfl, ?_⟩
    rw [cw_2, e3]
    rfl
  · intro i hi
    refine ⟨Or.inl (Or.inl hi), rfl, ?_⟩
    show rfs dA 2 60 (fun _ => none) = rfs dA 2 60 (lnF ad2 S0 i)
    rw [show lnF ad2 S0 i = fun _ => none from funext fun j => if_neg (by rw [m0]; omega)]
  · intro i hi
    refine ⟨Or.inl (Or.inl hi), rfl, ?_⟩
    rw [cw_11, e12, e13, e14]
    rfl
  · intro i hi
    refine ⟨Or.inl (Or.inl hi), rfl, ?_⟩
    show ins dA 5 (fun _ => 0) = ins dA 5 (soF S0 i)
    rw [show soF S0 i = fun _ => 0 from funext fun j => by unfold soF; split <;> rfl]
  · intro i hi
    refine ⟨Or.inl (Or.inl hi), rfl, ?_⟩
    show ins dA 5 (fun _ => 0) = ins dA 5 (liF S0 i)
    rw [show liF S0 i = fun _ => 0 from funext fun j => by unfold liF; split <;> rfl]
  · intro i hi
    refine ⟨Or.inl (Or.inl hi), rfl, ?_⟩
    show rfs dA 6 4 (fun _ => none) = rfs dA 6 4 (ckR ad2 S0 i)
    rw [show ckR ad2 S0 i = fun _ => none from funext fun j => if_neg (by rw [c0]; omega)]
  · intro i hi
    obtain rfl : i = 0 := hi
    exact ⟨Or.inl (Or.inr ⟨rfl, rfl⟩), rfl, rfl⟩
  · intro i hi
    exact ⟨Or.inr ⟨rfl, hi⟩, rfl, rfl⟩
theorem sc_cv {dA : Nat → ClassId} {ad : Nat → Nat → Nat} {S S2 : St} {f : Nat} (h : Sc S S2) : ∀ k i, dmW S2 0 k i → dmW S 0 k i ∧ ad k i = ad k i ∧ cw dA ad S2 S f k i = cw dA ad S2 S2 f k i := by
  have a0 := h.1 0 (by decide)
  have a8 := h.1 8 (by decide)
  have a11 := h.1 11 (by decide)
  have hC : nC S2 = nC S := by unfold nC; rw [a0]
  have hR : nR S2 = nR S := by unfold nR; rw [a8]
  have hD : nD S2 = nD S := by unfold nD; rw [a11]
  have e := fun j x y z => h.2.1 j x y z
  have e1 := e 1 (by decide) (by decide) (by decide)
  have e3 := e 3 (by decide) (by decide) (by decide)
  have e4 := e 4 (by decide) (by decide) (by decide)
  have e5 := e 5 (by decide) (by decide) (by decide)
  have e6 := e 6 (by decide) (by decide) (by decide)
  have e7 := e 7 (by decide) (by decide) (by decide)
  have e9 := e 9 (by decide) (by decide) (by decide)
  have e10 := e 10 (by decide) (by decide) (by decide)
  have e12 := e 12 (by decide) (by decide) (by decide)
  have e13 := e 13 (by decide) (by decide) (by decide)
  have e14 := e 14 (by decide) (by decide) (by decide)
  have e15 := e 15 (by decide) (by decide) (by decide)
  have e16 := e 16 (by decide) (by decide) (by decide)
  have e17 := e 17 (by decide) (by decide) (by decide)
  have e18 := e 18 (by decide) (by decide) (by decide)
  have e19 := e 19 (by decide) (by decide) (by decide)
  have e20 := e 20 (by decide) (by decide) (by decide)
  have e21 := e 21 (by decide) (by decide) (by decide)
  have e22 := e 22 (by decide) (by decide) (by decide)
  have e23 := e 23 (by decide) (by decide) (by decide)
  have e24 := e 24 (by decide) (by decide) (by decide)
  have e27 := e 27 (by decide) (by decide) (by decide)
  have hk : ∀ c, kN S2 c = kN S c := fun c => by unfold kN; rw [e1]
  have hm : ∀ c, mb S2 c = mb S c := fun c => by unfold mb; rw [e6]
  have hb : ∀ b i, bc S2 b i = bc S b i := fun b i => by unfold bc; rw [e7]
  have hs : ∀ r, sz S2 r = sz S r := fun r => by unfold sz; rw [e9]
  have hsh : ∀ r, shN S2 r = shN S r := fun r => by unfold shN; rw [e12]
  have hp : ∀ r, pN S2 r = pN S r := fun r => by unfold pN; rw [e13]
  have hc : ∀ r, cmN S2 r = cmN S r := fun r => by unfold cmN; rw [e19]
  have hfl : ∀ i p, flB S2 f i p = flB S f i p := fun i p => by unfold flB; rw [hD, hp]
  refine cw_cases (S := S2) (τ := 0) ?_ ?_ ?_ ?_ ?_ ?_ ?_ ?_ ?_ ?_ ?_ ?_ ?_ ?_ ?_ ?_ (fun i hi => ⟨hi, rfl, rfl⟩) (fun i hi => ⟨hi, rfl, rfl⟩)
  · exact fun i hi => ⟨hi, rfl, by rw [cw_0, cw_0, a0, a11, h.1 28 (by decide), h.1 29 (by decide), h.1 25 (by decide), h.1 26 (by decide)]⟩
  · intro i hi
    refine ⟨hi, rfl, ?_⟩
    rcases hi with rfl | rfl | rfl | rfl | rfl | rfl | rfl
    · show rfs dA 2 60 (coF ad S) = rfs dA 2 60 (coF ad S2)
      unfold coF; rw [hC]
    · rfl
    · show ins dA 6 (S.2.1 27) = ins dA 6 (S2.2.1 27)
      rw [e27]
    · show rfs dA 4 10 (plF ad S) = rfs dA 4 10 (plF ad S2)
      unfold plF; rw [e15]
    · rfl
    · show ins dA 5 (S.2.1 23) = ins dA 5 (S2.2.1 23)
      rw [e23]
    · show ins dA 5 (S.2.1 24) = ins dA 5 (S2.2.1 24)
      rw [e24]
  · exact fun i hi => ⟨hi, rfl, by rw [cw_2, cw_2, e6]⟩
  · refine fun i hi => ⟨hi, rfl, ?_⟩
    rw [cw_3, cw_3, show lnF ad S2 i = lnF ad S i from funext fun j => by unfold lnF; rw [hm, hb]]
  · refine fun i hi => ⟨by rw [hC] at hi; exact hi, rfl, ?_⟩
    rw [cw_4, cw_4, e3, e4, e5]
  · refine fun i hi => ⟨by rw [hC] at hi; exact hi, rfl, ?_⟩
    rw [cw_5, cw_5, e1, h.2.2, show fo S2 i = fo S i from by unfold fo orP; rw [hk, hm, e7]]
  · exact fun i hi => ⟨by rw [hR] at hi; exact hi, rfl, rfl⟩
  · refine fun i hi => ⟨by rw [hR] at hi; exact hi, rfl, ?_⟩
    rw [cw_7, cw_7, hs, show itF S2 i = itF S i from funext fun j => by unfold itF; rw [hs, e10]]
  · refine fun i hi => ⟨by rw [hD] at hi; exact hi, rfl, ?_⟩
    rw [cw_8, cw_8, hsh, e13]
  · refine fun i hi => ⟨by rw [hD] at hi; exact hi, rfl, ?_⟩
    rw [cw_9, cw_9, hp, show nuF S2 f i = nuF S f i from funext fun j => by unfold nuF; rw [hfl, hsh, e17, e14]]
  · refine fun i hi => ⟨by rw [hD] at hi; exact hi, rfl, ?_⟩
    rw [cw_10, cw_10, hp, show thF ad S2 f i = thF ad S f i from funext fun j => by unfold thF; rw [hfl, hsh, e17, e14]]
  · refine fun i hi => ⟨hi, rfl, ?_⟩
    rw [cw_11, cw_11, e16, e19]
  · refine fun i hi => ⟨hi, rfl, ?_⟩
    rw [cw_12, cw_12, show soF S2 i = soF S i from funext fun j => by unfold soF; rw [e17]]
  · refine fun i hi => ⟨hi, rfl, ?_⟩
    rw [cw_13, cw_13, show liF S2 i = liF S i from funext fun j => by unfold liF; rw [e18]]
  · refine fun i hi => ⟨hi, rfl, ?_⟩
    rw [cw_14, cw_14, show ckR ad S2 i = ckR ad S i from funext fun j => by unfold ckR; rw [hc]]
  · refine fun i hi => ⟨⟨hi.1, by have := hi.2; rw [hc] at this; exact this⟩, rfl, ?_⟩
    rw [cw_15, cw_15, e20, e21, e22]
theorem sw_26 (x : Int32) : (∃ j, j ≤ 26 ∧ x = nI j) ∨ inB x 0 26 = false := by
  cases h : inB x 0 26 with
  | true =>
    obtain ⟨j, -, h2, e⟩ := inB_l (a := 0) (b := 26) rfl rfl (by decide) (by decide) h
    exact Or.inl ⟨j, h2, e⟩
  | false => exact Or.inr rfl
/-- the loop's test -/
theorem lp_in {L t : Nat} (hL : L ≤ 3072) (ht : t ≤ 512) (h : ¬ (nI L - 6 < nI (6 * t))) : 6 * t + 6 ≤ L := by
  rcases Nat.lt_or_ge L (6 * t + 6) with z | z
  · refine absurd ?_ h
    rw [Int32.lt_iff_toInt_lt, nI_toInt (by omega), show (nI L - 6).toInt = (L : Int) - 6 from pk_sub_toInt (b := 6) (by omega) (by decide)]
    omega
  · exact z
