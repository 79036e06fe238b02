/-! ===== a new ROW, a new CONSTANT ===== -/
def roS (S : St) (p : Nat) (n : Int32) : St := (u1 S.1 8 (S.1 8 + 1), u2 (zerA (nR S) 12 (u2 S.2.1 9 (nR S) n)) 15 p (nI (100 + nR S)), S.2.2)
theorem ze_10 (r : Nat) (a : Nat → Nat → Int32) (x : Nat) : ∀ m, zerA r m a 10 x = if 12 * r ≤ x ∧ x < 12 * r + m then 0 else a 10 x := by
  intro m
  induction m with
  | zero => rw [if_neg (by omega)]; rfl
  | succ m ih =>
    show u2 (zerA r m a) 10 (12 * r + m) 0 10 x = _
    rw [u2_e]
    by_cases e : x = 12 * r + m
    · rw [if_pos ⟨rfl, e⟩, if_pos (by omega)]
    · rw [if_neg (fun z => e z.2), ih]
      by_cases h : 12 * r ≤ x ∧ x < 12 * r + m
      · rw [if_pos h, if_pos (by omega)]
      · rw [if_neg h, if_neg (by omega)]
theorem ze_o (r : Nat) (a : Nat → Nat → Int32) {k : Nat} (h : k ≠ 10) : ∀ m, zerA r m a k = a k := by
  intro m
  induction m with
  | zero => rfl
  | succ m ih =>
    funext x
    show u2 (zerA r m a) 10 (12 * r + m) 0 k x = _
    rw [u2_x h, ih]
theorem ro_o {S : St} {p : Nat} {n : Int32} (k : Nat) (h9 : k ≠ 9) (h10 : k ≠ 10) (h15 : k ≠ 15) : (roS S p n).2.1 k = S.2.1 k := by
  show u2 (zerA (nR S) 12 (u2 S.2.1 9 (nR S) n)) 15 p (nI (100 + nR S)) k = _
  funext x
  rw [u2_x h15, ze_o _ _ h10, u2_x h9]
theorem ro_9 {S : St} {p x : Nat} {n : Int32} : (roS S p n).2.1 9 x = if x = nR S then n else S.2.1 9 x := by
  show u2 (zerA (nR S) 12 (u2 S.2.1 9 (nR S) n)) 15 p (nI (100 + nR S)) 9 x = _
  rw [u2_x (by decide), ze_o _ _ (by decide), u2_e]
  by_cases e : x = nR S
  · rw [if_pos ⟨rfl, e⟩, if_pos e]
  · rw [if_neg (fun z => e z.2), if_neg e]
theorem ro_10 {S : St} {p x : Nat} {n : Int32} : (roS S p n).2.1 10 x = if 12 * nR S ≤ x ∧ x < 12 * nR S + 12 then 0 else S.2.1 10 x := by
  show u2 (zerA (nR S) 12 (u2 S.2.1 9 (nR S) n)) 15 p (nI (100 + nR S)) 10 x = _
  rw [u2_x (by decide), ze_10]
  rfl
theorem ro_15 {S : St} {p x : Nat} {n : Int32} : (roS S p n).2.1 15 x = if x = p then nI (100 + nR S) else S.2.1 15 x := by
  show u2 (zerA (nR S) 12 (u2 S.2.1 9 (nR S) n)) 15 p (nI (100 + nR S)) 15 x = _
  rw [u2_e]
  by_cases e : x = p
  · rw [if_pos ⟨rfl, e⟩, if_pos e]
  · rw [if_neg (fun z => e z.2), if_neg e, ze_o _ _ (by decide), u2_x (by decide)]
theorem ro_nR {S : St} {t p : Nat} {n : Int32} (I : Inv S t) : nR (roS S p n) = nR S + 1 := by
  have h := (bd512 I).2.1
  show (u1 S.1 8 (S.1 8 + 1) 8).toNatClampNeg = _
  rw [u1_s, I.2.2.2.1.1, show nI (nR S) + 1 = nI (nR S + 1) from inc1 _, nI_clamp (by omega)]
theorem ro_cv {dA : Nat → ClassId} {ad : Nat → Nat → Nat} {Sm S : St} {t f p n a a' : Nat} {z : va_E} (I : Inv S t) (hp : p < 10) (hn : n ≤ 12) : ∀ q i, dmW (roS S p (nI n)) 0 q i → dmU (dmU (dmW S 0) 6 (nR S)) 7 (nR S) q i ∧ u2 (u2 ad 6 (nR S) a) 7 (nR S) a' q i = u2 (u2 ad 6 (nR S) a) 7 (nR S) a' q i ∧ u2 (u2 (u2 (u2 (cw dA ad Sm S f) 6 (nR S) z) 7 (nR S) (ins dA n (fun _ => 0))) 6 (nR S) (.inr (6, [.ref a']))) 1 6 (rfs dA 4 10 (va_up (plF ad S) p (some a))) q i = cw dA (u2 (u2 ad 6 (nR S) a) 7 (nR S) a') Sm (roS S p (nI n)) f q i := by
  obtain ⟨hC, hR, hD⟩ := bd512 I
  have hag : ∀ k i, dmW S 0 k i → u2 (u2 ad 6 (nR S) a) 7 (nR S) a' k i = ad k i := fun k i hd => by
    by_cases h7 : k = 7
    · subst h7
      have : i < nR S := hd
      rw [u2_n (fun z => by have := z.2; omega), u2_x (by decide)]
    · rw [u2_x h7]
      by_cases h6 : k = 6
      · subst h6
        have : i < nR S := hd
        rw [u2_n (fun z => by have := z.2; omega)]
      · rw [u2_x h6]
  have hcw := cw_ad (dA := dA) (Sm := Sm) (f := f) (ad := ad) (ad' := u2 (u2 ad 6 (nR S) a) 7 (nR S) a') I (fun _ => rfl) (fun _ => rfl) (fun _ => rfl) (fun _ => rfl) hag
  obtain ⟨ad2, had⟩ : ∃ ad2, u2 (u2 ad 6 (nR S) a) 7 (nR S) a' = ad2 := ⟨_, rfl⟩
  have a6 : ad2 6 (nR S) = a := by rw [← had, u2_x (by decide), u2_s]
  have a7 : ad2 7 (nR S) = a' := by rw [← had, u2_s]
  rw [had] at hag hcw ⊢
  have hnR := ro_nR (p := p) (n := nI n) I
  have o6 := ro_o (S := S) (p := p) (n := nI n) 6 (by decide) (by decide) (by decide)
  have o7 := ro_o (S := S) (p := p) (n := nI n) 7 (by decide) (by decide) (by decide)
  have o1 := ro_o (S := S) (p := p) (n := nI n) 1 (by decide) (by decide) (by decide)
  have o3 := ro_o (S := S) (p := p) (n := nI n) 3 (by decide) (by decide) (by decide)
  have o4 := ro_o (S := S) (p := p) (n := nI n) 4 (by decide) (by decide) (by decide)
  have o5 := ro_o (S := S) (p := p) (n := nI n) 5 (by decide) (by decide) (by decide)
  have o12 := ro_o (S := S) (p := p) (n := nI n) 12 (by decide) (by decide) (by decide)
  have o13 := ro_o (S := S) (p := p) (n := nI n) 13 (by decide) (by decide) (by decide)
  have o14 := ro_o (S := S) (p := p) (n := nI n) 14 (by decide) (by decide) (by decide)
  have o16 := ro_o (S := S) (p := p) (n := nI n) 16 (by decide) (by decide) (by decide)
  have o17 := ro_o (S := S) (p := p) (n := nI n) 17 (by decide) (by decide) (by decide)
  have o18 := ro_o (S := S) (p := p) (n := nI n) 18 (by decide) (by decide) (by decide)
  have o19 := ro_o (S := S) (p := p) (n := nI n) 19 (by decide) (by decide) (by decide)
  have o20 := ro_o (S := S) (p := p) (n := nI n) 20 (by decide) (by decide) (by decide)
  have o21 := ro_o (S := S) (p := p) (n := nI n) 21 (by decide) (by decide) (by decide)
  have o22 := ro_o (S := S) (p := p) (n := nI n) 22 (by decide) (by decide) (by decide)
  have o23 := ro_o (S := S) (p := p) (n := nI n) 23 (by decide) (by decide) (by decide)
  have o24 := ro_o (S := S) (p := p) (n := nI n) 24 (by decide) (by decide) (by decide)
  have o27 := ro_o (S := S) (p := p) (n := nI n) 27 (by decide) (by decide) (by decide)
  have hcmN : ∀ j, cmN (roS S p (nI n)) j = cmN S j := fun j => by unfold cmN; rw [o19]
  have hpN : ∀ j, pN (roS S p (nI n)) j = pN S j := fun j => by unfold pN; rw [o13]
  have hsh : ∀ j, shN (roS S p (nI n)) j = shN S j := fun j => by unfold shN; rw [o12]
  have hfl : ∀ i q, flB (roS S p (nI n)) f i q = flB S f i q := fun i q => by
    show ((decide (i < nD S) || decide (q < f)) && decide (q < pN (roS S p (nI n)) i)) = _
    rw [hpN]; rfl
  refine cw_cases (S := roS S p (nI n)) (τ := 0) ?_ ?_ ?_ ?_ ?_ ?_ ?_ ?_ ?_ ?_ ?_ ?_ ?_ ?_ ?_ ?_ ?_ ?_
  · exact fun i hi => ⟨Or.inl (Or.inl hi), rfl, hcw 0 i hi⟩
  · refine fun i hi => ⟨Or.inl (Or.inl hi), rfl, ?_⟩
    by_cases h6 : i = 6
    · subst h6
      rw [u2_s]
      show _ = rfs dA 4 10 (plF ad2 (roS S p (nI n)))
      congr 5
      funext j
      unfold plF
      rw [ro_15]
      by_cases hj : j = p
      · subst hj; rw [va_up_self, if_pos hp, if_pos rfl, tr_r hR, a6]
      · rw [va_up_ne _ _ hj, if_neg hj]
        by_cases h10 : j < 10
        · rw [if_pos h10, if_pos h10]; exact (tr_ad I (I.2.2.2.2.2.2.1.1 j h10) hag).symm
        · rw [if_neg h10, if_neg h10]
    · rw [u2_n (fun z => h6 z.2), u2_x (by decide), u2_x (by decide), u2_x (by decide)]
      refine (hcw 1 i hi).trans ?_
      show cw1 dA ad2 S i = cw1 dA ad2 (roS S p (nI n)) i
      rcases hi with rfl | rfl | rfl | rfl | rfl | rfl | rfl
      · rfl
      · rfl
      · show ins dA 6 (S.2.1 27) = ins dA 6 ((roS S p (nI n)).2.1 27); rw [o27]
      · exact absurd rfl h6
      · rfl
      · show ins dA 5 (S.2.1 23) = ins dA 5 ((roS S p (nI n)).2.1 23); rw [o23]
      · show ins dA 5 (S.2.1 24) = ins dA 5 ((roS S p (nI n)).2.1 24); rw [o24]
  · refine fun i hi => ⟨Or.inl (Or.inl hi), rfl, (hcw 2 i hi).trans ?_⟩
    rw [cw_2, cw_2, o6]
  · refine fun i hi => ⟨Or.inl (Or.inl hi), rfl, (hcw 3 i hi).trans ?_⟩
    rw [cw_3, cw_3]; unfold lnF mb bc; rw [o6, o7]
  · refine fun i hi => ⟨Or.inl (Or.inl hi), rfl, (hcw 4 i hi).trans ?_⟩
    rw [cw_4, cw_4, o3, o4, o5]
  · refine fun i hi => ⟨Or.inl (Or.inl hi), rfl, (hcw 5 i hi).trans ?_⟩
    rw [cw_5, cw_5]; unfold fo orP kN mb; rw [o1, o6, o7]; rfl
  · intro i hi
    have hi' : i < nR S + 1 := hnR ▸ hi
    rw [cw_6, u2_x (by decide)]
    by_cases e : i = nR S
    · subst e; rw [u2_s, a7]; exact ⟨Or.inl (Or.inr ⟨rfl, rfl⟩), rfl, rfl⟩
    · rw [u2_n (fun z => e z.2), u2_x (by decide), u2_n (fun z => e z.2)]
      exact ⟨Or.inl (Or.inl (show i < nR S by omega)), rfl, hcw 6 i (show i < nR S by omega)⟩
  · intro i hi
    have hi' : i < nR S + 1 := hnR ▸ hi
    have hsz : sz (roS S p (nI n)) i = if i = nR S then n else sz S i := by
      unfold sz; rw [ro_9]
      by_cases e : i = nR S
      · rw [if_pos e, if_pos e, nI_clamp (by omega)]
      · rw [if_neg e, if_neg e]
    have hit : ∀ j, itF (roS S p (nI n)) i j = if j < (if i = nR S then n else sz S i) then (if 12 * nR S ≤ 12 * i + j ∧ 12 * i + j < 12 * nR S + 12 then 0 else S.2.1 10 (12 * i + j)) else 0 := fun j => by
      unfold itF; rw [hsz, ro_10]
    rw [cw_7, hsz, u2_x (by decide), u2_x (by decide)]
    by_cases e : i = nR S
    · subst e
      refine ⟨Or.inr ⟨rfl, rfl⟩, rfl, ?_⟩
      rw [u2_s, if_pos rfl, show itF (roS S p (nI n)) (nR S) = fun _ => 0 from ?_]
      funext j
      rw [hit, if_pos rfl]
      by_cases hj : j < n
      · rw [if_pos hj, if_pos (by omega)]
      · rw [if_neg hj]
    · have hl : i < nR S := by omega
      refine ⟨Or.inl (Or.inl hl), rfl, ?_⟩
      have h12 := (I.2.2.2.1.2.2 i hl).2
      rw [u2_n (fun z => e z.2), u2_x (by decide), if_neg e, show itF (roS S p (nI n)) i = itF S i from ?_]
      · rfl
      · funext j
        rw [hit, if_neg e]
        unfold itF
        by_cases hj : j < sz S i
        · rw [if_pos hj, if_pos hj, if_neg (by omega)]
        · rw [if_neg hj, if_neg hj]
  · refine fun i hi => ⟨Or.inl (Or.inl hi), rfl, (hcw 8 i hi).trans ?_⟩
    rw [cw_8, cw_8, hsh, o13]
  · refine fun i hi => ⟨Or.inl (Or.inl hi), rfl, (hcw 9 i hi).trans ?_⟩
    rw [cw_9, cw_9, hpN, show nuF (roS S p (nI n)) f i = nuF S f i by funext q; unfold nuF; rw [hfl, hsh, o17, o14]]
  · refine fun i hi => ⟨Or.inl (Or.inl hi), rfl, (hcw 10 i hi).trans ?_⟩
    rw [cw_10, cw_10, hpN, show thF ad2 (roS S p (nI n)) f i = thF ad2 S f i by funext q; unfold thF; rw [hfl, hsh, o17, o14]]
  · refine fun i hi => ⟨Or.inl (Or.inl hi), rfl, (hcw 11 i hi).trans ?_⟩
    rw [cw_11, cw_11, o16, o19]
  · refine fun i hi => ⟨Or.inl (Or.inl hi), rfl, (hcw 12 i hi).trans ?_⟩
    rw [cw_12, cw_12]; unfold soF; rw [o17]
  · refine fun i hi => ⟨Or.inl (Or.inl hi), rfl, (hcw 13 i hi).trans ?_⟩
    rw [cw_13, cw_13]; unfold liF; rw [o18]
  · refine fun i hi => ⟨Or.inl (Or.inl hi), rfl, (hcw 14 i hi).trans ?_⟩
    rw [cw_14, cw_14]; unfold ckR; rw [hcmN]
  · intro i hi
    have hi' : dmW S 0 15 i := ⟨hi.1, by rw [← hcmN]; exact hi.2⟩
    refine ⟨Or.inl (Or.inl hi'), rfl, (hcw 15 i hi').trans ?_⟩
    rw [cw_15, cw_15, o20, o21, o22]
  · exact fun i hi => ⟨Or.inl (Or.inl hi), rfl, hcw 16 i hi⟩
  · exact fun i hi => ⟨Or.inl (Or.inl hi), rfl, hcw 17 i hi⟩
