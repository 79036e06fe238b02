/-! ===== other addresses; appending; swapping ===== -/
theorem tr_ad {S : St} {t : Nat} {v : Int32} {ad ad' : Nat → Nat → Nat} (I : Inv S t) (hv : okT S v) (hag : ∀ k i, dmW S 0 k i → ad' k i = ad k i) : tr ad' v = tr ad v := by
  obtain ⟨hC, hR, hD⟩ := bd512 I
  rcases hv with rfl | ⟨c, hc, rfl⟩ | ⟨r, hr, rfl⟩ | ⟨d, hd', rfl⟩
  · rw [tr_0, tr_0]
  · rw [tr_c (by omega), tr_c (by omega), hag 4 c hc]
  · rw [tr_r (by omega), tr_r (by omega), hag 6 r hr]
  · rw [tr_d (by omega), tr_d (by omega), hag 8 d hd']
theorem cw_ad {dA : Nat → ClassId} {S Sm : St} {t f : Nat} {ad ad' : Nat → Nat → Nat} (I : Inv S t) (h1 : ∀ j, ad' 1 j = ad 1 j) (h2 : ∀ j, ad' 2 j = ad 2 j) (h11 : ∀ j, ad' 11 j = ad 11 j) (h17 : ∀ j, ad' 17 j = ad 17 j) (hag : ∀ k i, dmW S 0 k i → ad' k i = ad k i) : ∀ k i, dmW S 0 k i → cw dA ad Sm S f k i = cw dA ad' Sm S f k i := by
  have hp : ∀ v, okT S v → tr ad v = tr ad' v := fun v hv => (tr_ad I hv hag).symm
  refine cw_cases (S := S) (τ := 0) ?_ ?_ ?_ ?_ ?_ (fun _ _ => rfl) ?_ (fun _ _ => rfl) ?_ (fun _ _ => rfl) ?_ ?_ (fun _ _ => rfl) (fun _ _ => rfl) ?_ (fun _ _ => rfl) ?_ (fun _ _ => rfl)
  · intro i hi; simp only [cw_0, h1]
  · intro i hi
    have e0 : coF ad S = coF ad' S := by
      funext j; unfold coF; split
      · rename_i h; rw [hag 4 j h]
      · rfl
    have e2 : (fun j => some (ad 2 j)) = (fun j => some (ad' 2 j)) := by funext j; rw [h2]
    have e6 : plF ad S = plF ad' S := by
      funext j; unfold plF; split
      · rename_i h; exact hp _ (I.2.2.2.2.2.2.1.1 j h)
      · rfl
    have e7 : (fun j => some (ad 11 j)) = (fun j => some (ad' 11 j)) := by funext j; rw [h11]
    show cw1 dA ad S i = cw1 dA ad' S i
    unfold cw1
    rw [e0, e2, e6, e7]
  · intro i hi; rw [cw_2, cw_2, hag 3 i hi]
  · intro i hi
    have e0 : lnF ad S i = lnF ad' S i := by
      funext j; unfold lnF; split
      · rename_i h; rw [hag 4 _ (((I.2.1 i hi).2.2.1 j h).2.1)]
      · rfl
    rw [cw_3, cw_3, e0]
  · intro i hi; rw [cw_4, cw_4, hag 5 i hi]
  · intro i hi; rw [cw_6, cw_6, hag 7 i hi]
  · intro i hi; rw [cw_8, cw_8, h11, hag 9 i hi, hag 10 i hi]
  · intro i hi
    have e0 : thF ad S f i = thF ad' S f i := by
      funext p; unfold thF; split
      · rename_i h
        rw [Bool.and_eq_true] at h
        obtain ⟨ha, hb⟩ := h
        unfold flB at ha
        rw [Bool.and_eq_true] at ha
        have hi' : i < nD S := hi
        have hpp := of_decide_eq_true ha.2
        obtain ⟨-, -, -, -, hpv⟩ := I.2.2.2.2.2.1.2.2 i hi'
        rcases hpv p hpp with ⟨z, -⟩ | ⟨z, y⟩
        · rw [decide_eq_true z] at hb; cases hb
        · exact hp _ (okV_T z y)
      · rfl
    rw [cw_10, cw_10, e0]
  · intro i hi; rw [cw_11, cw_11, hag 12 i hi, hag 13 i hi, hag 14 i hi]
  · intro i hi
    have e0 : ckR ad S i = ckR ad' S i := by
      funext c; unfold ckR; split
      · rename_i h
        have hi' : i < 6 := hi
        have hc4 := (I.2.2.2.2.1 i hi').2.2.2.1
        rw [hag 15 (4 * i + c) ⟨by omega, by rw [show (4 * i + c) % 4 = c by omega, show (4 * i + c) / 4 = i by omega]; exact h⟩]
      · rfl
    rw [cw_14, cw_14, e0]
  · intro i hi; rw [cw_16, cw_16]; simp only [mO, h17]
/-! appending to a build -/
theorem fnd_app {p : Nat → Bool} : ∀ {m i j : Nat}, fnd p m i = some j → fnd p (m + 1) i = some j := by
  intro m
  induction m with
  | zero => intro i j h; cases h
  | succ m ih =>
    intro i j h
    cases hp : p i with
    | true => rw [fnd_t hp] at h ⊢; exact h
    | false => rw [fnd_f hp] at h ⊢; exact ih h
theorem ap_mb {S : St} {b c b' : Nat} (h : mb S b < 60) : mb (apS S b (mb S b) (nI c)) b' = if b' = b then mb S b + 1 else mb S b' := by
  show (u2 (u2 S.2.1 7 (60 * b + mb S b) (nI c)) 6 b (nI (mb S b + 1)) 6 b').toNatClampNeg = _
  rw [u2_e]
  by_cases e : b' = b
  · subst e; rw [if_pos ⟨rfl, rfl⟩, if_pos rfl, nI_clamp (by omega)]
  · rw [if_neg (fun z => e z.2), if_neg e]; rfl
theorem ap_7 {S : St} {b c m x : Nat} : (apS S b m (nI c)).2.1 7 x = if x = 60 * b + m then nI c else S.2.1 7 x := by
  show u2 (u2 S.2.1 7 (60 * b + m) (nI c)) 6 b (nI (m + 1)) 7 x = _
  rw [u2_n (fun z => by cases z.1), u2_e]
  by_cases e : x = 60 * b + m
  · rw [if_pos ⟨rfl, e⟩, if_pos e]
  · rw [if_neg (fun z => e z.2), if_neg e]
theorem ap_6 {S : St} {b m b' : Nat} {x : Int32} : (apS S b m x).2.1 6 b' = if b' = b then nI (m + 1) else S.2.1 6 b' := by
  show u2 (u2 S.2.1 7 (60 * b + m) x) 6 b (nI (m + 1)) 6 b' = _
  rw [u2_e]
  by_cases e : b' = b
  · rw [if_pos ⟨rfl, e⟩, if_pos e]
  · rw [if_neg (fun z => e z.2), if_neg e]; rfl
theorem ap_bc {S : St} {b c m b' i : Nat} (hm : m < 60) (hi : i < 60) (hc : c < 60) : bc (apS S b m (nI c)) b' i = if b' = b ∧ i = m then c else bc S b' i := by
  unfold bc
  rw [ap_7]
  by_cases e : b' = b ∧ i = m
  · rw [if_pos e, if_pos (by rw [e.1, e.2]), nI_clamp (by omega)]
  · rw [if_neg e, if_neg (fun z => e ⟨by omega, by omega⟩)]
theorem ap_Ib {S : St} {b c : Nat} (Ib : I_b S) (h60 : nC S ≤ 60) (hb : b < 18) (hc : c < nC S) (hk : kN S c = b / 3) (hf : ∀ i, i < mb S b → bc S b i ≠ c) (hlt : mb S b < nC S) : I_b (apS S b (mb S b) (nI c)) := by
  intro b' hb'
  obtain ⟨hm, hmC, hbi, hbj⟩ := Ib b' hb'
  have hnC : nC (apS S b (mb S b) (nI c)) = nC S := rfl
  rw [ap_mb (by omega), ap_6, hnC]
  by_cases e : b' = b
  · subst e
    rw [if_pos rfl, if_pos rfl]
    refine ⟨rfl, by omega, fun i hi => ?_, fun i j hi hj => ?_⟩
    · rw [ap_bc (by omega) (by omega) (by omega), ap_7]
      by_cases e2 : i = mb S b'
      · subst e2
        rw [if_pos rfl, if_pos ⟨rfl, rfl⟩]
        exact ⟨rfl, hc, hk⟩
      · rw [if_neg (by omega), if_neg (fun z => e2 z.2)]
        exact hbi i (by omega)
    · rw [ap_bc (by omega) (by omega) (by omega), ap_bc (by omega) (by omega) (by omega)]
      by_cases e2 : i = mb S b'
      · by_cases e3 : j = mb S b'
        · intro _; omega
        · rw [if_pos ⟨rfl, e2⟩, if_neg (fun z => e3 z.2)]
          intro z; exact absurd z.symm (hf j (by omega))
      · by_cases e3 : j = mb S b'
        · rw [if_neg (fun z => e2 z.2), if_pos ⟨rfl, e3⟩]
          intro z; exact absurd z (hf i (by omega))
        · rw [if_neg (fun z => e2 z.2), if_neg (fun z => e3 z.2)]
          exact hbj i j (by omega) (by omega)
  · rw [if_neg e, if_neg e]
    refine ⟨hm, hmC, fun i hi => ?_, fun i j hi hj => ?_⟩
    · rw [ap_bc (by omega) (by omega) (by omega), ap_7, if_neg (by omega), if_neg (fun z => e z.1)]
      exact hbi i hi
    · rw [ap_bc (by omega) (by omega) (by omega), ap_bc (by omega) (by omega) (by omega), if_neg (fun z => e z.1), if_neg (fun z => e z.1)]
      exact hbj i j hi hj
theorem ap_fo {S : St} {b c i : Nat} (Ib : I_b S) (h60 : nC S ≤ 60) (hm : mb S b < 60) (hk6 : kN S i < 6) (ho : ∃ j, j < mb S (3 * kN S i) ∧ bc S (3 * kN S i) j = i) : fo (apS S b (mb S b) (nI c)) i = fo S i := by
  obtain ⟨hm', hmC, hbi, -⟩ := Ib (3 * kN S i) (by omega)
  have hP : ∀ j, j < mb S (3 * kN S i) → orP S (3 * kN S i) (nI i) j = orP (apS S b (mb S b) (nI c)) (3 * kN S i) (nI i) j := fun j hj => by
    unfold orP
    rw [ap_7]
    by_cases e : 60 * (3 * kN S i) + j = 60 * b + mb S b
    · exfalso
      have : 3 * kN S i = b := by omega
      rw [this] at e hj
      omega
    · rw [if_neg e]
  obtain ⟨j0, hj0, e0⟩ := ho
  have hfs : ∃ j, fnd (orP S (3 * kN S i) (nI i)) (mb S (3 * kN S i)) 0 = some j := by
    rcases fnd_spec (orP S (3 * kN S i) (nI i)) (mb S (3 * kN S i)) 0 with ⟨j, h, -⟩ | ⟨-, h⟩
    · exact ⟨j, h⟩
    · have := h j0 (Nat.zero_le _) (by omega)
      unfold orP at this
      rw [(hbi j0 hj0).1, e0] at this
      simp at this
  obtain ⟨j, hj⟩ := hfs
  have hj2 : fnd (orP (apS S b (mb S b) (nI c)) (3 * kN S i) (nI i)) (mb S (3 * kN S i)) 0 = some j := by rw [← fnd_cong hP]; exact hj
  show oI (fnd (orP (apS S b (mb S b) (nI c)) (3 * kN S i) (nI i)) (mb (apS S b (mb S b) (nI c)) (3 * kN S i)) 0) = oI (fnd (orP S (3 * kN S i) (nI i)) (mb S (3 * kN S i)) 0)
  rw [ap_mb hm, hj]
  by_cases e : 3 * kN S i = b
  · subst e; rw [if_pos rfl, fnd_app hj2]
  · rw [if_neg e, hj2]
theorem ap_ln {ad : Nat → Nat → Nat} {S : St} {b c b' : Nat} (Ib : I_b S) (h60 : nC S ≤ 60) (hb' : b' < 18) (hm : mb S b < 60) (hc : c < 60) : lnF ad (apS S b (mb S b) (nI c)) b' = if b' = b then va_up (lnF ad S b) (mb S b) (some (ad 4 c)) else lnF ad S b' := by
  have hmC := (Ib b' hb').2.1
  funext j
  show (if j < mb (apS S b (mb S b) (nI c)) b' then some (ad 4 (bc (apS S b (mb S b) (nI c)) b' j)) else none) = _
  rw [ap_mb hm]
  by_cases e : b' = b
  · subst e
    rw [if_pos rfl, if_pos rfl]
    by_cases ej : j = mb S b'
    · subst ej; rw [va_up_self, if_pos (by omega), ap_bc hm hm hc, if_pos ⟨rfl, rfl⟩]
    · rw [va_up_ne _ _ ej]
      unfold lnF
      by_cases hj : j < mb S b'
      · rw [if_pos (by omega), if_pos hj, ap_bc hm (by omega) hc, if_neg (fun z => ej z.2)]
      · rw [if_neg (by omega), if_neg hj]
  · rw [if_neg e, if_neg e]
    unfold lnF
    by_cases hj : j < mb S b'
    · rw [if_pos hj, if_pos hj, ap_bc hm (by omega) hc, if_neg (fun z => e z.1)]
    · rw [if_neg hj, if_neg hj]
theorem Inv.ap {S : St} {t b c : Nat} (I : Inv S t) (hb : b < 18) (hc : c < nC S) (hk : kN S c = b / 3) (hf : ∀ i, i < mb S b → bc S b i ≠ c) : Inv (apS S b (mb S b) (nI c)) t := by
  have h60 := I.1.2.1
  have hlt := ap_lt I hc hb hf
  obtain ⟨Ic, Ib, Io, Ir, Is, Id, Ip, It, Iz⟩ := I
  refine ⟨Ic, ap_Ib Ib h60 hb hc hk hf hlt, fun c' hc' => ?_, Ir, Is, Id, Ip, It, Iz⟩
  obtain ⟨i, hi, e⟩ := Io c' hc'
  have hmC := (Ib (3 * kN S c') (by have := (Ic.2.2.1 c' hc').2.1; omega)).2.1
  have hk' : kN (apS S b (mb S b) (nI c)) c' = kN S c' := rfl
  rw [hk', ap_mb (by omega)]
  refine ⟨i, ?_, ?_⟩
  · split
    · rename_i z; rw [z] at hi; omega
    · exact hi
  · rw [ap_bc (by omega) (by omega) (by omega), if_neg (fun z => by have := z.1; have := z.2; rw [z.1] at hi; omega)]; exact e
theorem ap_cv {dA : Nat → ClassId} {ad : Nat → Nat → Nat} {Sm S : St} {t f τ b c : Nat} (I : Inv S t) (hb : b < 18) (hm : mb S b < 60) (hc : c < 60) : ∀ k i, dmW (apS S b (mb S b) (nI c)) τ k i → dmW S τ k i ∧ ad k i = ad k i ∧ u2 (u2 (cw dA ad Sm S f) 3 b (rfs dA 2 60 (va_up (lnF ad S b) (mb S b) (some (ad 4 c))))) 2 b (.inr (0, [.ref (ad 3 b), .int (nI (mb S b + 1))])) k i = cw dA ad Sm (apS S b (mb S b) (nI c)) f k i := by
  have h60 := I.1.2.1
  refine cw_cases (S := apS S b (mb S b) (nI c)) (τ := τ) (fun i hi => ⟨hi, rfl, rfl⟩) (fun i hi => ⟨hi, rfl, rfl⟩) ?_ ?_ (fun i hi => ⟨hi, rfl, rfl⟩) ?_ (fun i hi => ⟨hi, rfl, rfl⟩) (fun i hi => ⟨hi, rfl, rfl⟩) (fun i hi => ⟨hi, rfl, rfl⟩) (fun i hi => ⟨hi, rfl, rfl⟩) (fun i hi => ⟨hi, rfl, rfl⟩) (fun i hi => ⟨hi, rfl, rfl⟩) (fun i hi => ⟨hi, rfl, rfl⟩) (fun i hi => ⟨hi, rfl, rfl⟩) (fun i hi => ⟨hi, rfl, rfl⟩) (fun i hi => ⟨hi, rfl, rfl⟩) (fun i hi => ⟨hi, rfl, rfl⟩) (fun i hi => ⟨hi, rfl, rfl⟩)
  · refine fun i hi => ⟨hi, rfl, ?_⟩
    rw [cw_2]
    by_cases e : i = b
    · subst e
      rw [u2_s, ap_6, if_pos rfl]
    · rw [u2_n (fun z => e z.2), ap_6, if_neg e]
      rfl
  · refine fun i hi => ⟨hi, rfl, ?_⟩
    rw [cw_3, ap_ln I.2.1 h60 hi hm hc, u2_n (fun z => by cases z.1)]
    by_cases e : i = b
    · subst e; rw [u2_s, if_pos rfl]
    · rw [u2_n (fun z => e z.2), if_neg e]; rfl
  · refine fun i hi => ⟨hi, rfl, ?_⟩
    have hi' : i < nC S := hi
    rw [cw_5, ap_fo I.2.1 h60 hm (I.1.2.2.1 i hi').2.1 (I.2.2.1 i hi')]
    rfl
theorem inB12 {bd : Int32} (h : inB bd 0 2 = false) : inB bd 1 2 = false := by
  cases hq1 : inB bd 1 2 with
  | false => rfl
  | true =>
    obtain ⟨j, j1, j2, rfl⟩ := inB_l (a := 1) (b := 2) rfl rfl (by decide) (by decide) hq1
    have e : inB (nI j) 0 2 = true := inB_ln (a := 0) (b := 2) (by omega) (by omega) (by decide)
    rw [e] at h; cases h
theorem inB012 {k bd : Int32} (h : (inB k 0 5 && inB bd 0 2) = false) : ¬ (inB k 0 5 && inB bd 1 2) = true := by
  cases hk : inB k 0 5 with
  | false => rw [Bool.false_and]; decide
  | true => rw [hk, Bool.true_and] at h; rw [inB12 h]; decide
/-! swapping -/
def tp2 (i j l : Nat) : Nat := if l = j then i else if l = i then j else l
theorem sw_7 {S : St} {b i j b' l : Nat} (hi : i < 60) (hj : j < 60) (hl : l < 60) : swp S.2.1 (60 * b + i) (60 * b + j) 7 (60 * b' + l) = S.2.1 7 (60 * b' + if b' = b then tp2 i j l else l) := by
  unfold swp
  rw [u2_e, u2_e]
  by_cases e : b' = b
  · subst e
    rw [if_pos rfl]
    unfold tp2
    by_cases h1 : l = j
    · subst h1; rw [if_pos ⟨rfl, rfl⟩, if_pos rfl]
    · rw [if_neg (fun z => h1 (by have := z.2; omega)), if_neg h1]
      by_cases h2 : l = i
      · subst h2; rw [if_pos ⟨rfl, rfl⟩, if_pos rfl]
      · rw [if_neg (fun z => h2 (by have := z.2; omega)), if_neg h2]
  · rw [if_neg e, if_neg (fun z => e (by have := z.2; omega)), if_neg (fun z => e (by have := z.2; omega))]
theorem tp2_lt {i j l m : Nat} (hi : i < m) (hj : j < m) (hl : l < m) : tp2 i j l < m := by
  unfold tp2
  split
  · exact hi
  · split
    · exact hj
    · exact hl
theorem tp2_in {i j l l' : Nat} (h : tp2 i j l = tp2 i j l') : l = l' := by
  unfold tp2 at h
  split at h <;> split at h <;> (try split at h) <;> (try split at h) <;> omega
def swS (S : St) (b i j : Nat) : St := (S.1, swp S.2.1 (60 * b + i) (60 * b + j), S.2.2)
theorem sw_o {a : Nat → Nat → Int32} {p q k : Nat} (h : k ≠ 7) : swp a p q k = a k := by
  funext x
  unfold swp
  rw [u2_n (fun z => h z.1), u2_n (fun z => h z.1)]
theorem sw_s {S : St} {b i j : Nat} (k : Nat) (h : k ≠ 7) : (swS S b i j).2.1 k = S.2.1 k := by
  show swp S.2.1 _ _ k = _
  exact sw_o h
theorem sw_bc {S : St} {b i j b' l : Nat} (hi : i < 60) (hj : j < 60) (hl : l < 60) : bc (swS S b i j) b' l = bc S b' (if b' = b then tp2 i j l else l) := by
  unfold bc
  show (swp S.2.1 (60 * b + i) (60 * b + j) 7 (60 * b' + l)).toNatClampNeg = _
  rw [sw_7 hi hj hl]
theorem Inv.sw {S : St} {t b i j : Nat} (I : Inv S t) (hb : b < 18) (h3 : ¬ b % 3 = 0) (hi : i < mb S b) (hj : j < mb S b) : Inv (swS S b i j) t := by
  have h60 := I.1.2.1
  have hmB := (I.2.1 b hb).2.1
  obtain ⟨Ic, Ib, Io, Ir, Is, Id, Ip, It, Iz⟩ := I
  have e1 : (swS S b i j).2.1 1 = S.2.1 1 := sw_s 1 (by decide)
  have e3 : (swS S b i j).2.1 3 = S.2.1 3 := sw_s 3 (by decide)
  have e4 : (swS S b i j).2.1 4 = S.2.1 4 := sw_s 4 (by decide)
  have e5 : (swS S b i j).2.1 5 = S.2.1 5 := sw_s 5 (by decide)
  have e6 : (swS S b i j).2.1 6 = S.2.1 6 := sw_s 6 (by decide)
  have e9 : (swS S b i j).2.1 9 = S.2.1 9 := sw_s 9 (by decide)
  have e12 : (swS S b i j).2.1 12 = S.2.1 12 := sw_s 12 (by decide)
  have e13 : (swS S b i j).2.1 13 = S.2.1 13 := sw_s 13 (by decide)
  have e14 : (swS S b i j).2.1 14 = S.2.1 14 := sw_s 14 (by decide)
  have e15 : (swS S b i j).2.1 15 = S.2.1 15 := sw_s 15 (by decide)
  have e16 : (swS S b i j).2.1 16 = S.2.1 16 := sw_s 16 (by decide)
  have e17 : (swS S b i j).2.1 17 = S.2.1 17 := sw_s 17 (by decide)
  have e19 : (swS S b i j).2.1 19 = S.2.1 19 := sw_s 19 (by decide)
  have e20 : (swS S b i j).2.1 20 = S.2.1 20 := sw_s 20 (by decide)
  have e21 : (swS S b i j).2.1 21 = S.2.1 21 := sw_s 21 (by decide)
  have e22 : (swS S b i j).2.1 22 = S.2.1 22 := sw_s 22 (by decide)
  have e24 : (swS S b i j).2.1 24 = S.2.1 24 := sw_s 24 (by decide)
  have kk : ∀ c, kN (swS S b i j) c = kN S c := fun c => by unfold kN; rw [e1]
  have km : ∀ c, mb (swS S b i j) c = mb S c := fun c => by unfold mb; rw [e6]
  have kC : nC (swS S b i j) = nC S := rfl
  refine ⟨?_, ?_, ?_, ?_, ?_, ?_, ?_, It, ?_⟩
  · unfold I_c wN; rw [e3, e4, kC]
    refine ⟨Ic.1, Ic.2.1, fun c hc => by rw [kk, e1]; exact Ic.2.2.1 c hc, fun c c' hc hc' => by rw [kk, kk]; exact Ic.2.2.2 c c' hc hc'⟩
  · intro b' hb'
    obtain ⟨hm, hmC, hbi, hbj⟩ := Ib b' hb'
    rw [km, e6, kC]
    refine ⟨hm, hmC, fun l hl => ?_, fun l l' hl hl' => ?_⟩
    · rw [sw_bc (by omega) (by omega) (by omega), kk, show (swS S b i j).2.1 7 (60 * b' + l) = _ from sw_7 (by omega) (by omega) (by omega)]
      apply hbi
      split
      · rename_i z; subst z; exact tp2_lt hi hj hl
      · exact hl
    · rw [sw_bc (by omega) (by omega) (by omega), sw_bc (by omega) (by omega) (by omega)]
      by_cases e : b' = b
      · subst e
        rw [if_pos rfl, if_pos rfl]
        exact fun z => tp2_in (hbj _ _ (tp2_lt hi hj hl) (tp2_lt hi hj hl') z)
      · rw [if_neg e, if_neg e]; exact hbj l l' hl hl'
  · intro c hc
    obtain ⟨l, hl, e⟩ := Io c hc
    have hk6 := (Ic.2.2.1 c hc).2.1
    have hmC := (Ib (3 * kN S c) (by omega)).2.1
    rw [kk, km]
    refine ⟨l, hl, ?_⟩
    rw [sw_bc (by omega) (by omega) (by omega), if_neg (by intro z; apply h3; omega)]
    exact e
  · unfold I_r sz; rw [e9]; exact Ir
  · unfold I_s pmN cmN; rw [e16, e17, e19, e20, e21, e22]; exact Is
  · unfold I_d shN pN pmN okV; rw [e12, e13, e14, e16, e17]; exact Id
  · unfold I_p okT; rw [e15, e24]; exact Ip
  · unfold I_z; rw [e4, e5]; exact Iz
theorem sw_fo {S : St} {t b i j c : Nat} (I : Inv S t) (hb : b < 18) (h3 : ¬ b % 3 = 0) (hi : i < mb S b) (hj : j < mb S b) (hc : c < nC S) : fo (swS S b i j) c = fo S c := by
  have h60 := I.1.2.1
  have hmB := (I.2.1 b hb).2.1
  have hmC := (I.2.1 (3 * kN S c) (by have := (I.1.2.2.1 c hc).2.1; omega)).2.1
  have e1 : (swS S b i j).2.1 1 = S.2.1 1 := sw_s 1 (by decide)
  have e6 : (swS S b i j).2.1 6 = S.2.1 6 := sw_s 6 (by decide)
  unfold fo kN mb
  rw [e1, e6]
  refine congrArg oI (fnd_cong (fun l hl => ?_))
  have hl' : l < mb S (3 * kN S c) := hl
  unfold orP
  rw [show (swS S b i j).2.1 7 (60 * (3 * (S.2.1 1 c).toNatClampNeg) + l) = _ from sw_7 (by omega) (by omega) (by omega), if_neg (by intro z; apply h3; omega)]
theorem sw_ln {ad : Nat → Nat → Nat} {S : St} {t b i j b' : Nat} (I : Inv S t) (hb : b < 18) (hb' : b' < 18) (hi : i < mb S b) (hj : j < mb S b) : lnF ad (swS S b i j) b' = if b' = b then va_up (va_up (lnF ad S b) i (lnF ad S b j)) j (lnF ad S b i) else lnF ad S b' := by
  have h60 := I.1.2.1
  have hmB := (I.2.1 b hb).2.1
  have hmC := (I.2.1 b' hb').2.1
  have km : mb (swS S b i j) b' = mb S b' := by unfold mb; rw [show (swS S b i j).2.1 6 = S.2.1 6 from sw_s 6 (by decide)]
  funext l
  show (if l < mb (swS S b i j) b' then some (ad 4 (bc (swS S b i j) b' l)) else none) = _
  rw [km]
  by_cases e : b' = b
  · subst e
    rw [if_pos rfl]
    by_cases h1 : l = j
    · subst h1
      rw [va_up_self, if_pos hj, sw_bc (by omega) (by omega) (by omega), if_pos rfl]
      unfold tp2; rw [if_pos rfl]; exact (if_pos hi).symm
    · rw [va_up_ne _ _ h1]
      by_cases h2 : l = i
      · subst h2
        rw [va_up_self, if_pos hi, sw_bc (by omega) (by omega) (by omega), if_pos rfl]
        unfold tp2; rw [if_neg h1, if_pos rfl]; exact (if_pos hj).symm
      · rw [va_up_ne _ _ h2]
        unfold lnF
        by_cases hl : l < mb S b'
        · rw [if_pos hl, if_pos hl, sw_bc (by omega) (by omega) (by omega), if_pos rfl]
          unfold tp2; rw [if_neg h1, if_neg h2]
        · rw [if_neg hl, if_neg hl]
  · rw [if_neg e]
    unfold lnF
    by_cases hl : l < mb S b'
    · rw [if_pos hl, if_pos hl, sw_bc (by omega) (by omega) (by omega), if_neg e]
    · rw [if_neg hl, if_neg hl]
theorem sw_cv {dA : Nat → ClassId} {ad : Nat → Nat → Nat} {Sm S : St} {t f τ b i j : Nat} (I : Inv S t) (hb : b < 18) (h3 : ¬ b % 3 = 0) (hi : i < mb S b) (hj : j < mb S b) : ∀ k i', dmW (swS S b i j) τ k i' → dmW S τ k i' ∧ ad k i' = ad k i' ∧ u2 (cw dA ad Sm S f) 3 b (rfs dA 2 60 (va_up (va_up (lnF ad S b) i (lnF ad S b j)) j (lnF ad S b i))) k i' = cw dA ad Sm (swS S b i j) f k i' := by
  refine cw_cases (S := swS S b i j) (τ := τ) (fun i hi => ⟨hi, rfl, rfl⟩) ?_ (fun i hi => ⟨hi, rfl, rfl⟩) ?_ (fun i hi => ⟨hi, rfl, rfl⟩) ?_ (fun i hi => ⟨hi, rfl, rfl⟩) (fun i hi => ⟨hi, rfl, rfl⟩) (fun i hi => ⟨hi, rfl, rfl⟩) (fun i hi => ⟨hi, rfl, rfl⟩) (fun i hi => ⟨hi, rfl, rfl⟩) (fun i hi => ⟨hi, rfl, rfl⟩) (fun i hi => ⟨hi, rfl, rfl⟩) (fun i hi => ⟨hi, rfl, rfl⟩) (fun i hi => ⟨hi, rfl, rfl⟩) (fun i hi => ⟨hi, rfl, rfl⟩) (fun i hi => ⟨hi, rfl, rfl⟩) (fun i hi => ⟨hi, rfl, rfl⟩)
  · exact fun i hi => ⟨hi, rfl, rfl⟩
  · refine fun i' hi' => ⟨hi', rfl, ?_⟩
    rw [cw_3, sw_ln I hb hi' hi hj]
    by_cases e : i' = b
    · subst e; rw [u2_s, if_pos rfl]
    · rw [u2_n (fun z => e z.2), if_neg e]; rfl
  · refine fun i' hi' => ⟨hi', rfl, ?_⟩
    rw [cw_5, sw_fo I hb h3 hi hj hi']
    rfl
