/-! ===== a new CONSTANT ===== -/
theorem fnd_last {p : Nat → Bool} : ∀ m i, (∀ j, i ≤ j → j < i + m → p j = false) → p (i + m) = true → fnd p (m + 1) i = some (i + m) := by
  intro m
  induction m with
  | zero => intro i _ h; exact fnd_t h
  | succ m ih =>
    intro i h ht
    rw [fnd_f (h i (Nat.le_refl _) (by omega)), ih (i + 1) (fun j h1 h2 => h j (by omega) (by omega)) (by rw [show i + 1 + m = i + (m + 1) by omega]; exact ht)]
    congr 1; omega
theorem co_kN {S : St} {kd x : Nat} {name : Int64} {bo : Int32} (hk : kd < 6) : kN (coS S (nI kd) name bo) x = if x = nC S then kd else kN S x := by
  unfold kN
  show (u2 (u2 S.2.1 1 (nC S) (nI kd)) 3 (nC S) bo 1 x).toNatClampNeg = _
  rw [u2_x (by decide), u2_e]
  by_cases e : x = nC S
  · rw [if_pos ⟨rfl, e⟩, if_pos e, nI_clamp (by omega)]
  · rw [if_neg (fun z => e z.2), if_neg e]
theorem co_nC {S : St} {t : Nat} {kd name bo} (I : Inv S t) : nC (coS S kd name bo) = nC S + 1 := by
  have h := I.1.2.1
  show (u1 S.1 0 (S.1 0 + 1) 0).toNatClampNeg = _
  rw [u1_s, I.1.1, show nI (nC S) + 1 = nI (nC S + 1) from inc1 _, nI_clamp (by omega)]
theorem co_Ib {S : St} {t kd : Nat} {name : Int64} {bo : Int32} (I : Inv S t) (hk : kd < 6) : I_b (coS S (nI kd) name bo) := by
  intro b hb
  obtain ⟨hm, hmC, hbi, hbj⟩ := I.2.1 b hb
  rw [co_nC I]
  refine ⟨hm, Nat.le_succ_of_le hmC, fun i hi => ?_, hbj⟩
  obtain ⟨h1, h2, h3⟩ := hbi i hi
  refine ⟨h1, Nat.lt_succ_of_lt h2, ?_⟩
  show kN (coS S (nI kd) name bo) (bc S b i) = b / 3
  rw [co_kN hk, if_neg (by omega)]
  exact h3
def cnS (S : St) (kd : Nat) (name : Int64) (bo : Int32) : St := apS (coS S (nI kd) name bo) (3 * kd) (mb S (3 * kd)) (nI (nC S))
theorem co_new {S : St} {t kd : Nat} {name : Int64} {bo : Int32} (I : Inv S t) (hk : kd < 6) (h60 : nC S < 60) : fo (cnS S kd name bo) (nC S) = nI (mb S (3 * kd)) := by
  obtain ⟨hm, hmC, hbi, hbj⟩ := I.2.1 (3 * kd) (by omega)
  have ek : kN (cnS S kd name bo) (nC S) = kd := by
    show kN (coS S (nI kd) name bo) (nC S) = kd
    rw [co_kN hk, if_pos rfl]
  unfold fo
  rw [ek]
  have em : mb (cnS S kd name bo) (3 * kd) = mb S (3 * kd) + 1 := by
    show mb (apS (coS S (nI kd) name bo) (3 * kd) (mb (coS S (nI kd) name bo) (3 * kd)) (nI (nC S))) (3 * kd) = _
    exact (ap_mb (S := coS S (nI kd) name bo) (b := 3 * kd) (c := nC S) (b' := 3 * kd) (show mb S (3 * kd) < 60 by omega)).trans (by rw [if_pos rfl]; rfl)
  have p1 : ∀ j, 0 ≤ j → j < 0 + mb S (3 * kd) → orP (cnS S kd name bo) (3 * kd) (nI (nC S)) j = false := fun j _ hj => by
    unfold orP
    rw [show (cnS S kd name bo).2.1 7 (60 * (3 * kd) + j) = _ from ap_7, if_neg (by omega)]
    obtain ⟨h1, h2, -⟩ := hbi j (by omega)
    rw [show (coS S (nI kd) name bo).2.1 7 (60 * (3 * kd) + j) = nI (bc S (3 * kd) j) from h1]
    exact decide_eq_false (fun z => by have := (nI_eq (by omega) (by omega)).mp z; omega)
  have p2 : orP (cnS S kd name bo) (3 * kd) (nI (nC S)) (0 + mb S (3 * kd)) = true := by
    unfold orP
    rw [show (cnS S kd name bo).2.1 7 (60 * (3 * kd) + (0 + mb S (3 * kd))) = _ from ap_7, if_pos (by omega)]
    exact decide_eq_true rfl
  rw [em, fnd_last (mb S (3 * kd)) 0 p1 p2, Nat.zero_add]
  rfl
theorem co_ho {S : St} {t kd i : Nat} {name : Int64} {bo : Int32} (I : Inv S t) (hk : kd < 6) (hi : i < nC S) : kN (coS S (nI kd) name bo) i = kN S i ∧ kN S i < 6 ∧ ∃ j, j < mb S (3 * kN S i) ∧ bc S (3 * kN S i) j = i := by
  refine ⟨by rw [co_kN hk, if_neg (by omega)], (I.1.2.2.1 i hi).2.1, I.2.2.1 i hi⟩
theorem co_old {S : St} {t kd i : Nat} {name : Int64} {bo : Int32} (I : Inv S t) (hk : kd < 6) (h60 : nC S < 60) (hi : i < nC S) : fo (cnS S kd name bo) i = fo S i := by
  obtain ⟨hm, hmC, hbi, hbj⟩ := I.2.1 (3 * kd) (by omega)
  obtain ⟨k1, k2, k3⟩ := co_ho (name := name) (bo := bo) I hk hi
  have h := ap_fo (S := coS S (nI kd) name bo) (b := 3 * kd) (c := nC S) (i := i) (co_Ib I hk) (by rw [co_nC I]; omega) (show mb S (3 * kd) < 60 by omega) (by rw [k1]; exact k2) (by rw [k1]; exact k3)
  refine (show fo (cnS S kd name bo) i = _ from h).trans ?_
  unfold fo
  rw [k1]
  rfl
theorem con_cv {dA : Nat → ClassId} {ad : Nat → Nat → Nat} {Sm S : St} {t f kd a4 a5 : Nat} {name : Int64} {bo : Int32} {z : va_E} (I : Inv S t) (hk : kd < 6) (h60 : nC S < 60) : ∀ q i, dmW (cnS S kd name bo) 0 q i → dmU (dmU (dmW S 0) 5 (nC S)) 4 (nC S) q i ∧ u2 (u2 ad 5 (nC S) a5) 4 (nC S) a4 q i = u2 (u2 ad 5 (nC S) a5) 4 (nC S) a4 q i ∧ u2 (u2 (u2 (u2 (u2 (u2 (u2 (cw dA ad Sm S f) 5 (nC S) z) 5 (nC S) (.inr (2, [.int (S.1 0), .int (nI kd), .long name, .int (S.2.1 6 (3 * kd))]))) 4 (nC S) (.inr (cb bo, [.ref a5, .int 0, .int 0]))) 3 (3 * kd) (rfs dA 2 60 (va_up (lnF ad S (3 * kd)) (mb S (3 * kd)) (some a4)))) 2 (3 * kd) (.inr (0, [.ref (ad 3 (3 * kd)), .int (nI (mb S (3 * kd) + 1))]))) 1 0 (rfs dA 2 60 (va_up (coF ad S) (nC S) (some a4)))) 0 0 (.inr (9, [.ref (ad 1 0), .int (S.1 0 + 1), .ref (ad 1 2), .ref (ad 1 3), .int (S.1 28), .int (S.1 29), .ref (ad 1 6), .ref (ad 1 7), .ref (ad 1 8), .ref (ad 1 9), .int (S.1 11), .int (S.1 25), .int (S.1 26)])) q i = cw dA (u2 (u2 ad 5 (nC S) a5) 4 (nC S) a4) Sm (cnS S kd name bo) f q i := by
  obtain ⟨hm, hmC, hbi, hbj⟩ := I.2.1 (3 * kd) (by omega)
  have hag : ∀ k i, dmW S 0 k i → u2 (u2 ad 5 (nC S) a5) 4 (nC S) a4 k i = ad k i := fun k i hd => by
    by_cases h7 : k = 4
    · subst h7
      have : i < nC S := hd
      rw [u2_n (fun z => by have := z.2; omega), u2_x (by decide)]
    · rw [u2_x h7]
      by_cases h6 : k = 5
      · subst h6
        have : i < nC S := hd
        rw [u2_n (fun z => by have := z.2; omega)]
      · rw [u2_x h6]
  have hcw := cw_ad (dA := dA) (Sm := Sm) (f := f) (ad := ad) (ad' := u2 (u2 ad 5 (nC S) a5) 4 (nC S) a4) I (fun _ => rfl) (fun _ => rfl) (fun _ => rfl) (fun _ => rfl) hag
  have b4 : u2 (u2 ad 5 (nC S) a5) 4 (nC S) a4 4 (nC S) = a4 := u2_s
  have b5 : u2 (u2 ad 5 (nC S) a5) 4 (nC S) a4 5 (nC S) = a5 := by rw [u2_x (by decide), u2_s]
  have hnC : nC (cnS S kd name bo) = nC S + 1 := co_nC (kd := nI kd) (name := name) (bo := bo) I
  have hlnS : ∀ b, b < 18 → lnF (u2 (u2 ad 5 (nC S) a5) 4 (nC S) a4) (coS S (nI kd) name bo) b = lnF ad S b := fun b hb => by
    funext j
    show (if j < mb S b then some (u2 (u2 ad 5 (nC S) a5) 4 (nC S) a4 4 (bc S b j)) else none) = lnF ad S b j
    unfold lnF
    by_cases hj : j < mb S b
    · rw [if_pos hj, if_pos hj, hag 4 _ ((I.2.1 b hb).2.2.1 j hj).2.1]
    · rw [if_neg hj, if_neg hj]
  refine cw_cases (S := cnS S kd name bo) (τ := 0) ?_ ?_ ?_ ?_ ?_ ?_ (fun i hi => ⟨Or.inl (Or.inl hi), rfl, (show _ = _ from hcw 6 i hi).trans rfl⟩) (fun i hi => ⟨Or.inl (Or.inl hi), rfl, (show _ = _ from hcw 7 i hi).trans rfl⟩) (fun i hi => ⟨Or.inl (Or.inl hi), rfl, (show _ = _ from hcw 8 i hi).trans rfl⟩) (fun i hi => ⟨Or.inl (Or.inl hi), rfl, (show _ = _ from hcw 9 i hi).trans rfl⟩) (fun i hi => ⟨Or.inl (Or.inl hi), rfl, (show _ = _ from hcw 10 i hi).trans rfl⟩) (fun i hi => ⟨Or.inl (Or.inl hi), rfl, (show _ = _ from hcw 11 i hi).trans rfl⟩) (fun i hi => ⟨Or.inl (Or.inl hi), rfl, (show _ = _ from hcw 12 i hi).trans rfl⟩) (fun i hi => ⟨Or.inl (Or.inl hi), rfl, (show _ = _ from hcw 13 i hi).trans rfl⟩) (fun i hi => ⟨Or.inl (Or.inl hi), rfl, (show _ = _ from hcw 14 i hi).trans rfl⟩) (fun i hi => ⟨Or.inl (Or.inl hi), rfl, (show _ = _ from hcw 15 i hi).trans rfl⟩) (fun i hi => ⟨Or.inl (Or.inl hi), rfl, (show _ = _ from hcw 16 i hi).trans rfl⟩) (fun i hi => ⟨Or.inl (Or.inl hi), rfl, (show _ = _ from hcw 17 i hi).trans rfl⟩)
  · intro i hi
    subst hi
    exact ⟨Or.inl (Or.inl rfl), rfl, rfl⟩
  · refine fun i hi => ⟨Or.inl (Or.inl hi), rfl, ?_⟩
    rw [u2_x (by decide)]
    by_cases h6 : i = 0
    · subst h6
      rw [u2_s]
      show _ = rfs dA 2 60 (coF (u2 (u2 ad 5 (nC S) a5) 4 (nC S) a4) (cnS S kd name bo))
      congr 5
      funext j
      unfold coF
      rw [hnC]
      by_cases hj : j = nC S
      · subst hj; rw [va_up_self, if_pos (by omega), b4]
      · rw [va_up_ne _ _ hj]
        by_cases hl : j < nC S
        · rw [if_pos hl, if_pos (by omega), hag 4 j hl]
        · rw [if_neg hl, if_neg (by omega)]
    · rw [u2_n (fun z => h6 z.2)]
      refine (show _ = _ from hcw 1 i hi).trans ?_
      rcases hi with rfl | rfl | rfl | rfl | rfl | rfl | rfl <;> first | (exact absurd rfl h6; done) | rfl
  · refine fun i hi => ⟨Or.inl (Or.inl hi), rfl, ?_⟩
    rw [cw_2, u2_x (by decide), u2_x (by decide), show (cnS S kd name bo).2.1 6 i = _ from ap_6]
    by_cases e : i = 3 * kd
    · subst e; rw [u2_s, if_pos rfl]; rfl
    · rw [u2_n (fun z => e z.2), if_neg e]; rfl
  · refine fun i hi => ⟨Or.inl (Or.inl hi), rfl, ?_⟩
    have hi' : i < 18 := hi
    have hln := ap_ln (ad := u2 (u2 ad 5 (nC S) a5) 4 (nC S) a4) (S := coS S (nI kd) name bo) (b := 3 * kd) (c := nC S) (b' := i) (co_Ib I hk) (by rw [co_nC I]; omega) hi' (show mb S (3 * kd) < 60 by omega) (by omega)
    rw [cw_3, show lnF (u2 (u2 ad 5 (nC S) a5) 4 (nC S) a4) (cnS S kd name bo) i = _ from hln, u2_x (by decide), u2_x (by decide), u2_x (by decide), b4, hlnS _ (by omega), hlnS _ hi']
    by_cases e : i = 3 * kd
    · subst e; rw [u2_s, if_pos rfl]; rfl
    · rw [u2_n (fun z => e z.2), if_neg e]; rfl
  · intro i hi
    have hi' : i < nC S + 1 := hnC ▸ hi
    have e3 : (cnS S kd name bo).2.1 3 i = if i = nC S then bo else S.2.1 3 i := by
      show u2 (u2 S.2.1 1 (nC S) (nI kd)) 3 (nC S) bo 3 i = _
      rw [u2_e]
      by_cases e : i = nC S
      · rw [if_pos ⟨rfl, e⟩, if_pos e]
      · rw [if_neg (fun z => e z.2), if_neg e]; rfl
    by_cases e : i = nC S
    · subst e
      obtain ⟨z4, z5⟩ := I.2.2.2.2.2.2.2.2 (nC S) (Nat.le_refl _) h60
      refine ⟨Or.inr ⟨rfl, rfl⟩, rfl, ?_⟩
      refine (u2_x (by decide)).trans ((u2_x (by decide)).trans ((u2_x (by decide)).trans ((u2_x (by decide)).trans (u2_s.trans ?_))))
      rw [cw_4, e3, if_pos rfl, b5, show (cnS S kd name bo).2.1 4 (nC S) = 0 from z4, show (cnS S kd name bo).2.1 5 (nC S) = 0 from z5]
    · have hl : i < nC S := by omega
      refine ⟨Or.inl (Or.inl hl), rfl, ?_⟩
      refine (u2_x (by decide)).trans ((u2_x (by decide)).trans ((u2_x (by decide)).trans ((u2_x (by decide)).trans ((u2_n (fun z => e z.2)).trans ((u2_x (by decide)).trans ((u2_x (by decide)).trans ((hcw 4 i hl).trans ?_)))))))
      rw [cw_4, cw_4, e3, if_neg e]; rfl
  · intro i hi
    have hi' : i < nC S + 1 := hnC ▸ hi
    have e1 : (cnS S kd name bo).2.1 1 i = if i = nC S then nI kd else S.2.1 1 i := by
      show u2 (u2 S.2.1 1 (nC S) (nI kd)) 3 (nC S) bo 1 i = _
      rw [u2_x (by decide), u2_e]
      by_cases e : i = nC S
      · rw [if_pos ⟨rfl, e⟩, if_pos e]
      · rw [if_neg (fun z => e z.2), if_neg e]
    have e2 : (cnS S kd name bo).2.2 i = if i = nC S then name else S.2.2 i := u1_e
    by_cases e : i = nC S
    · subst e
      refine ⟨Or.inl (Or.inr ⟨rfl, rfl⟩), rfl, ?_⟩
      refine (u2_x (by decide)).trans ((u2_x (by decide)).trans ((u2_x (by decide)).trans ((u2_x (by decide)).trans ((u2_x (by decide)).trans (u2_s.trans ?_)))))
      rw [cw_5, e1, e2, if_pos rfl, if_pos rfl, co_new I hk h60, hm, I.1.1]
    · have hl : i < nC S := by omega
      refine ⟨Or.inl (Or.inl hl), rfl, ?_⟩
      refine (u2_x (by decide)).trans ((u2_x (by decide)).trans ((u2_x (by decide)).trans ((u2_x (by decide)).trans ((u2_x (by decide)).trans ((u2_n (fun z => e z.2)).trans ((u2_n (fun z => e z.2)).trans ((hcw 5 i hl).trans ?_)))))))
      rw [cw_5, cw_5, e1, e2, if_neg e, if_neg e, co_old I hk h60 hl]
