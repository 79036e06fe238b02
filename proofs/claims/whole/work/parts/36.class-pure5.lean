/-! ===== parts, checks, rows: from raw cells to the state's ===== -/
theorem u2_x {α : Type} {f : Nat → Nat → α} {k i k' i' : Nat} {v : α} (h : k' ≠ k) : u2 f k i v k' i' = f k' i' := u2_n (fun z => h z.1)
theorem pa_17 {S : St} {s x : Nat} {sort k : Int32} : (paS S s sort k).2.1 17 x = if x = 5 * s + pmN S s then sort else S.2.1 17 x := by
  show u2 (u2 (u2 S.2.1 17 (5 * s + pmN S s) sort) 18 (5 * s + pmN S s) k) 16 s (S.2.1 16 s + 1) 17 x = _
  rw [u2_x (by decide), u2_x (by decide), u2_e]
  by_cases e : x = 5 * s + pmN S s
  · rw [if_pos ⟨rfl, e⟩, if_pos e]
  · rw [if_neg (fun z => e z.2), if_neg e]
theorem pa_18 {S : St} {s x : Nat} {sort k : Int32} : (paS S s sort k).2.1 18 x = if x = 5 * s + pmN S s then k else S.2.1 18 x := by
  show u2 (u2 (u2 S.2.1 17 (5 * s + pmN S s) sort) 18 (5 * s + pmN S s) k) 16 s (S.2.1 16 s + 1) 18 x = _
  rw [u2_x (by decide), u2_e]
  by_cases e : x = 5 * s + pmN S s
  · rw [if_pos ⟨rfl, e⟩, if_pos e]
  · rw [if_neg (fun z => e z.2), if_neg e]; rfl
theorem pa_16 {S : St} {s x : Nat} {sort k : Int32} : (paS S s sort k).2.1 16 x = if x = s then S.2.1 16 s + 1 else S.2.1 16 x := by
  show u2 (u2 (u2 S.2.1 17 (5 * s + pmN S s) sort) 18 (5 * s + pmN S s) k) 16 s (S.2.1 16 s + 1) 16 x = _
  rw [u2_e]
  by_cases e : x = s
  · rw [if_pos ⟨rfl, e⟩, if_pos e]
  · rw [if_neg (fun z => e z.2), if_neg e]; rfl
theorem pa_17n {S : St} {t s i p : Nat} {sort k : Int32} (I : Inv S t) (hs : s < 6) (hpm : pmN S s < 5) (hi : i < nD S) (hp : p < pN S i) : (paS S s sort k).2.1 17 (5 * shN S i + p) = S.2.1 17 (5 * shN S i + p) := by
  obtain ⟨-, h6, -, hpi, -⟩ := I.2.2.2.2.2.1.2.2 i hi
  have h5 := (I.2.2.2.2.1 _ h6).2.1
  rw [pa_17, if_neg]
  intro e
  have : shN S i = s := by omega
  rw [this] at e hpi
  omega
theorem pa_cv {dA : Nat → ClassId} {ad : Nat → Nat → Nat} {Sm S : St} {t f s : Nat} {sort k : Int32} (I : Inv S t) (hs : s < 6) (hpm : pmN S s < 5) : ∀ q i, dmW (paS S s sort k) 0 q i → dmW S 0 q i ∧ ad q i = ad q i ∧ u2 (u2 (u2 (cw dA ad Sm S f) 12 s (ins dA 5 (upd (soF S s) (pmN S s) sort))) 13 s (ins dA 5 (upd (liF S s) (pmN S s) k))) 11 s (.inr (7, [.int (nI s), .ref (ad 12 s), .ref (ad 13 s), .int (S.2.1 16 s + 1), .ref (ad 14 s), .int (S.2.1 19 s)])) q i = cw dA ad Sm (paS S s sort k) f q i := by
  refine cw_cases (S := paS S s sort k) (τ := 0) (fun i hi => ⟨hi, rfl, rfl⟩) (fun i hi => ⟨hi, rfl, rfl⟩) (fun i hi => ⟨hi, rfl, rfl⟩) (fun i hi => ⟨hi, rfl, rfl⟩) (fun i hi => ⟨hi, rfl, rfl⟩) (fun i hi => ⟨hi, rfl, rfl⟩) (fun i hi => ⟨hi, rfl, rfl⟩) (fun i hi => ⟨hi, rfl, rfl⟩) (fun i hi => ⟨hi, rfl, rfl⟩) ?_ ?_ ?_ ?_ ?_ (fun i hi => ⟨hi, rfl, rfl⟩) (fun i hi => ⟨hi, rfl, rfl⟩) (fun i hi => ⟨hi, rfl, rfl⟩) (fun i hi => ⟨hi, rfl, rfl⟩)
  · refine fun i hi => ⟨hi, rfl, ?_⟩
    rw [cw_9, show nuF (paS S s sort k) f i = nuF S f i from ?_]
    · rfl
    · funext p
      have hi' : i < nD S := hi
      show (if (flB S f i p && decide ((paS S s sort k).2.1 17 (5 * shN S i + p) = 0)) = true then S.2.1 14 (5 * i + p) else 0) = nuF S f i p
      unfold nuF
      cases hf : flB S f i p with
      | false => rfl
      | true =>
        unfold flB at hf
        rw [Bool.and_eq_true] at hf
        rw [pa_17n I hs hpm hi' (of_decide_eq_true hf.2)]
  · refine fun i hi => ⟨hi, rfl, ?_⟩
    rw [cw_10, show thF ad (paS S s sort k) f i = thF ad S f i from ?_]
    · rfl
    · funext p
      have hi' : i < nD S := hi
      show (if (flB S f i p && !decide ((paS S s sort k).2.1 17 (5 * shN S i + p) = 0)) = true then tr ad (S.2.1 14 (5 * i + p)) else none) = thF ad S f i p
      unfold thF
      cases hf : flB S f i p with
      | false => rfl
      | true =>
        unfold flB at hf
        rw [Bool.and_eq_true] at hf
        rw [pa_17n I hs hpm hi' (of_decide_eq_true hf.2)]
  · refine fun i hi => ⟨hi, rfl, ?_⟩
    rw [cw_11, pa_16]
    by_cases e : i = s
    · subst e; rw [u2_s, if_pos rfl]; rfl
    · rw [u2_n (fun z => e z.2), if_neg e]; rfl
  · refine fun i hi => ⟨hi, rfl, ?_⟩
    rw [cw_12, u2_x (by decide), u2_x (by decide)]
    have hso : ∀ p, soF (paS S s sort k) i p = if p < 5 then (if 5 * i + p = 5 * s + pmN S s then sort else S.2.1 17 (5 * i + p)) else 0 := fun p => by
      show (if p < 5 then (paS S s sort k).2.1 17 (5 * i + p) else 0) = _
      rw [pa_17]
    by_cases e : i = s
    · subst e
      rw [u2_s, show soF (paS S i sort k) i = upd (soF S i) (pmN S i) sort from ?_]
      funext p
      rw [hso]
      unfold upd soF
      by_cases hp : p = pmN S i
      · subst hp; rw [if_pos hpm, if_pos rfl, if_pos rfl]
      · rw [if_neg (show ¬ 5 * i + p = 5 * i + pmN S i by omega), if_neg hp]
    · rw [u2_n (fun z => e z.2), show soF (paS S s sort k) i = soF S i from ?_]
      · rfl
      · funext p
        rw [hso]
        unfold soF
        by_cases hp : p < 5
        · rw [if_pos hp, if_pos hp, if_neg (by omega)]
        · rw [if_neg hp, if_neg hp]
  · refine fun i hi => ⟨hi, rfl, ?_⟩
    rw [cw_13, u2_x (by decide)]
    have hso : ∀ p, liF (paS S s sort k) i p = if p < 5 then (if 5 * i + p = 5 * s + pmN S s then k else S.2.1 18 (5 * i + p)) else 0 := fun p => by
      show (if p < 5 then (paS S s sort k).2.1 18 (5 * i + p) else 0) = _
      rw [pa_18]
    by_cases e : i = s
    · subst e
      rw [u2_s, show liF (paS S i sort k) i = upd (liF S i) (pmN S i) k from ?_]
      funext p
      rw [hso]
      unfold upd liF
      by_cases hp : p = pmN S i
      · subst hp; rw [if_pos hpm, if_pos rfl, if_pos rfl]
      · rw [if_neg (show ¬ 5 * i + p = 5 * i + pmN S i by omega), if_neg hp]
    · rw [u2_n (fun z => e z.2), show liF (paS S s sort k) i = liF S i from ?_]
      · rfl
      · funext p
        rw [hso]
        unfold liF
        by_cases hp : p < 5
        · rw [if_pos hp, if_pos hp, if_neg (by omega)]
        · rw [if_neg hp, if_neg hp]
/-! a new CHECK -/
theorem ch_19 {S : St} {s x : Nat} {kd a b : Int32} : (chS S s kd a b).2.1 19 x = if x = s then S.2.1 19 s + 1 else S.2.1 19 x := by
  show u2 (u2 (u2 (u2 S.2.1 20 (4 * s + cmN S s) kd) 21 (4 * s + cmN S s) a) 22 (4 * s + cmN S s) b) 19 s (S.2.1 19 s + 1) 19 x = _
  rw [u2_e]
  by_cases e : x = s
  · rw [if_pos ⟨rfl, e⟩, if_pos e]
  · rw [if_neg (fun z => e z.2), if_neg e]; rfl
theorem ch_cm {S : St} {t s x : Nat} {kd a b : Int32} (I : Inv S t) (hs : s < 6) : cmN (chS S s kd a b) x = if x = s then cmN S s + 1 else cmN S x := by
  obtain ⟨-, -, hc, hc4, -⟩ := I.2.2.2.2.1 s hs
  unfold cmN
  rw [ch_19]
  by_cases e : x = s
  · rw [if_pos e, if_pos e, hc, show nI (cmN S s) + 1 = nI (cmN S s + 1) from inc1 _, nI_clamp (by omega), nI_clamp (by omega)]
  · rw [if_neg e, if_neg e]
theorem ch_cv {dA : Nat → ClassId} {ad : Nat → Nat → Nat} {Sm S : St} {t f s a0 : Nat} {kd a b : Int32} {z : va_E} (I : Inv S t) (hs : s < 6) (hcm : cmN S s < 4) : ∀ q i, dmW (chS S s kd a b) 0 q i → dmU (dmW S 0) 15 (4 * s + cmN S s) q i ∧ u2 ad 15 (4 * s + cmN S s) a0 q i = u2 ad 15 (4 * s + cmN S s) a0 q i ∧ u2 (u2 (u2 (u2 (cw dA ad Sm S f) 15 (4 * s + cmN S s) z) 15 (4 * s + cmN S s) (.inr (1, [.int kd, .int a, .int b]))) 14 s (rfs dA 6 4 (va_up (ckR ad S s) (cmN S s) (some a0)))) 11 s (.inr (7, [.int (nI s), .ref (ad 12 s), .ref (ad 13 s), .int (S.2.1 16 s), .ref (ad 14 s), .int (S.2.1 19 s + 1)])) q i = cw dA (u2 ad 15 (4 * s + cmN S s) a0) Sm (chS S s kd a b) f q i := by
  have hag : ∀ k i, dmW S 0 k i → u2 ad 15 (4 * s + cmN S s) a0 k i = ad k i := fun k i hd => by
    apply u2_n
    rintro ⟨rfl, rfl⟩
    have h2 := hd.2
    rw [show (4 * s + cmN S s) / 4 = s by omega, show (4 * s + cmN S s) % 4 = cmN S s by omega] at h2
    omega
  have hcw := cw_ad (dA := dA) (Sm := Sm) (f := f) (ad := ad) (ad' := u2 ad 15 (4 * s + cmN S s) a0) I (fun _ => rfl) (fun _ => rfl) (fun _ => rfl) (fun _ => rfl) hag
  refine cw_cases (S := chS S s kd a b) (τ := 0) (fun i hi => ⟨Or.inl hi, rfl, hcw 0 i hi⟩) (fun i hi => ⟨Or.inl hi, rfl, hcw 1 i hi⟩) (fun i hi => ⟨Or.inl hi, rfl, hcw 2 i hi⟩) (fun i hi => ⟨Or.inl hi, rfl, hcw 3 i hi⟩) (fun i hi => ⟨Or.inl hi, rfl, hcw 4 i hi⟩) (fun i hi => ⟨Or.inl hi, rfl, hcw 5 i hi⟩) (fun i hi => ⟨Or.inl hi, rfl, hcw 6 i hi⟩) (fun i hi => ⟨Or.inl hi, rfl, hcw 7 i hi⟩) (fun i hi => ⟨Or.inl hi, rfl, hcw 8 i hi⟩) (fun i hi => ⟨Or.inl hi, rfl, hcw 9 i hi⟩) (fun i hi => ⟨Or.inl hi, rfl, hcw 10 i hi⟩) ?_ (fun i hi => ⟨Or.inl hi, rfl, hcw 12 i hi⟩) (fun i hi => ⟨Or.inl hi, rfl, hcw 13 i hi⟩) ?_ ?_ (fun i hi => ⟨Or.inl hi, rfl, hcw 16 i hi⟩) (fun i hi => ⟨Or.inl hi, rfl, hcw 17 i hi⟩)
  · refine fun i hi => ⟨Or.inl hi, rfl, ?_⟩
    rw [cw_11, ch_19]
    by_cases e : i = s
    · subst e; rw [u2_s, if_pos rfl]; rfl
    · rw [u2_n (fun z => e z.2), if_neg e]; exact hcw 11 i hi
  · refine fun i hi => ⟨Or.inl hi, rfl, ?_⟩
    have hi' : i < 6 := hi
    rw [cw_14, u2_x (by decide)]
    have hck : ∀ c, ckR (u2 ad 15 (4 * s + cmN S s) a0) (chS S s kd a b) i c = if c < (if i = s then cmN S s + 1 else cmN S i) then some (u2 ad 15 (4 * s + cmN S s) a0 15 (4 * i + c)) else none := fun c => by
      show (if c < cmN (chS S s kd a b) i then some (u2 ad 15 (4 * s + cmN S s) a0 15 (4 * i + c)) else none) = _
      rw [ch_cm I hs]
    have hc4 := (I.2.2.2.2.1 i hi').2.2.2.1
    by_cases e : i = s
    · subst e
      rw [u2_s, show ckR (u2 ad 15 (4 * i + cmN S i) a0) (chS S i kd a b) i = va_up (ckR ad S i) (cmN S i) (some a0) from ?_]
      funext c
      rw [hck, if_pos rfl]
      by_cases hc : c = cmN S i
      · subst hc; rw [va_up_self, if_pos (by omega), u2_s]
      · rw [va_up_ne _ _ hc]
        unfold ckR
        by_cases hl : c < cmN S i
        · rw [if_pos (by omega), if_pos hl, u2_n (fun z => hc (by have := z.2; omega))]
        · rw [if_neg (by omega), if_neg hl]
    · rw [u2_n (fun z => e z.2), show ckR (u2 ad 15 (4 * s + cmN S s) a0) (chS S s kd a b) i = ckR ad S i from ?_]
      · rfl
      · funext c
        rw [hck, if_neg e]
        unfold ckR
        by_cases hl : c < cmN S i
        · rw [if_pos hl, if_pos hl, u2_n (fun z => e (by have := z.2; omega))]
        · rw [if_neg hl, if_neg hl]
  · intro i hi
    obtain ⟨h24, hlt⟩ := hi
    rw [ch_cm I hs] at hlt
    have e20 : (chS S s kd a b).2.1 20 i = if i = 4 * s + cmN S s then kd else S.2.1 20 i := by
      show u2 (u2 (u2 (u2 S.2.1 20 (4 * s + cmN S s) kd) 21 (4 * s + cmN S s) a) 22 (4 * s + cmN S s) b) 19 s (S.2.1 19 s + 1) 20 i = _
      rw [u2_x (by decide), u2_x (by decide), u2_x (by decide), u2_e]
      by_cases e : i = 4 * s + cmN S s
      · rw [if_pos ⟨rfl, e⟩, if_pos e]
      · rw [if_neg (fun z => e z.2), if_neg e]
    have e21 : (chS S s kd a b).2.1 21 i = if i = 4 * s + cmN S s then a else S.2.1 21 i := by
      show u2 (u2 (u2 (u2 S.2.1 20 (4 * s + cmN S s) kd) 21 (4 * s + cmN S s) a) 22 (4 * s + cmN S s) b) 19 s (S.2.1 19 s + 1) 21 i = _
      rw [u2_x (by decide), u2_x (by decide), u2_e]
      by_cases e : i = 4 * s + cmN S s
      · rw [if_pos ⟨rfl, e⟩, if_pos e]
      · rw [if_neg (fun z => e z.2), if_neg e]; rfl
    have e22 : (chS S s kd a b).2.1 22 i = if i = 4 * s + cmN S s then b else S.2.1 22 i := by
      show u2 (u2 (u2 (u2 S.2.1 20 (4 * s + cmN S s) kd) 21 (4 * s + cmN S s) a) 22 (4 * s + cmN S s) b) 19 s (S.2.1 19 s + 1) 22 i = _
      rw [u2_x (by decide), u2_e]
      by_cases e : i = 4 * s + cmN S s
      · rw [if_pos ⟨rfl, e⟩, if_pos e]
      · rw [if_neg (fun z => e z.2), if_neg e]; rfl
    by_cases e : i = 4 * s + cmN S s
    · refine ⟨Or.inr ⟨rfl, e⟩, rfl, ?_⟩
      rw [cw_15, e20, e21, e22, if_pos e, if_pos e, if_pos e, u2_x (by decide), u2_x (by decide), e, u2_s]
    · refine ⟨Or.inl ⟨h24, ?_⟩, rfl, ?_⟩
      · by_cases e2 : i / 4 = s
        · rw [if_pos e2] at hlt
          rw [e2]
          omega
        · rw [if_neg e2] at hlt; exact hlt
      · rw [cw_15, e20, e21, e22, if_neg e, if_neg e, if_neg e, u2_x (by decide), u2_x (by decide), u2_n (fun z => e z.2), u2_n (fun z => e z.2)]
        rfl
theorem fa_1 : FA 1 "ConstantKinds$Check" := ⟨RX1, TX1, 3, rfl, Or.inl (by decide +kernel)⟩
theorem ckB_a {S : St} {s kd a b : Int32} (h : inB a 0 (S.2.1 16 (tN s) - 1) = false) : ¬ ckB S s kd a b = true := by unfold ckB; rw [h]; simp
theorem ckB_b {S : St} {s kd a b : Int32} (h : inB b 0 (S.2.1 16 (tN s) - 1) = false) : ¬ ckB S s kd a b = true := by unfold ckB; rw [h]; simp
theorem ckB_c {S : St} {s kd a b : Int32} (h : ¬ S.2.1 17 (5 * tN s + tN b) = 0) : ¬ ckB S s kd a b = true := by unfold ckB; rw [decide_eq_false h]; simp
theorem ckB_d {S : St} {s kd a b : Int32} (h : (inB kd 0 5 && fitB kd (S.2.1 17 (5 * tN s + tN a))) = false) : ¬ ckB S s kd a b = true := by
  unfold ckB
  cases h1 : inB kd 0 5
  · simp
  · rw [h1, Bool.true_and] at h; rw [h]; simp
theorem pa_2 (k : Int32) : paB 2 k = true := by
  unfold paB
  rw [show inB (2 : Int32) 0 4 = true from by decide, show decide ((2 : Int32) = 0) = false from by decide, show decide ((2 : Int32) = 1) = false from by decide, show decide ((2 : Int32) = 4) = false from by decide]; rfl
theorem pa_3 (k : Int32) : paB 3 k = true := by
  unfold paB
  rw [show inB (3 : Int32) 0 4 = true from by decide, show decide ((3 : Int32) = 0) = false from by decide, show decide ((3 : Int32) = 1) = false from by decide, show decide ((3 : Int32) = 4) = false from by decide]; rfl
theorem nI_pm (n : Nat) : nI n + 1 - 1 = nI n := by
  rw [show nI n + 1 = nI (n + 1) from inc1 n]; exact nI_pred n
