/-! ===== the constructors: pictures on the way ===== -/
def cI1 (dA : Nat → ClassId) (ad : Nat → Nat → Nat) (i j s n : Nat) : va_E := match Nat.beq n 0 with
  | true => rfs dA 2 60 (fun _ => none)
  | false => match Nat.beq n 2 with
  | true => rfs dA 3 18 (fun q => if q < i then some (ad 2 q) else none)
  | false => match Nat.beq n 3 with
  | true => ins dA 6 (fun q => if q < j then -3 else 0)
  | false => match Nat.beq n 6 with
  | true => rfs dA 4 10 (fun _ => none)
  | false => match Nat.beq n 7 with
  | true => rfs dA 5 6 (fun q => if q < s then some (ad 11 q) else none)
  | false => match Nat.beq n 8 with
  | true => ins dA 5 (fun _ => 0)
  | false => ins dA 5 (fun _ => 0)
def cI (dA : Nat → ClassId) (ad : Nat → Nat → Nat) (i j s : Nat) : Nat → Nat → va_E := fun k n => match Nat.beq k 0 with
  | true => .inr (9, [.ref (ad 1 0), .int 0, .ref (ad 1 2), .ref (ad 1 3), .int 0, .int 0, .ref (ad 1 6), .ref (ad 1 7), .ref (ad 1 8), .ref (ad 1 9), .int 0, .int 0, .int (-3)])
  | false => match Nat.beq k 1 with
  | true => cI1 dA ad i j s n
  | false => match Nat.beq k 2 with
  | true => .inr (0, [.ref (ad 3 n), .int 0])
  | false => match Nat.beq k 3 with
  | true => rfs dA 2 60 (fun _ => none)
  | false => match Nat.beq k 11 with
  | true => .inr (7, [.int (nI n), .ref (ad 12 n), .ref (ad 13 n), .int 0, .ref (ad 14 n), .int 0])
  | false => match Nat.beq k 12 with
  | true => ins dA 5 (fun _ => 0)
  | false => match Nat.beq k 13 with
  | true => ins dA 5 (fun _ => 0)
  | false => match Nat.beq k 14 with
  | true => rfs dA 6 4 (fun _ => none)
  | false => .inr (0, [])
def dmI (i s : Nat) : Nat → Nat → Prop := fun k n => match Nat.beq k 0 with
  | true => n = 0
  | false => match Nat.beq k 1 with
  | true => n = 0 ∨ n = 2 ∨ n = 3 ∨ n = 6 ∨ n = 7 ∨ n = 8 ∨ n = 9
  | false => match Nat.beq k 2 with
  | true => n < i
  | false => match Nat.beq k 3 with
  | true => n < i
  | false => match Nat.beq k 11 with
  | true => n < s
  | false => match Nat.beq k 12 with
  | true => n < s
  | false => match Nat.beq k 13 with
  | true => n < s
  | false => match Nat.beq k 14 with
  | true => n < s
  | false => False
theorem dmI_big {i s k n : Nat} (h : dmI i s k n) : k < 15 := by
  rcases Nat.lt_or_ge k 15 with z | z
  · exact z
  · exfalso
    obtain ⟨j, rfl⟩ : ∃ j, k = j + 15 := ⟨k - 15, by omega⟩
    exact h
theorem dmI_cases {P : Nat → Nat → Prop} {i s : Nat} (h0 : P 0 0) (g10 : P 1 0) (g12 : P 1 2) (g13 : P 1 3) (g16 : P 1 6) (g17 : P 1 7) (g18 : P 1 8) (g19 : P 1 9) (h2 : ∀ n, n < i → P 2 n) (h3 : ∀ n, n < i → P 3 n) (h11 : ∀ n, n < s → P 11 n) (h12 : ∀ n, n < s → P 12 n) (h13 : ∀ n, n < s → P 13 n) (h14 : ∀ n, n < s → P 14 n) : ∀ k n, dmI i s k n → P k n := by
  intro k n hd
  match k, dmI_big hd with
  | 0, _ => obtain rfl : n = 0 := hd; exact h0
  | 1, _ =>
    rcases (show n = 0 ∨ n = 2 ∨ n = 3 ∨ n = 6 ∨ n = 7 ∨ n = 8 ∨ n = 9 from hd) with rfl | rfl | rfl | rfl | rfl | rfl | rfl
    · exact g10
    · exact g12
    · exact g13
    · exact g16
    · exact g17
    · exact g18
    · exact g19
  | 2, _ => exact h2 n hd
  | 3, _ => exact h3 n hd
  | 4, _ => exact absurd hd (fun z => z)
  | 5, _ => exact absurd hd (fun z => z)
  | 6, _ => exact absurd hd (fun z => z)
  | 7, _ => exact absurd hd (fun z => z)
  | 8, _ => exact absurd hd (fun z => z)
  | 9, _ => exact absurd hd (fun z => z)
  | 10, _ => exact absurd hd (fun z => z)
  | 11, _ => exact h11 n hd
  | 12, _ => exact h12 n hd
  | 13, _ => exact h13 n hd
  | 14, _ => exact h14 n hd
  | q + 15, h => exact absurd h (by omega)
theorem no_0 {α : Type} {f g : Nat → α} : (fun q => if q < 0 then f q else g q) = g := by
  funext q; exact if_neg (by omega)
theorem up_i {ad ad' : Nat → Nat} {i a : Nat} (h : ∀ q, q < i → ad' q = ad q) (hi : ad' i = a) : va_up (fun q => if q < i then some (ad q) else none) i (some a) = fun q => if q < i + 1 then some (ad' q) else none := by
  funext q
  by_cases e : q = i
  · subst e; rw [va_up_self, if_pos (by omega), hi]
  · rw [va_up_ne _ _ e]
    by_cases hq : q < i
    · rw [if_pos hq, if_pos (by omega), h q hq]
    · rw [if_neg hq, if_neg (by omega)]
theorem up_j {j : Nat} : upd (fun q => if q < j then (-3 : Int32) else 0) j (-3) = fun q => if q < j + 1 then (-3 : Int32) else 0 := by
  funext q
  unfold upd
  by_cases e : q = j
  · rw [if_pos e, if_pos (by omega)]
  · rw [if_neg e]
    show (if q < j then (-3 : Int32) else 0) = _
    by_cases hq : q < j
    · rw [if_pos hq, if_pos (by omega)]
    · rw [if_neg hq, if_neg (by omega)]
theorem fa_0 : FA 0 "ConstantKinds$Build" := ⟨RX0, TX0, 2, rfl, Or.inl (by decide +kernel)⟩
theorem fa_7 : FA 7 "ConstantKinds$Shape" := ⟨RX8, TX8, 6, rfl, Or.inl (by decide +kernel)⟩
theorem bI_cv {dA : Nat → ClassId} {ad : Nat → Nat → Nat} {i a c : Nat} {Z : va_E} : ∀ k n, dmI (i + 1) 0 k n → dmU (dmU (dmI i 0) 2 i) 3 i k n ∧ (u2 (u2 ad 2 i a) 3 i c) k n = (u2 (u2 ad 2 i a) 3 i c) k n ∧ u2 (u2 (u2 (u2 (cI dA ad i 0 0) 2 i Z) 3 i (rfs dA 2 60 (fun _ => none))) 2 i (.inr (0, [.ref c, .int 0]))) 1 2 (rfs dA 3 18 (va_up (fun q => if q < i then some (ad 2 q) else none) i (some a))) k n = cI dA (u2 (u2 ad 2 i a) 3 i c) (i + 1) 0 0 k n := by
  refine dmI_cases ⟨Or.inl (Or.inl rfl), rfl, rfl⟩ ⟨Or.inl (Or.inl (Or.inl rfl)), rfl, rfl⟩ ⟨Or.inl (Or.inl (Or.inr (Or.inl rfl))), rfl, ?_⟩ ⟨Or.inl (Or.inl (Or.inr (Or.inr (Or.inl rfl)))), rfl, rfl⟩ ⟨Or.inl (Or.inl (Or.inr (Or.inr (Or.inr (Or.inl rfl))))), rfl, rfl⟩ ⟨Or.inl (Or.inl (Or.inr (Or.inr (Or.inr (Or.inr (Or.inl rfl)))))), rfl, ?_⟩ ⟨Or.inl (Or.inl (Or.inr (Or.inr (Or.inr (Or.inr (Or.inr (Or.inl rfl))))))), rfl, rfl⟩ ⟨Or.inl (Or.inl (Or.inr (Or.inr (Or.inr (Or.inr (Or.inr (Or.inr rfl))))))), rfl, rfl⟩ ?_ ?_ (fun n h => absurd h (by omega)) (fun n h => absurd h (by omega)) (fun n h => absurd h (by omega)) (fun n h => absurd h (by omega))
  · refine u2_s.trans ?_
    show _ = rfs dA 3 18 (fun q => if q < i + 1 then some ((u2 (u2 ad 2 i a) 3 i c) 2 q) else none)
    rw [up_i (ad' := (u2 (u2 ad 2 i a) 3 i c) 2) (fun q hq => (u2_x (by decide)).trans (u2_n (fun z => absurd z.2 (by omega)))) ((u2_x (by decide)).trans u2_s)]
  · show rfs dA 5 6 (fun q => if q < 0 then some (ad 11 q) else none) = rfs dA 5 6 (fun q => if q < 0 then some ((u2 (u2 ad 2 i a) 3 i c) 11 q) else none)
    rw [no_0, no_0]
  · intro n hn
    by_cases e : n = i
    · subst e
      exact ⟨Or.inl (Or.inr ⟨rfl, rfl⟩), rfl, (u2_x (by decide)).trans (u2_s.trans (show Sum.inr (0, [Value.ref c, Value.int 0]) = Sum.inr (0, [Value.ref ((u2 (u2 ad 2 n a) 3 n c) 3 n), Value.int 0]) by rw [u2_s]))⟩
    · exact ⟨Or.inl (Or.inl (show n < i by omega)), rfl, (u2_x (by decide)).trans ((u2_n (fun z => e z.2)).trans ((u2_x (by decide)).trans ((u2_n (fun z => e z.2)).trans (by
        show Sum.inr (0, [Value.ref (ad 3 n), Value.int 0]) = Sum.inr (0, [Value.ref ((u2 (u2 ad 2 i a) 3 i c) 3 n), Value.int 0])
        rw [u2_n (fun z => e z.2), u2_x (by decide)]))))⟩
  · intro n hn
    by_cases e : n = i
    · subst e
      exact ⟨Or.inr ⟨rfl, rfl⟩, rfl, (u2_x (by decide)).trans ((u2_x (by decide)).trans u2_s)⟩
    · exact ⟨Or.inl (Or.inl (show n < i by omega)), rfl, (u2_x (by decide)).trans ((u2_x (by decide)).trans ((u2_n (fun z => e z.2)).trans (u2_x (by decide))))⟩
theorem jI_cv {dA : Nat → ClassId} {ad : Nat → Nat → Nat} {j : Nat} : ∀ k n, dmI 18 0 k n → dmI 18 0 k n ∧ ad k n = ad k n ∧ u2 (cI dA ad 18 j 0) 1 3 (ins dA 6 (upd (fun q => if q < j then -3 else 0) j (-3))) k n = cI dA ad 18 (j + 1) 0 k n := by
  refine dmI_cases ⟨rfl, rfl, rfl⟩ ⟨Or.inl rfl, rfl, rfl⟩ ⟨Or.inr (Or.inl rfl), rfl, rfl⟩ ⟨Or.inr (Or.inr (Or.inl rfl)), rfl, ?_⟩ ⟨Or.inr (Or.inr (Or.inr (Or.inl rfl))), rfl, rfl⟩ ⟨Or.inr (Or.inr (Or.inr (Or.inr (Or.inl rfl)))), rfl, rfl⟩ ⟨Or.inr (Or.inr (Or.inr (Or.inr (Or.inr (Or.inl rfl))))), rfl, rfl⟩ ⟨Or.inr (Or.inr (Or.inr (Or.inr (Or.inr (Or.inr rfl))))), rfl, rfl⟩ (fun n h => ⟨h, rfl, rfl⟩) (fun n h => ⟨h, rfl, rfl⟩) (fun n h => absurd h (by omega)) (fun n h => absurd h (by omega)) (fun n h => absurd h (by omega)) (fun n h => absurd h (by omega))
  rw [u2_s, up_j]; rfl
theorem sI_cv {dA : Nat → ClassId} {ad : Nat → Nat → Nat} {s a b c d : Nat} {Z : va_E} : ∀ k n, dmI 18 (s + 1) k n → dmU (dmU (dmU (dmU (dmI 18 s) 11 s) 12 s) 13 s) 14 s k n ∧ (u2 (u2 (u2 (u2 ad 11 s a) 12 s b) 13 s c) 14 s d) k n = (u2 (u2 (u2 (u2 ad 11 s a) 12 s b) 13 s c) 14 s d) k n ∧ u2 (u2 (u2 (u2 (u2 (u2 (cI dA ad 18 6 s) 11 s Z) 12 s (ins dA 5 (fun _ => 0))) 13 s (ins dA 5 (fun _ => 0))) 14 s (rfs dA 6 4 (fun _ => none))) 11 s (.inr (7, [.int (nI s), .ref b, .ref c, .int 0, .ref d, .int 0]))) 1 7 (rfs dA 5 6 (va_up (fun q => if q < s then some (ad 11 q) else none) s (some a))) k n = cI dA (u2 (u2 (u2 (u2 ad 11 s a) 12 s b) 13 s c) 14 s d) 18 6 (s + 1) k n := by
  refine dmI_cases ⟨Or.inl (Or.inl (Or.inl (Or.inl rfl))), rfl, rfl⟩ ⟨Or.inl (Or.inl (Or.inl (Or.inl (Or.inl rfl)))), rfl, rfl⟩ ⟨Or.inl (Or.inl (Or.inl (Or.inl (Or.inr (Or.inl rfl))))), rfl, rfl⟩ ⟨Or.inl (Or.inl (Or.inl (Or.inl (Or.inr (Or.inr (Or.inl rfl)))))), rfl, rfl⟩ ⟨Or.inl (Or.inl (Or.inl (Or.inl (Or.inr (Or.inr (Or.inr (Or.inl rfl))))))), rfl, rfl⟩ ⟨Or.inl (Or.inl (Or.inl (Or.inl (Or.inr (Or.inr (Or.inr (Or.inr (Or.inl rfl)))))))), rfl, ?_⟩ ⟨Or.inl (Or.inl (Or.inl (Or.inl (Or.inr (Or.inr (Or.inr (Or.inr (Or.inr (Or.inl rfl))))))))), rfl, rfl⟩ ⟨Or.inl (Or.inl (Or.inl (Or.inl (Or.inr (Or.inr (Or.inr (Or.inr (Or.inr (Or.inr rfl))))))))), rfl, rfl⟩ (fun n h => ⟨Or.inl (Or.inl (Or.inl (Or.inl h))), rfl, rfl⟩) (fun n h => ⟨Or.inl (Or.inl (Or.inl (Or.inl h))), rfl, rfl⟩) ?_ ?_ ?_ ?_
  · refine u2_s.trans ?_
    show _ = rfs dA 5 6 (fun q => if q < s + 1 then some ((u2 (u2 (u2 (u2 ad 11 s a) 12 s b) 13 s c) 14 s d) 11 q) else none)
    rw [up_i (ad' := (u2 (u2 (u2 (u2 ad 11 s a) 12 s b) 13 s c) 14 s d) 11) (fun q hq => (u2_x (by decide)).trans ((u2_x (by decide)).trans ((u2_x (by decide)).trans (u2_n (fun z => absurd z.2 (by omega)))))) ((u2_x (by decide)).trans ((u2_x (by decide)).trans ((u2_x (by decide)).trans u2_s)))]
  · intro n hn
    by_cases e : n = s
    · subst e
      refine ⟨Or.inl (Or.inl (Or.inl (Or.inr ⟨rfl, rfl⟩))), rfl, (u2_x (by decide)).trans (u2_s.trans ?_)⟩
      show _ = Sum.inr (7, [Value.int (nI n), .ref (u2 (u2 (u2 (u2 ad 11 n a) 12 n b) 13 n c) 14 n d 12 n), .ref (u2 (u2 (u2 (u2 ad 11 n a) 12 n b) 13 n c) 14 n d 13 n), .int 0, .ref (u2 (u2 (u2 (u2 ad 11 n a) 12 n b) 13 n c) 14 n d 14 n), .int 0])
      rw [u2_s, u2_x (k' := 12) (by decide), u2_x (k' := 12) (by decide), u2_s, u2_x (k' := 13) (by decide), u2_s]
    · refine ⟨Or.inl (Or.inl (Or.inl (Or.inl (show n < s by omega)))), rfl, (u2_x (by decide)).trans ((u2_n (fun z => e z.2)).trans ((u2_x (by decide)).trans ((u2_x (by decide)).trans ((u2_x (by decide)).trans ((u2_n (fun z => e z.2)).trans ?_)))))⟩
      show Sum.inr (7, [Value.int (nI n), .ref (ad 12 n), .ref (ad 13 n), .int 0, .ref (ad 14 n), .int 0]) = Sum.inr (7, [Value.int (nI n), .ref ((u2 (u2 (u2 (u2 ad 11 s a) 12 s b) 13 s c) 14 s d) 12 n), .ref ((u2 (u2 (u2 (u2 ad 11 s a) 12 s b) 13 s c) 14 s d) 13 n), .int 0, .ref ((u2 (u2 (u2 (u2 ad 11 s a) 12 s b) 13 s c) 14 s d) 14 n), .int 0])
      rw [u2_n (k := 14) (k' := 14) (fun z => e z.2), u2_x (k := 13) (k' := 14) (by decide), u2_x (k := 12) (k' := 14) (by decide), u2_x (k := 11) (k' := 14) (by decide), u2_x (k := 14) (k' := 13) (by decide), u2_n (k := 13) (k' := 13) (fun z => e z.2), u2_x (k := 12) (k' := 13) (by decide), u2_x (k := 11) (k' := 13) (by decide), u2_x (k := 14) (k' := 12) (by decide), u2_x (k := 13) (k' := 12) (by decide), u2_n (k := 12) (k' := 12) (fun z => e z.2), u2_x (k := 11) (k' := 12) (by decide)]
  · intro n hn
    by_cases e : n = s
    · subst e
      exact ⟨Or.inl (Or.inl (Or.inr ⟨rfl, rfl⟩)), rfl, (u2_x (by decide)).trans ((u2_x (by decide)).trans ((u2_x (by decide)).trans ((u2_x (by decide)).trans u2_s)))⟩
    · exact ⟨Or.inl (Or.inl (Or.inl (Or.inl (show n < s by omega)))), rfl, (u2_x (by decide)).trans ((u2_x (by decide)).trans ((u2_x (by decide)).trans ((u2_x (by decide)).trans ((u2_n (fun z => e z.2)).trans (u2_x (by decide))))))⟩
  · intro n hn
    by_cases e : n = s
    · subst e
      exact ⟨Or.inl (Or.inr ⟨rfl, rfl⟩), rfl, (u2_x (by decide)).trans ((u2_x (by decide)).trans ((u2_x (by decide)).trans u2_s))⟩
    · exact ⟨Or.inl (Or.inl (Or.inl (Or.inl (show n < s by omega)))), rfl, (u2_x (by decide)).trans ((u2_x (by decide)).trans ((u2_x (by decide)).trans ((u2_n (fun z => e z.2)).trans ((u2_x (by decide)).trans (u2_x (by decide))))))⟩
  · intro n hn
    by_cases e : n = s
    · subst e
      exact ⟨Or.inr ⟨rfl, rfl⟩, rfl, (u2_x (by decide)).trans ((u2_x (by decide)).trans u2_s)⟩
    · exact ⟨Or.inl (Or.inl (Or.inl (Or.inl (show n < s by omega)))), rfl, (u2_x (by decide)).trans ((u2_x (by decide)).trans ((u2_n (fun z => e z.2)).trans ((u2_x (by decide)).trans ((u2_x (by decide)).trans (u2_x (by decide))))))⟩
