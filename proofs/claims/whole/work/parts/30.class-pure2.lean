/-! ===== pure rows for the class, second half: switches, classes of things ===== -/
theorem u1_comm {α : Type} {f : Nat → α} {k k' : Nat} {v w : α} (h : k ≠ k') : u1 (u1 f k v) k' w = u1 (u1 f k' w) k v := by
  funext a
  rw [u1_e, u1_e, u1_e, u1_e]
  by_cases h1 : a = k'
  · rw [if_pos h1, if_neg (fun z => h (z.symm.trans h1)), if_pos h1]
  · rw [if_neg h1, if_neg h1]
theorem sw_f {x lo hi : Int32} (h : inB x lo hi = false) : x.toInt < lo.toInt ∨ hi.toInt < x.toInt := by
  by_cases h1 : x.toInt < lo.toInt
  · exact Or.inl h1
  · by_cases h2 : hi.toInt < x.toInt
    · exact Or.inr h2
    · exfalso
      have : inB x lo hi = true := inB_iff.mpr ⟨Int32.le_iff_toInt_le.mpr (by omega), Int32.le_iff_toInt_le.mpr (by omega)⟩
      rw [this] at h; cases h
theorem sw_03 (x : Int32) : x = 0 ∨ x = 1 ∨ x = 2 ∨ x = 3 ∨ (¬ x = 0 ∧ ¬ x = 1 ∧ ¬ x = 2 ∧ ¬ x = 3 ∧ inB x 0 3 = false) := by
  cases h : inB x 0 3 with
  | true =>
    obtain ⟨j, h1, h2, rfl⟩ := inB_l (a := 0) (b := 3) rfl rfl (by decide) (by decide) h
    match j, h2 with
    | 0, _ => exact Or.inl rfl
    | 1, _ => exact Or.inr (Or.inl rfl)
    | 2, _ => exact Or.inr (Or.inr (Or.inl rfl))
    | 3, _ => exact Or.inr (Or.inr (Or.inr (Or.inl rfl)))
    | n + 4, h => omega
  | false =>
    refine Or.inr (Or.inr (Or.inr (Or.inr ⟨?_, ?_, ?_, ?_, rfl⟩))) <;> (intro e; subst e; exact absurd h (by decide))
theorem sw_01 (x : Int32) : x = 0 ∨ x = 1 ∨ (¬ x = 0 ∧ ¬ x = 1) := by
  by_cases h0 : x = 0
  · exact Or.inl h0
  · by_cases h1 : x = 1
    · exact Or.inr (Or.inl h1)
    · exact Or.inr (Or.inr ⟨h0, h1⟩)
theorem sw_05 (x : Int32) : x = 0 ∨ x = 1 ∨ x = 2 ∨ x = 3 ∨ x = 4 ∨ x = 5 ∨ (¬ x = 0 ∧ ¬ x = 1 ∧ ¬ x = 2 ∧ ¬ x = 3 ∧ ¬ x = 4 ∧ ¬ x = 5 ∧ inB x 0 5 = false) := by
  cases h : inB x 0 5 with
  | true =>
    obtain ⟨j, h1, h2, rfl⟩ := inB_l (a := 0) (b := 5) rfl rfl (by decide) (by decide) h
    match j, h2 with
    | 0, _ => exact Or.inl rfl
    | 1, _ => exact Or.inr (Or.inl rfl)
    | 2, _ => exact Or.inr (Or.inr (Or.inl rfl))
    | 3, _ => exact Or.inr (Or.inr (Or.inr (Or.inl rfl)))
    | 4, _ => exact Or.inr (Or.inr (Or.inr (Or.inr (Or.inl rfl))))
    | 5, _ => exact Or.inr (Or.inr (Or.inr (Or.inr (Or.inr (Or.inl rfl)))))
    | n + 6, h => omega
  | false =>
    refine Or.inr (Or.inr (Or.inr (Or.inr (Or.inr (Or.inr ⟨?_, ?_, ?_, ?_, ?_, ?_, rfl⟩))))) <;> (intro e; subst e; exact absurd h (by decide))
theorem sw_04 (x : Int32) : x = 0 ∨ x = 1 ∨ x = 2 ∨ x = 3 ∨ x = 4 ∨ (¬ x = 0 ∧ ¬ x = 1 ∧ ¬ x = 2 ∧ ¬ x = 3 ∧ ¬ x = 4 ∧ inB x 0 4 = false) := by
  cases h : inB x 0 4 with
  | true =>
    obtain ⟨j, h1, h2, rfl⟩ := inB_l (a := 0) (b := 4) rfl rfl (by decide) (by decide) h
    match j, h2 with
    | 0, _ => exact Or.inl rfl
    | 1, _ => exact Or.inr (Or.inl rfl)
    | 2, _ => exact Or.inr (Or.inr (Or.inl rfl))
    | 3, _ => exact Or.inr (Or.inr (Or.inr (Or.inl rfl)))
    | 4, _ => exact Or.inr (Or.inr (Or.inr (Or.inr (Or.inl rfl))))
    | n + 5, h => omega
  | false =>
    refine Or.inr (Or.inr (Or.inr (Or.inr (Or.inr ⟨?_, ?_, ?_, ?_, ?_, rfl⟩)))) <;> (intro e; subst e; exact absurd h (by decide))
/-- the class of a THING -/
def tcl (S : St) (v : Int32) : Option Nat := if v = -1 then none else if v < 100 then some (cb (S.2.1 3 (tN v))) else if v < 100000 then some 6 else some 4
def isP (P : Nat → Bool) : Option Nat → Bool
  | none => false
  | some c => P c
theorem tcl_k {S : St} {t : Nat} {v : Int32} (I : Inv S t) (hv : okT S v) : (v = -1 ∧ tcl S v = none ∧ famF S v = 0) ∨ (∃ c, c < nC S ∧ v = nI c ∧ ((S.2.1 3 c = 0 ∧ tcl S v = some 5 ∧ famF S v = 1) ∨ (S.2.1 3 c = 1 ∧ tcl S v = some 8 ∧ famF S v = 2) ∨ (S.2.1 3 c = 2 ∧ tcl S v = some 3 ∧ famF S v = 3))) ∨ (∃ r, r < nR S ∧ v = nI (100 + r) ∧ tcl S v = some 6 ∧ famF S v = 4) ∨ ∃ d, d < nD S ∧ v = nI (100000 + d) ∧ tcl S v = some 4 ∧ famF S v = 5 := by
  have hR : nR S ≤ 512 := Nat.le_trans I.2.2.2.1.2.1 I.2.2.2.2.2.2.2.1
  have hC := I.1.2.1
  rcases okT_fam hv hR hC with h1 | ⟨h1, h2, c, hc, rfl⟩ | ⟨h1, h2, h3, h4⟩ | ⟨h1, h2, h3, h4⟩
  · subst h1; exact Or.inl ⟨rfl, if_pos rfl, if_pos rfl⟩
  · refine Or.inr (Or.inl ⟨c, hc, rfl, ?_⟩)
    unfold tcl famF
    rw [if_neg h2, if_pos h1, if_neg h2, if_pos h1, tN_n (by omega)]
    rcases (I.1.2.2.1 c hc).2.2.1 with z | z | z <;> rw [z]
    · exact Or.inl ⟨rfl, rfl, rfl⟩
    · exact Or.inr (Or.inl ⟨rfl, rfl, rfl⟩)
    · exact Or.inr (Or.inr ⟨rfl, rfl, rfl⟩)
  · obtain ⟨r, hr, rfl⟩ := h4
    refine Or.inr (Or.inr (Or.inl ⟨r, hr, rfl, ?_, ?_⟩))
    · unfold tcl; rw [if_neg h1, if_neg h2, if_pos h3]
    · unfold famF; rw [if_neg h1, if_neg h2, if_pos h3]
  · obtain ⟨d, hd, rfl⟩ := h4
    refine Or.inr (Or.inr (Or.inr ⟨d, hd, rfl, ?_, ?_⟩))
    · unfold tcl; rw [if_neg h1, if_neg h2, if_neg h3]
    · unfold famF; rw [if_neg h1, if_neg h2, if_neg h3]
def iP_Row : Nat → Bool := fun c => Nat.beq c 6
def iP_Made : Nat → Bool := fun c => Nat.beq c 4
def iP_Plain : Nat → Bool := fun c => Nat.beq c 5
def iP_Twice : Nat → Bool := fun c => Nat.beq c 8 || Nat.beq c 3
def iP_Less : Nat → Bool := fun c => Nat.beq c 3
def iP_Constant : Nat → Bool := fun c => Nat.beq c 3 || Nat.beq c 5 || Nat.beq c 8
theorem bd512 {S : St} {t : Nat} (I : Inv S t) : nC S ≤ 60 ∧ nR S ≤ 512 ∧ nD S ≤ 512 := ⟨I.1.2.1, Nat.le_trans I.2.2.2.1.2.1 I.2.2.2.2.2.2.2.1, Nat.le_trans I.2.2.2.2.2.1.2.1 I.2.2.2.2.2.2.2.1⟩
theorem is_row {S : St} {t : Nat} {v : Int32} (I : Inv S t) (hv : okT S v) (h : isP iP_Row (tcl S v) = true) : famF S v = 4 ∧ ∃ r, r < nR S ∧ v = nI (100 + r) := by
  rcases tcl_k I hv with ⟨-, e, -⟩ | ⟨c, -, -, ⟨-, e, -⟩ | ⟨-, e, -⟩ | ⟨-, e, -⟩⟩ | ⟨r, hr, h1, e, h2⟩ | ⟨d, -, -, e, -⟩
  case inr.inr.inl => exact ⟨h2, r, hr, h1⟩
  all_goals (rw [e] at h; exact absurd h (by decide))
theorem is_rowN {S : St} {t : Nat} {v : Int32} (I : Inv S t) (hv : okT S v) (h : isP iP_Row (tcl S v) = false) : ¬ famF S v = 4 := by
  rcases tcl_k I hv with ⟨-, e, h2⟩ | ⟨c, -, -, ⟨-, e, h2⟩ | ⟨-, e, h2⟩ | ⟨-, e, h2⟩⟩ | ⟨r, hr, h1, e, h2⟩ | ⟨d, -, -, e, h2⟩
  case inr.inr.inl => rw [e] at h; exact absurd h (by decide)
  all_goals (rw [h2]; decide)
theorem is_made {S : St} {t : Nat} {v : Int32} (I : Inv S t) (hv : okT S v) (h : isP iP_Made (tcl S v) = true) : famF S v = 5 ∧ ∃ d, d < nD S ∧ v = nI (100000 + d) := by
  rcases tcl_k I hv with ⟨-, e, -⟩ | ⟨c, -, -, ⟨-, e, -⟩ | ⟨-, e, -⟩ | ⟨-, e, -⟩⟩ | ⟨r, hr, h1, e, h2⟩ | ⟨d, hd, h1, e, h2⟩
  case inr.inr.inr => exact ⟨h2, d, hd, h1⟩
  all_goals (rw [e] at h; exact absurd h (by decide))
theorem is_madeN {S : St} {t : Nat} {v : Int32} (I : Inv S t) (hv : okT S v) (h : isP iP_Made (tcl S v) = false) : ¬ famF S v = 5 := by
  rcases tcl_k I hv with ⟨-, e, h2⟩ | ⟨c, -, -, ⟨-, e, h2⟩ | ⟨-, e, h2⟩ | ⟨-, e, h2⟩⟩ | ⟨r, hr, h1, e, h2⟩ | ⟨d, -, -, e, h2⟩
  case inr.inr.inr => rw [e] at h; exact absurd h (by decide)
  all_goals (rw [h2]; decide)
theorem is_con {S : St} {t : Nat} {v : Int32} (I : Inv S t) (hv : okT S v) (h : isP iP_Constant (tcl S v) = true) : (famF S v = 1 ∨ famF S v = 2 ∨ famF S v = 3) ∧ ∃ c, c < nC S ∧ v = nI c := by
  rcases tcl_k I hv with ⟨-, e, -⟩ | ⟨c, hc, h1, ⟨-, e, h2⟩ | ⟨-, e, h2⟩ | ⟨-, e, h2⟩⟩ | ⟨r, hr, h1, e, h2⟩ | ⟨d, hd, h1, e, h2⟩
  case inr.inl.inl => exact ⟨Or.inl h2, c, hc, h1⟩
  case inr.inl.inr.inl => exact ⟨Or.inr (Or.inl h2), c, hc, h1⟩
  case inr.inl.inr.inr => exact ⟨Or.inr (Or.inr h2), c, hc, h1⟩
  all_goals (rw [e] at h; exact absurd h (by decide))
theorem is_conN {S : St} {t : Nat} {v : Int32} (I : Inv S t) (hv : okT S v) (h : isP iP_Constant (tcl S v) = false) : famF S v = 0 ∨ famF S v = 4 ∨ famF S v = 5 := by
  rcases tcl_k I hv with ⟨-, e, h2⟩ | ⟨c, hc, h1, ⟨-, e, h2⟩ | ⟨-, e, h2⟩ | ⟨-, e, h2⟩⟩ | ⟨r, hr, h1, e, h2⟩ | ⟨d, hd, h1, e, h2⟩
  case inl => exact Or.inl h2
  case inr.inr.inl => exact Or.inr (Or.inl h2)
  case inr.inr.inr => exact Or.inr (Or.inr h2)
  all_goals (rw [e] at h; exact absurd h (by decide))
section XI
variable {b0 : Nat} {D : va_G} {dA : Nat → ClassId} {y : MethodName} {cc : ByteArray} {nL : Nat} {ret : Option FieldType} {R : Room} {EX : Array Value → State → Prop} {QF : List Frame → Array Value → State → State → Prop} {pc n t : Nat} {lv : Nat → Option Value} {st : List Value} {ad : Nat → Nat → Nat} {cells slots : Nat} {Sm S : St} {f τ : Nat} {idx : Nat}
theorem x_inst {v : Int32} {P : Nat → Bool} (I : Inv S t) (hv : okT S v) (hd : dc cc pc (.instanceof idx) 3 n) (h3 : FI y.cls idx 3 (bI (P 3))) (h4 : FI y.cls idx 4 (bI (P 4))) (h5 : FI y.cls idx 5 (bI (P 5))) (h6 : FI y.cls idx 6 (bI (P 6))) (h8 : FI y.cls idx 8 (bI (P 8))) (kk : E b0 D dA y cc nL ret R EX QF n lv (.int (bI (isP P (tcl S v))) :: st) (dmW S τ) ad (cw dA ad Sm S f) cells slots) : E b0 D dA y cc nL ret R EX QF pc lv (va_rf (tr ad v) :: st) (dmW S τ) ad (cw dA ad Sm S f) cells slots := by
  obtain ⟨hC, hR, hD⟩ := bd512 I
  rcases tcl_k I hv with ⟨h1, e, -⟩ | ⟨c, hc, h1, ⟨z, e, -⟩ | ⟨z, e, -⟩ | ⟨z, e, -⟩⟩ | ⟨r, hr, h1, e, h2⟩ | ⟨d, hd', h1, e, h2⟩ <;> rw [e] at kk <;> subst h1
  · rw [tr_0]; exact e_instN hd kk
  · rw [tr_c (by omega)]; exact e_inst hd h5 (show dmW S τ 4 c from hc) (cw_4.trans (by rw [z, show cb 0 = 5 from rfl])) kk
  · rw [tr_c (by omega)]; exact e_inst hd h8 (show dmW S τ 4 c from hc) (cw_4.trans (by rw [z, show cb 1 = 8 from rfl])) kk
  · rw [tr_c (by omega)]; exact e_inst hd h3 (show dmW S τ 4 c from hc) (cw_4.trans (by rw [z, show cb 2 = 3 from rfl])) kk
  · rw [tr_r (by omega)]; exact e_inst hd h6 (show dmW S τ 6 r from hr) cw_6 kk
  · rw [tr_d (by omega)]; exact e_inst hd h4 (show dmW S τ 8 d from Nat.lt_of_lt_of_le hd' (Nat.le_add_right _ _)) cw_8 kk
theorem x_cast {k i ci a : Nat} {fs : List Value} {dm : Nat → Nat → Prop} {ct : Nat → Nat → va_E} (hd : dc cc pc (.checkcast idx) 3 n) (hg : FI y.cls idx ci 1) (ha : ad k i = a) (hk : dm k i) (he : ct k i = .inr (ci, fs)) (kk : E b0 D dA y cc nL ret R EX QF n lv (.ref a :: st) dm ad ct cells slots) : E b0 D dA y cc nL ret R EX QF pc lv (.ref a :: st) dm ad ct cells slots := by
  subst ha; exact e_cast hd hg hk he kk
theorem fi_cb {x : String} {idx : Nat} {b : Int32} (h3 : FI x idx 3 1) (h5 : FI x idx 5 1) (h8 : FI x idx 8 1) : FI x idx (cb b) 1 := by
  rcases cb_or b with z | z | z <;> rw [z] <;> assumption
/-- an ITEM of a ROW -/
theorem w_it {x v : Int32} {r : Nat} (q : Nat) (hr : r < nR S) (hs : ∀ r, r < nR S → sz S r ≤ 12) (hd : dc cc pc .iastore 1 n) (hx : x = nI q) (hq : q < sz S r) (kk : E b0 D dA y cc nL ret R EX QF n lv st (dmW (S.1, u2 S.2.1 10 (12 * r + q) v, S.2.2) τ) ad (cw dA ad Sm (S.1, u2 S.2.1 10 (12 * r + q) v, S.2.2) f) cells slots) : E b0 D dA y cc nL ret R EX QF pc lv (.int v :: .int x :: .ref (ad 7 r) :: st) (dmW S τ) ad (cw dA ad Sm S f) cells slots := by
  have h12 := hs r hr
  refine x_ist q hd rfl (show dmW S τ 7 r from hr) cw_7 hx hq (by omega) ?_
  refine e_conv ?_ kk
  refine cw_cases (S := (S.1, u2 S.2.1 10 (12 * r + q) v, S.2.2)) (τ := τ) (fun i hi => ⟨hi, rfl, rfl⟩) (fun i hi => ⟨hi, rfl, rfl⟩) (fun i hi => ⟨hi, rfl, rfl⟩) (fun i hi => ⟨hi, rfl, rfl⟩) (fun i hi => ⟨hi, rfl, rfl⟩) (fun i hi => ⟨hi, rfl, rfl⟩) (fun i hi => ⟨hi, rfl, rfl⟩) (fun i hi => ⟨hi, rfl, ?_⟩) (fun i hi => ⟨hi, rfl, rfl⟩) (fun i hi => ⟨hi, rfl, rfl⟩) (fun i hi => ⟨hi, rfl, rfl⟩) (fun i hi => ⟨hi, rfl, rfl⟩) (fun i hi => ⟨hi, rfl, rfl⟩) (fun i hi => ⟨hi, rfl, rfl⟩) (fun i hi => ⟨hi, rfl, rfl⟩) (fun i hi => ⟨hi, rfl, rfl⟩) (fun i hi => ⟨hi, rfl, rfl⟩) (fun i hi => ⟨hi, rfl, rfl⟩)
  have hi' : i < nR S := hi
  have hi12 := hs i hi'
  have key : ∀ g : Nat → Int32, (∀ j, g j = itF (S.1, u2 S.2.1 10 (12 * r + q) v, S.2.2) i j) → (ins dA (sz S i) g) = cw dA ad Sm (S.1, u2 S.2.1 10 (12 * r + q) v, S.2.2) f 7 i := fun g hg => by rw [funext hg]; rfl
  by_cases h : i = r
  · subst h
    rw [u2_s]
    refine key _ (fun j => ?_)
    show upd (itF S i) q v j = if j < sz S i then u2 S.2.1 10 (12 * i + q) v 10 (12 * i + j) else 0
    unfold upd itF
    rw [u2_e]
    by_cases hj : j = q
    · subst hj; rw [if_pos rfl, if_pos hq, if_pos ⟨rfl, rfl⟩]
    · rw [if_neg hj]
      by_cases hjs : j < sz S i
      · rw [if_pos hjs, if_pos hjs, if_neg (fun z => hj (by have := z.2; omega))]
      · rw [if_neg hjs, if_neg hjs]
  · rw [u2_n (fun z => h z.2)]
    refine key _ (fun j => ?_)
    show itF S i j = if j < sz S i then u2 S.2.1 10 (12 * r + q) v 10 (12 * i + j) else 0
    unfold itF
    by_cases hj : j < sz S i
    · rw [if_pos hj, if_pos hj, u2_n (fun z => h (by have := z.2; omega))]
    · rw [if_neg hj, if_neg hj]
/-- a THING into a place -/
theorem w_plT {x v : Int32} (q : Nat) (I : Inv S t) (hv : okT S v) (hd : dc cc pc .aastore 1 n) (hx : x = nI q) (hq : q < 10) (kk : E b0 D dA y cc nL ret R EX QF n lv st (dmW (S.1, u2 S.2.1 15 q v, S.2.2) τ) ad (cw dA ad Sm (S.1, u2 S.2.1 15 q v, S.2.2) f) cells slots) : E b0 D dA y cc nL ret R EX QF pc lv (va_rf (tr ad v) :: .int x :: .ref (ad 1 6) :: st) (dmW S τ) ad (cw dA ad Sm S f) cells slots := by
  obtain ⟨hC, hR, hD⟩ := bd512 I
  rcases hv with rfl | ⟨c, hc, rfl⟩ | ⟨r, hr, rfl⟩ | ⟨d, hd', rfl⟩
  · rw [tr_0]; exact w_plN q hd hx hq kk
  · rw [tr_c (by omega)]; exact w_pl q hd hx hq (tr_c (by omega)) rfl (show dmW S τ 4 c from hc) cw_4 (fa_t (by rcases cb_or (S.2.1 3 c) with z | z | z; exact Or.inl z; exact Or.inr (Or.inr (Or.inl z)); exact Or.inr (Or.inr (Or.inr (Or.inr z))))) kk
  · rw [tr_r (by omega)]; exact w_pl q hd hx hq (tr_r (by omega)) rfl (show dmW S τ 6 r from hr) cw_6 (fa_t (Or.inr (Or.inr (Or.inr (Or.inl rfl))))) kk
  · rw [tr_d (by omega)]; exact w_pl q hd hx hq (tr_d (by omega)) rfl (show dmW S τ 8 d from Nat.lt_of_lt_of_le hd' (Nat.le_add_right _ _)) cw_8 (fa_t (Or.inr (Or.inl rfl))) kk
end XI
theorem nu_t {S : St} {f d p : Nat} (hd : d < nD S) (hp : p < pN S d) (h : S.2.1 17 (5 * shN S d + p) = 0) : nuF S f d p = S.2.1 14 (5 * d + p) := by
  unfold nuF flB
  rw [decide_eq_true hd, decide_eq_true hp, decide_eq_true h]; rfl
theorem th_t {ad : Nat → Nat → Nat} {S : St} {f d p : Nat} (hd : d < nD S) (hp : p < pN S d) (h : ¬ S.2.1 17 (5 * shN S d + p) = 0) : thF ad S f d p = tr ad (S.2.1 14 (5 * d + p)) := by
  unfold thF flB
  rw [decide_eq_true hd, decide_eq_true hp, decide_eq_false h]; rfl
def iP_of : Nat → Nat → Bool
  | 1 => iP_Plain
  | 2 => iP_Twice
  | 3 => iP_Less
  | 4 => iP_Row
  | _ => iP_Made
theorem fam_of {S : St} {t : Nat} {v : Int32} (I : Inv S t) (hv : okT S v) (fm : Nat) (h1 : 1 ≤ fm) (h5 : fm ≤ 5) : isP (iP_of fm) (tcl S v) = (decide (famF S v = nI fm) || (decide (famF S v = 3) && decide (nI fm = 2))) := by
  rcases tcl_k I hv with ⟨-, e, h2⟩ | ⟨c, -, -, ⟨-, e, h2⟩ | ⟨-, e, h2⟩ | ⟨-, e, h2⟩⟩ | ⟨r, -, -, e, h2⟩ | ⟨d, -, -, e, h2⟩ <;> rw [e, h2] <;> rcases (show fm = 1 ∨ fm = 2 ∨ fm = 3 ∨ fm = 4 ∨ fm = 5 by omega) with rfl | rfl | rfl | rfl | rfl <;> decide +kernel
