/-! ===== making records in the class: what its small methods answer ===== -/
theorem so_I {S : St} {t : Nat} {v so : Int32} (I : Inv S t) (hv : okT S v) (hf : ¬ famF S v = 0) (hso : so = 1 ∨ so = 2 ∨ so = 3 ∨ so = 4) : (so = 1 ∧ isP iP_Constant (tcl S v) = casB so (famF S v)) ∨ (so = 2 ∧ isP iP_Twice (tcl S v) = casB so (famF S v)) ∨ (so = 3 ∧ isP iP_Row (tcl S v) = casB so (famF S v)) ∨ (so = 4 ∧ isP iP_Made (tcl S v) = casB so (famF S v)) := by
  rcases hso with rfl | rfl | rfl | rfl
  · exact Or.inl ⟨rfl, so_of I hv hf 1 (by decide) (by decide)⟩
  · exact Or.inr (Or.inl ⟨rfl, so_of I hv hf 2 (by decide) (by decide)⟩)
  · exact Or.inr (Or.inr (Or.inl ⟨rfl, so_of I hv hf 3 (by decide) (by decide)⟩))
  · exact Or.inr (Or.inr (Or.inr ⟨rfl, so_of I hv hf 4 (by decide) (by decide)⟩))
def foB (S : St) (so k v : Int32) : Bool := if famF S v = 0 then false else forB S so k v
theorem for_c {S : St} {v k : Int32} (h : ¬ famF S v = 0) : foB S 1 k v = !decide (S.2.1 1 (tN v) = k) := by
  unfold foB forB
  rw [if_neg h, show decide ((1 : Int32) = 1) = true from by decide, show decide ((1 : Int32) = 4) = false from by decide, Bool.true_and, Bool.false_and, Bool.or_false]
theorem for_d {S : St} {v k : Int32} (h : ¬ famF S v = 0) : foB S 4 k v = !decide (S.2.1 12 (rcN v) = k) := by
  unfold foB forB
  rw [if_neg h, show decide ((4 : Int32) = 1) = false from by decide, show decide ((4 : Int32) = 4) = true from by decide, Bool.true_and, Bool.false_and, Bool.false_or]
theorem for_0 {S : St} {v so k : Int32} (hA : so = 1 → famF S v = 0) (hB : so = 4 → famF S v = 0) : foB S so k v = false := by
  unfold foB
  by_cases h : famF S v = 0
  · rw [if_pos h]
  · rw [if_neg h]
    unfold forB
    rw [decide_eq_false (fun z => h (hA z)), decide_eq_false (fun z => h (hB z))]; rfl
theorem con_0 {S : St} {t : Nat} {v so : Int32} (I : Inv S t) (hv : okT S v) (h : isP iP_Constant (tcl S v) = false) (hs : so = 1 ∨ so = 2) (hc : famF S v = 0 ∨ casB so (famF S v) = true) : famF S v = 0 := by
  rcases hc with hc | hc
  · exact hc
  · rcases is_conN I hv h with z | z | z
    · exact z
    · rw [z] at hc; rcases hs with rfl | rfl <;> exact absurd hc (by decide)
    · rw [z] at hc; rcases hs with rfl | rfl <;> exact absurd hc (by decide)
theorem made_0 {S : St} {t : Nat} {v so : Int32} (I : Inv S t) (hv : okT S v) (h : isP iP_Made (tcl S v) = false) (hs : so = 4) (hc : famF S v = 0 ∨ casB so (famF S v) = true) : famF S v = 0 := by
  subst hs
  rcases hc with hc | hc
  · exact hc
  · exact absurd (of_decide_eq_true (show decide (famF S v = 5) = true by simpa [casB] using hc)) (is_madeN I hv h)
theorem fam_nz {S : St} {t : Nat} {v : Int32} (I : Inv S t) (hv : okT S v) (h : ¬ v = -1) : ¬ famF S v = 0 := by
  rcases tcl_k I hv with ⟨h1, e, h2⟩ | ⟨c, -, -, ⟨-, e, h2⟩ | ⟨-, e, h2⟩ | ⟨-, e, h2⟩⟩ | ⟨r, -, -, e, h2⟩ | ⟨d, -, -, e, h2⟩
  · exact absurd h1 h
  all_goals (rw [h2]; decide)
theorem sv_comm {S : St} {r p c : Nat} {v : Int32} : stS (vaS S r p v) c = vaS (stS S c) r p v := by
  unfold stS vaS
  refine Prod.ext rfl (Prod.ext ?_ rfl)
  exact u2_comm (by decide)
theorem tk_N {S : St} {s p r : Nat} (hz : S.2.1 17 (5 * s + p) = 0) : tkF S s p r = ((if inB (S.2.1 23 p) 0 (S.2.1 18 (5 * s + p)) = true then 0 else 2), vaS S r p (S.2.1 23 p)) := by
  unfold tkF; rw [if_pos hz]
theorem tk_C {S : St} {s p r : Nat} {v so : Int32} (ev : gvT S p = v) (eso : S.2.1 17 (5 * s + p) = so) (hz : ¬ so = 0) (hf : ¬ famF S v = 0) (hc : casB so (famF S v) = false) : tkF S s p r = (1, vaS S r p v) := by
  unfold tkF; rw [ev, eso, if_neg hz, if_neg hf, if_pos hc]
theorem tk_O {S : St} {s p r : Nat} {v so : Int32} (ev : gvT S p = v) (eso : S.2.1 17 (5 * s + p) = so) (hz : ¬ so = 0) (hc : famF S v = 0 ∨ casB so (famF S v) = true) (hf : foB S so (S.2.1 18 (5 * s + p)) v = true) : tkF S s p r = (2, vaS S r p v) := by
  unfold foB at hf
  by_cases h0 : famF S v = 0
  · rw [if_pos h0] at hf; cases hf
  · rw [if_neg h0] at hf
    have hc' := hc.resolve_left h0
    unfold tkF
    rw [ev, eso, if_neg hz, if_neg h0, if_neg (by rw [hc']; decide), if_pos hf]
theorem tk_A {S : St} {s p r : Nat} {v so : Int32} (ev : gvT S p = v) (eso : S.2.1 17 (5 * s + p) = so) (hz : ¬ so = 0) (h0 : ¬ famF S v = 0) (hc : casB so (famF S v) = true) (hf : foB S so (S.2.1 18 (5 * s + p)) v = false) (h3 : so < 3) : tkF S s p r = (0, vaS (stS S (tN v)) r p v) := by
  unfold foB at hf
  rw [if_neg h0] at hf
  unfold tkF
  rw [ev, eso, if_neg hz, if_neg h0, if_neg (by rw [hc]; decide), if_neg (by rw [hf]; decide), if_pos h3, sv_comm]
theorem tk_B {S : St} {s p r : Nat} {v so : Int32} (ev : gvT S p = v) (eso : S.2.1 17 (5 * s + p) = so) (hz : ¬ so = 0) (hc : famF S v = 0 ∨ casB so (famF S v) = true) (hf : foB S so (S.2.1 18 (5 * s + p)) v = false) (h3 : famF S v = 0 ∨ ¬ so < 3) : tkF S s p r = (0, vaS S r p v) := by
  unfold foB at hf
  unfold tkF
  rw [ev, eso, if_neg hz]
  by_cases h0 : famF S v = 0
  · rw [if_pos h0]
  · rw [if_neg h0] at hf ⊢
    rw [if_neg (by rw [hc.resolve_left h0]; decide), if_neg (by rw [hf]; decide), if_neg (h3.resolve_left h0)]
theorem so_A {S : St} {t : Nat} {v so : Int32} (I : Inv S t) (hv : okT S v) (h : famF S v = 1 ∨ famF S v = 2 ∨ famF S v = 3) (hso : so = 1 ∨ so = 2 ∨ so = 3 ∨ so = 4) (hc : famF S v = 0 ∨ casB so (famF S v) = true) : ¬ famF S v = 0 ∧ casB so (famF S v) = true ∧ so < 3 := by
  have h0 : ¬ famF S v = 0 := by rcases h with z | z | z <;> rw [z] <;> decide
  refine ⟨h0, hc.resolve_left h0, ?_⟩
  have hc' := hc.resolve_left h0
  rcases hso with rfl | rfl | rfl | rfl
  · decide
  · decide
  · rcases h with z | z | z <;> rw [z] at hc' <;> exact absurd hc' (by decide)
  · rcases h with z | z | z <;> rw [z] at hc' <;> exact absurd hc' (by decide)
theorem so_B {S : St} {t : Nat} {v so : Int32} (I : Inv S t) (hv : okT S v) (h : isP iP_Constant (tcl S v) = false) (hso : so = 1 ∨ so = 2 ∨ so = 3 ∨ so = 4) (hc : famF S v = 0 ∨ casB so (famF S v) = true) : famF S v = 0 ∨ ¬ so < 3 := by
  rcases hso with z | z | z | z
  · exact Or.inl (con_0 I hv h (Or.inl z) hc)
  · exact Or.inl (con_0 I hv h (Or.inr z) hc)
  · exact Or.inr (by rw [z]; decide)
  · exact Or.inr (by rw [z]; decide)
theorem row_0 {S : St} {t : Nat} {v : Int32} (I : Inv S t) (hv : v = -1 ∨ ∃ r, r < nR S ∧ v = nI (100 + r)) (h : isP iP_Row (tcl S v) = false) : v = -1 := by
  rcases hv with z | ⟨r, hr, rfl⟩
  · exact z
  · exact absurd (fam_r (by have := (bd512 I).2.1; omega)) (is_rowN I (Or.inr (Or.inr (Or.inl ⟨r, hr, rfl⟩))) h)
theorem con_n {S : St} {t : Nat} {v : Int32} (I : Inv S t) (hv : v = -1 ∨ ∃ c, c < nC S ∧ v = nI c) (h : isP iP_Constant (tcl S v) = false) : v = -1 := by
  rcases hv with z | ⟨c, hc, rfl⟩
  · exact z
  · have h60 := I.1.2.1
    rcases is_conN I (Or.inr (Or.inl ⟨c, hc, rfl⟩)) h with z | z | z <;> rw [fam_c (by omega)] at z <;> rcases (I.1.2.2.1 c hc).2.2.1 with y | y | y <;> rw [y] at z <;> exact absurd z (by decide)
theorem mad_n {S : St} {t : Nat} {v : Int32} (I : Inv S t) (hv : v = -1 ∨ ∃ d, d < nD S ∧ v = nI (100000 + d)) (h : isP iP_Made (tcl S v) = false) : v = -1 := by
  rcases hv with z | ⟨d, hd, rfl⟩
  · exact z
  · exact absurd (fam_d (by have := (bd512 I).2.2; omega)) (is_madeN I (Or.inr (Or.inr (Or.inr ⟨d, hd, rfl⟩))) h)
theorem inB_le {q n : Nat} (hq : q < 2 ^ 31) (hn : n < 2 ^ 30) (h : inB (nI q) 0 (nI n - 1) = false) : n ≤ q := by
  rcases Nat.lt_or_ge q n with z | z
  · rw [inB_nN hn z] at h; cases h
  · exact z
theorem nu_r {S : St} {t s r p : Nat} (M : MK S t s r) (hp : p < pmN S s) (h : S.2.1 17 (5 * s + p) = 0) : nuF S (pmN S s) r p = S.2.1 14 (5 * r + p) := by
  obtain ⟨e1, e2, h5, -, -⟩ := M.pn
  unfold nuF
  rw [fl_ge (show ¬ r < nD S by have := M.2.2.1; omega), decide_eq_true hp, e2, decide_eq_true hp, e1, decide_eq_true h]; rfl
theorem th_r {ad : Nat → Nat → Nat} {S : St} {t s r p : Nat} (M : MK S t s r) (hp : p < pmN S s) (h : ¬ S.2.1 17 (5 * s + p) = 0) : thF ad S (pmN S s) r p = tr ad (S.2.1 14 (5 * r + p)) := by
  obtain ⟨e1, e2, h5, -, -⟩ := M.pn
  unfold thF
  rw [fl_ge (show ¬ r < nD S by have := M.2.2.1; omega), decide_eq_true hp, e2, decide_eq_true hp, e1, decide_eq_false h, Bool.not_false, Bool.and_true, Bool.and_true, if_pos rfl]
theorem u26_agr {S : St} {x : Int32} : Agr S (u1 S.1 26 x, S.2) := ⟨rfl, rfl, rfl, rfl, fun _ _ _ _ _ _ _ _ _ _ => rfl, fun _ _ => ⟨rfl, rfl, fun _ _ => rfl⟩⟩
theorem st_12 {S : St} {c j : Nat} (h : j ≠ 27) : (stS S c).2.1 j = S.2.1 j := by funext x; exact u2_x h
theorem MK.st {S : St} {t s r c : Nat} (M : MK S t s r) : MK (stS S c) t s r := M.agr st_agr (st_12 (by decide)) (st_12 (by decide))
theorem MK.u26 {S : St} {t s r : Nat} {x : Int32} (M : MK S t s r) : MK (u1 S.1 26 x, S.2) t s r := M.agr u26_agr rfl rfl
