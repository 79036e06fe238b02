/-! ===== cells of the pool: reading, writing, making ===== -/
def u2 {α : Type} (f : Nat → Nat → α) (k i : Nat) (v : α) : Nat → Nat → α := fun k' i' => match Nat.beq k' k with
  | true => (match Nat.beq i' i with
    | true => v
    | false => f k' i')
  | false => f k' i'
theorem u2_s {α : Type} {f : Nat → Nat → α} {k i : Nat} {v : α} : u2 f k i v k i = v := by
  unfold u2
  rw [Nat.beq_refl, Nat.beq_refl]
theorem u2_n {α : Type} {f : Nat → Nat → α} {k i k' i' : Nat} {v : α} (h : ¬ (k' = k ∧ i' = i)) : u2 f k i v k' i' = f k' i' := by
  unfold u2
  split
  · rename_i hb
    split
    · rename_i hb2
      exact absurd ⟨Nat.eq_of_beq_eq_true hb, Nat.eq_of_beq_eq_true hb2⟩ h
    · rfl
  · rfl
def dmU (dm : Nat → Nat → Prop) (k i : Nat) : Nat → Nat → Prop := fun k' i' => dm k' i' ∨ (k' = k ∧ i' = i)
theorem Rl.put {b0 : Nat} {D : va_G} {dm : Nat → Nat → Prop} {ad : Nat → Nat → Nat} {ct ct' : Nat → Nat → va_E} {H H1 : Heap} {k i : Nat} (h : Rl b0 D dm ad ct H) (hk : dm k i) (hz : H1.size = H.size) (ha : va_at D eCl (ad k i, ct' k i) H1) (oq : ∀ q : Nat, q ≠ ad k i → H1[q]? = H[q]?) (ho : ∀ k' i', dm k' i' → ¬ (k' = k ∧ i' = i) → ct' k' i' = ct k' i') : Rl b0 D dm ad ct' H1 := by
  refine ⟨by rw [hz]; exact h.1, fun k' i' hd => ?_, h.2.2⟩
  obtain ⟨h1, h2⟩ := h.2.1 k' i' hd
  by_cases hq : k' = k ∧ i' = i
  · obtain ⟨rfl, rfl⟩ := hq
    exact ⟨ha, h2⟩
  · refine ⟨?_, h2⟩
    rw [ho k' i' hd hq]
    exact h1.kept (oq _ (fun z => hq (h.2.2 k' i' k i hd hk z)))
theorem Rl.new {b0 : Nat} {D : va_G} {dm : Nat → Nat → Prop} {ad : Nat → Nat → Nat} {ct : Nat → Nat → va_E} {H H1 : Heap} {e : va_E} (k i : Nat) (h : Rl b0 D dm ad ct H) (hz : H1.size = H.size + 1) (ha : va_at D eCl (H.size, e) H1) (oq : ∀ q : Nat, q < H.size → H1[q]? = H[q]?) : Rl b0 D (dmU dm k i) (u2 ad k i H.size) (u2 ct k i e) H1 := by
  have hlt : ∀ k' i', dm k' i' → ad k' i' < H.size := fun k' i' hd => (h.2.1 k' i' hd).1.lt
  have hold : ∀ k' i', dmU dm k i k' i' → ¬ (k' = k ∧ i' = i) → dm k' i' := fun k' i' hd hn => hd.elim id (fun q => absurd q hn)
  refine ⟨by rw [hz]; exact Nat.le_succ_of_le h.1, fun k' i' hd => ?_, fun k1 i1 k2 i2 h1 h2 he => ?_⟩
  · by_cases hq : k' = k ∧ i' = i
    · obtain ⟨rfl, rfl⟩ := hq
      rw [u2_s, u2_s]
      exact ⟨ha, h.1⟩
    · rw [u2_n hq, u2_n hq]
      have hd' := hold k' i' hd hq
      exact ⟨(h.2.1 k' i' hd').1.kept (oq _ (hlt k' i' hd')), (h.2.1 k' i' hd').2⟩
  · by_cases q1 : k1 = k ∧ i1 = i <;> by_cases q2 : k2 = k ∧ i2 = i
    · obtain ⟨rfl, rfl⟩ := q1
      obtain ⟨rfl, rfl⟩ := q2
      exact ⟨rfl, rfl⟩
    · obtain ⟨rfl, rfl⟩ := q1
      rw [u2_s, u2_n q2] at he
      have := hlt k2 i2 (hold k2 i2 h2 q2)
      omega
    · obtain ⟨rfl, rfl⟩ := q2
      rw [u2_s, u2_n q1] at he
      have := hlt k1 i1 (hold k1 i1 h1 q1)
      omega
    · rw [u2_n q1, u2_n q2] at he
      exact h.2.2 k1 i1 k2 i2 (hold k1 i1 h1 q1) (hold k2 i2 h2 q2) he
theorem Rl.conv {b0 : Nat} {D : va_G} {dm dm' : Nat → Nat → Prop} {ad ad' : Nat → Nat → Nat} {ct ct' : Nat → Nat → va_E} {H : Heap} (h : Rl b0 D dm ad ct H) (hc : ∀ k i, dm' k i → dm k i ∧ ad k i = ad' k i ∧ ct k i = ct' k i) : Rl b0 D dm' ad' ct' H := by
  refine ⟨h.1, fun k i hd => ?_, fun k1 i1 k2 i2 h1 h2 he => ?_⟩
  · obtain ⟨g1, g2, g3⟩ := hc k i hd
    rw [← g2, ← g3]
    exact h.2.1 k i g1
  · obtain ⟨g1, g2, -⟩ := hc k1 i1 h1
    obtain ⟨f1, f2, -⟩ := hc k2 i2 h2
    exact h.2.2 k1 i1 k2 i2 g1 f1 (by rw [g2, f2]; exact he)
/-- a field of class number ci, slot j, as the constant pool of class own names it at idx -/
def FG (own : String) (idx ci j : Nat) : Prop := ∃ (C : String) (T : u_T) (N : Nat) (ref : String), eCl[ci]? = some (C, T, N) ∧ j < N ∧ (∀ w ∈ u_ws C T N, w ∈ gT) ∧ Cond.fieldLink own idx ref (T j).2.1 (T j).2.2.1 ∈ gT ∧ (ref = (T j).1 ∨ Cond.sameField ref (T j).1 (T j).2.1 (T j).2.2.1 ∈ gT)
def FP (own : String) (idx ci j : Nat) (ty : FieldType) (fin : Bool) : Prop := ∃ (C : String) (T : u_T) (N : Nat) (ref : String) (ty0 : Nat → FieldType), eCl[ci]? = some (C, T, N) ∧ j < N ∧ (∀ w ∈ u_ws C T N, w ∈ gT) ∧ Cond.fieldLink own idx ref (T j).2.1 (T j).2.2.1 ∈ gT ∧ ref = (T j).1 ∧ (∀ k, k < N → parseFieldDescriptor (T k).2.2.1 = some (ty0 k)) ∧ (∀ a, a < N → ∀ b, b < N → a ≠ b → (T a).2.1 ≠ (T b).2.1) ∧ (T j).2.2.2 = fin ∧ parseFieldDescriptor (T j).2.2.1 = some ty ∧ (fin = true → (T j).1 = own)
/-- a class that 'new' at idx makes: N fields, fs at first -/
def FN (own : String) (idx ci N : Nat) (fs : List Value) : Prop := ∃ (C : String) (T : u_T) (ty0 : Nat → FieldType), eCl[ci]? = some (C, T, N) ∧ (∀ w ∈ u_ws C T N, w ∈ gT) ∧ (∀ k, k < N → parseFieldDescriptor (T k).2.2.1 = some (ty0 k)) ∧ Cond.classLink own idx C ∈ gT ∧ Cond.instantiable C N ∈ gT ∧ Cond.initialized C ∈ gT ∧ (∀ j, j < N → defaultValue (ty0 j) = vp_V fs j)
section EH
variable {b0 : Nat} {D : va_G} {dA : Nat → ClassId} {y : MethodName} {cc : ByteArray} {nL : Nat} {ret : Option FieldType} {R : Room} {EX : Array Value → State → Prop} {QF : List Frame → Array Value → State → State → Prop} {pc n t : Nat} {lv : Nat → Option Value} {st : List Value} {dm dm' : Nat → Nat → Prop} {ad ad' : Nat → Nat → Nat} {ct ct' : Nat → Nat → va_E} {cells slots : Nat}
theorem e_conv (hc : ∀ k i, dm' k i → dm k i ∧ ad k i = ad' k i ∧ ct k i = ct' k i) (kk : E b0 D dA y cc nL ret R EX QF pc lv (st) dm' ad' ct' cells slots) : E b0 D dA y cc nL ret R EX QF pc lv (st) dm ad ct cells slots := by
  intro p l e s m args below meth c C H locs ls hl hR hS
  exact kk p l e s m args below meth c C H locs ls hl (hR.conv hc) hS
theorem e_lv {lv' : Nat → Option Value} (h : ∀ i v, lv' i = some v → lv i = some v) (kk : E b0 D dA y cc nL ret R EX QF pc lv' (st) dm ad ct cells slots) : E b0 D dA y cc nL ret R EX QF pc lv (st) dm ad ct cells slots := by
  intro p l e s m args below meth c C H locs ls hl hR hS
  exact kk p l e s m args below meth c C H locs ls ⟨hl.1, hl.2.1, fun i v q => hl.2.2 i v (h i v q)⟩ hR hS
theorem e_wide {c' s' : Nat} (h1 : cells ≤ c') (h2 : slots ≤ s') (kk : E b0 D dA y cc nL ret R EX QF pc lv (st) dm ad ct c' s') : E b0 D dA y cc nL ret R EX QF pc lv (st) dm ad ct cells slots := by
  intro p l e s m args below meth c C H locs ls hl hR hS
  exact W.widen h1 h2 (kk p l e s m args below meth c C H locs ls hl hR hS)
/-- what is known of the pool may be used: two cells at one address are one -/
theorem e_inj (kk : (∀ k i k' i', dm k i → dm k' i' → ad k i = ad k' i' → k = k' ∧ i = i') → E b0 D dA y cc nL ret R EX QF pc lv (st) dm ad ct cells slots) : E b0 D dA y cc nL ret R EX QF pc lv (st) dm ad ct cells slots := by
  intro p l e s m args below meth c C H locs ls hl hR hS
  exact kk hR.2.2 p l e s m args below meth c C H locs ls hl hR hS
theorem e_getf {idx k i ci j : Nat} {fs : List Value} {v : Value} (hd : dc cc pc (.getfield idx) 3 n) (hg : FG y.cls idx ci j) (hk : dm k i) (he : ct k i = .inr (ci, fs)) (hv : fs[j]? = some v) (kk : E b0 D dA y cc nL ret R EX QF n lv (v :: st) dm ad ct cells slots) : E b0 D dA y cc nL ret R EX QF pc lv (.ref (ad k i) :: st) dm ad ct cells slots := by
  obtain ⟨hd, rfl⟩ := hd
  intro p l e s m args below meth c C H locs ls hl hR hS
  obtain ⟨Cn, T, N, ref, hc, hj, hin, hlink, hsame⟩ := hg
  obtain ⟨ha, -⟩ := hR.2.1 k i hk
  rw [he] at ha
  have hts := C.2.2.2.2.2.1
  have hP : va_P D eCl [(ad k i, .inr (ci, fs))] H := fun z q hz => by
    have hz0 : z < 1 := (List.getElem?_eq_some_iff.mp hz).1
    rw [show z = 0 by omega] at hz
    cases hz
    exact ha
  refine va_get C.1 C.2.1 hts hin C.2.2.2.2.1 C.2.2.2.2.2.2.2.2.1.1 hP 0 rfl hc j hj (hts _ hlink) ?_ hv hd (kk p l e s m args below meth c C H locs ls hl hR hS)
  rcases hsame with rfl | hsame
  · exact fun _ h => h
  · exact u_same (hts _ hsame)
theorem e_putf {idx k i ci j : Nat} {fs : List Value} {v : Value} {ty : FieldType} (ct' : Nat → Nat → va_E) (hd : dc cc pc (.putfield idx) 3 n) (hg : FP y.cls idx ci j ty false) (hk : dm k i) (he : ct k i = .inr (ci, fs)) (hn : narrow ty v = v) (hf : fits ty v = true) (hl0 : j < fs.length) (hs : ct' k i = .inr (ci, fs.set j v)) (ho : ∀ k' i', dm k' i' → ¬ (k' = k ∧ i' = i) → ct' k' i' = ct k' i') (kk : E b0 D dA y cc nL ret R EX QF n lv (st) dm ad ct' cells slots) : E b0 D dA y cc nL ret R EX QF pc lv (v :: .ref (ad k i) :: st) dm ad ct cells slots := by
  obtain ⟨hd, rfl⟩ := hd
  intro p l e s m args below meth c C H locs ls hl hR hS
  obtain ⟨Cn, T, N, ref, ty0, hc, hj, hin, hlink, rfl, hty, hnm, hfin, hd0, -⟩ := hg
  obtain ⟨ha, hb0⟩ := hR.2.1 k i hk
  rw [he] at ha
  have hts := C.2.2.2.2.2.1
  have hK := C.2.2.2.2.2.2.2.2.1.1
  have hap := va_apart (own := y.cls) hts hin ty0 hty hnm hK hc
  obtain ⟨r, h1, cell, q1, q2, q3, q4⟩ := ha
  have hr : r = (Cn, T, N) := Option.some.inj (h1.symm.trans hc)
  subst hr
  obtain ⟨hS0, hfc, kC, hkC, hkind⟩ := hK.1 ci _ hc
  obtain ⟨cf, kf, fi, f, hi, hsl⟩ := hS0 j hj
  have hlay := hts _ (hin _ (u_in_lay hj))
  unfold u_lay at hlay
  rw [if_neg (by rw [hfin]; decide)] at hlay
  have hst := (u_facts hfc hkC (u_lays hts hin hj) hi).1
  have h6 := u_store hfc hkC hkind hlay hi hd0 hn hf
  refine W.putK C.1 C.2.1 (f := f) ⟨C.2.2.2.2.1, hts _ hlink, ⟨_, _, _, hi⟩, hst⟩ (by rw [q2]; exact h6) q1 q3 (by rw [hsl]; exact k2_hasslot (q4 j hj)) rfl rfl hd fun H' e1 e2 e3 => ?_
  rw [hsl] at e1 ⊢
  refine kk p l e s m args below meth c C H' _ ls hl (hR.put hk e2 ?_ e3 ho) (hS.put e2 e3 hb0)
  rw [hs]
  exact ⟨_, hc, t_OB.to (V := updV (vp_V fs) j v) ⟨_, e1, q2, q3, t_set q4 hap hj v⟩ (fun z _ => vp_updV_set hl0 v z)⟩
theorem e_putF {idx k i ci j : Nat} {fs : List Value} {v : Value} {ty : FieldType} (ct' : Nat → Nat → va_E) (hd : dc cc pc (.putfield idx) 3 n) (hg : FP y.cls idx ci j ty true) (hini : y.name = "<init>") (hk : dm k i) (he : ct k i = .inr (ci, fs)) (hn : narrow ty v = v) (hf : fits ty v = true) (hl0 : j < fs.length) (hs : ct' k i = .inr (ci, fs.set j v)) (ho : ∀ k' i', dm k' i' → ¬ (k' = k ∧ i' = i) → ct' k' i' = ct k' i') (kk : E b0 D dA y cc nL ret R EX QF n lv (st) dm ad ct' cells slots) : E b0 D dA y cc nL ret R EX QF pc lv (v :: .ref (ad k i) :: st) dm ad ct cells slots := by
  obtain ⟨hd, rfl⟩ := hd
  intro p l e s m args below meth c C H locs ls hl hR hS
  obtain ⟨Cn, T, N, ref, ty0, hc, hj, hin, hlink, rfl, hty, hnm, hfin, hd0, hdecl⟩ := hg
  have hdecl := hdecl rfl
  obtain ⟨ha, hb0⟩ := hR.2.1 k i hk
  rw [he] at ha
  have hts := C.2.2.2.2.2.1
  have hown := C.2.2.2.2.1
  have hin2 : meth.name = "<init>" := C.2.2.2.2.2.2.2.1.trans hini
  have hK := C.2.2.2.2.2.2.2.2.1.1
  have hap := va_apart (own := y.cls) hts hin ty0 hty hnm hK hc
  obtain ⟨r, h1, cell, q1, q2, q3, q4⟩ := ha
  have hr : r = (Cn, T, N) := Option.some.inj (h1.symm.trans hc)
  subst hr
  obtain ⟨hS0, hfc, kC, hkC, hkind⟩ := hK.1 ci _ hc
  obtain ⟨cf, kf, fi, f, hi, hsl⟩ := hS0 j hj
  have hlay := hts _ (hin _ (u_in_lay hj))
  unfold u_lay at hlay
  rw [if_pos hfin] at hlay
  have hst := (u_facts hfc hkC (u_lays hts hin hj) hi).1
  have hcf : m.cls = cf := by
    obtain ⟨_, _, c', _, _, _, -, -, hf', -, -, -, hown2, -⟩ := Cond.laysFinal_spec hlay
    have e1 : c' = cf := by have := hi.symm.trans hf'; simp at this; exact this.1.symm
    rw [hdecl] at hown2
    rw [← e1]; exact Option.some.inj (hown.symm.trans hown2)
  have h6 := u_fits hfc hkC hkind (Or.inr hlay) hi hd0 hn hf
  refine W.putFinK C.1 C.2.1 hown (hts _ hlink) hi hst hcf hin2 (by rw [q2]; exact h6) q1 q3 (by rw [hsl]; exact k2_hasslot (q4 j hj)) rfl rfl hd fun H' e1 e2 e3 => ?_
  rw [hsl] at e1 ⊢
  refine kk p l e s m args below meth c C H' _ ls hl (hR.put hk e2 ?_ e3 ho) (hS.put e2 e3 hb0)
  rw [hs]
  exact ⟨_, hc, t_OB.to (V := updV (vp_V fs) j v) ⟨_, e1, q2, q3, t_set q4 hap hj v⟩ (fun z _ => vp_updV_set hl0 v z)⟩
theorem e_iald {k i N : Nat} {f : Nat → Int32} {x : Int32} (hd : dc cc pc .iaload 1 n) (hk : dm k i) (he : ct k i = .inl (dA 0, N, .inl f)) (hin : vp_in x N) (kk : E b0 D dA y cc nL ret R EX QF n lv (.int (f x.toNatClampNeg) :: st) dm ad ct cells slots) : E b0 D dA y cc nL ret R EX QF pc lv (.int x :: .ref (ad k i) :: st) dm ad ct cells slots := by
  obtain ⟨hd, rfl⟩ := hd
  intro p l e s m args below meth c C H locs ls hl hR hS
  have ha := (hR.2.1 k i hk).1
  rw [he] at ha
  have hlt : x.toNatClampNeg < N := Nat.not_le.mp fun q => hin (Or.inr q)
  exact W.iald (v := .int (f x.toNatClampNeg)) C.1 C.2.1 ha ((C.2.2.2.2.2.2.2.2.1.1.2 0 _ rfl).1 N (fun j => .int (f j))) (fun q => by cases q) (by show ¬ (x < 0 ∨ (arrV _ _ _).slots.size ≤ _); rw [arrV_size]; exact hin) (by show (arrV _ _ _).slots[_]? = _; rw [arrV_read _ _ hlt]) rfl rfl hd (kk p l e s m args below meth c C H locs ls hl hR hS)
theorem e_lald {k i N : Nat} {f : Nat → Int64} {x : Int32} (hd : dc cc pc .laload 1 n) (hk : dm k i) (he : ct k i = .inl (dA 1, N, .inr (.inl f))) (hin : vp_in x N) (kk : E b0 D dA y cc nL ret R EX QF n lv (.long (f x.toNatClampNeg) :: st) dm ad ct cells slots) : E b0 D dA y cc nL ret R EX QF pc lv (.int x :: .ref (ad k i) :: st) dm ad ct cells slots := by
  obtain ⟨hd, rfl⟩ := hd
  intro p l e s m args below meth c C H locs ls hl hR hS
  have ha := (hR.2.1 k i hk).1
  rw [he] at ha
  have hlt : x.toNatClampNeg < N := Nat.not_le.mp fun q => hin (Or.inr q)
  exact W.lald (v := .long (f x.toNatClampNeg)) C.1 C.2.1 ha ((C.2.2.2.2.2.2.2.2.1.1.2 1 _ rfl).1 N (fun j => .long (f j))) (fun q => by cases q) (by show ¬ (x < 0 ∨ (arrV _ _ _).slots.size ≤ _); rw [arrV_size]; exact hin) (by show (arrV _ _ _).slots[_]? = _; rw [arrV_read _ _ hlt]) rfl rfl hd (kk p l e s m args below meth c C H locs ls hl hR hS)
theorem e_aald {k i N t0 : Nat} {Cn : String} {f : Nat → Option Nat} {x : Int32} {r : Option Nat} (hd : dc cc pc .aaload 1 n) (hk : dm k i) (he : ct k i = .inl (dA t0, N, .inr (.inr (.inr (.inr f))))) (ht : (eTs dA)[t0]? = some (dA t0, .object Cn)) (hin : vp_in x N) (hr : f x.toNatClampNeg = r) (kk : E b0 D dA y cc nL ret R EX QF n lv (va_rf r :: st) dm ad ct cells slots) : E b0 D dA y cc nL ret R EX QF pc lv (.int x :: .ref (ad k i) :: st) dm ad ct cells slots := by
  obtain ⟨hd, rfl⟩ := hd
  intro p l e s m args below meth c C H locs ls hl hR hS
  subst hr
  have ha := (hR.2.1 k i hk).1
  rw [he] at ha
  have hlt : x.toNatClampNeg < N := Nat.not_le.mp fun q => hin (Or.inr q)
  exact W.aald (v := va_rf (f x.toNatClampNeg)) (ty := .object Cn) C.1 C.2.1 ha ((C.2.2.2.2.2.2.2.2.1.1.2 t0 _ ht).1 N (fun j => va_rf (f j))) rfl (fun q => by cases q) (by show ¬ (x < 0 ∨ (arrV _ _ _).slots.size ≤ _); rw [arrV_size]; exact hin) (by show (arrV _ _ _).slots[_]? = _; rw [arrV_read _ _ hlt]) rfl rfl hd (kk p l e s m args below meth c C H locs ls hl hR hS)
theorem e_iast {k i N : Nat} {f : Nat → Int32} {x v : Int32} (ct' : Nat → Nat → va_E) (hd : dc cc pc .iastore 1 n) (hk : dm k i) (he : ct k i = .inl (dA 0, N, .inl f)) (hin : vp_in x N) (hs : ct' k i = .inl (dA 0, N, .inl (upd f x.toNatClampNeg v))) (ho : ∀ k' i', dm k' i' → ¬ (k' = k ∧ i' = i) → ct' k' i' = ct k' i') (kk : E b0 D dA y cc nL ret R EX QF n lv (st) dm ad ct' cells slots) : E b0 D dA y cc nL ret R EX QF pc lv (.int v :: .int x :: .ref (ad k i) :: st) dm ad ct cells slots := by
  obtain ⟨hd, rfl⟩ := hd
  intro p l e s m args below meth c C H locs ls hl hR hS
  obtain ⟨ha, hb0⟩ := hR.2.1 k i hk
  rw [he] at ha
  refine W.iast C.1 C.2.1 ha ((C.2.2.2.2.2.2.2.2.1.1.2 0 _ rfl).1 N (fun j => .int (f j))) (fun q => by cases q) (by show ¬ (x < 0 ∨ (arrV _ _ _).slots.size ≤ _); rw [arrV_size]; exact hin) rfl rfl hd fun H1 e1 z oq => ?_
  refine kk p l e s m args below meth c C H1 _ ls hl (hR.put hk z ?_ oq ho) (hS.put z oq hb0)
  rw [hs]
  show H1[_]? = some (vp_cell _ _)
  rw [e1, vp_cell_i, vp_cell_i, arrV_store]
  congr 2
  funext q
  by_cases hq : q = x.toNatClampNeg
  · subst hq
    simp [updV, upd]
  · simp [updV, upd, hq]
theorem e_last {k i N : Nat} {f : Nat → Int64} {x : Int32} {v : Int64} (ct' : Nat → Nat → va_E) (hd : dc cc pc .lastore 1 n) (hk : dm k i) (he : ct k i = .inl (dA 1, N, .inr (.inl f))) (hin : vp_in x N) (hs : ct' k i = .inl (dA 1, N, .inr (.inl (vp_updL f x.toNatClampNeg v)))) (ho : ∀ k' i', dm k' i' → ¬ (k' = k ∧ i' = i) → ct' k' i' = ct k' i') (kk : E b0 D dA y cc nL ret R EX QF n lv (st) dm ad ct' cells slots) : E b0 D dA y cc nL ret R EX QF pc lv (.long v :: .int x :: .ref (ad k i) :: st) dm ad ct cells slots := by
  obtain ⟨hd, rfl⟩ := hd
  intro p l e s m args below meth c C H locs ls hl hR hS
  obtain ⟨ha, hb0⟩ := hR.2.1 k i hk
  rw [he] at ha
  refine W.last C.1 C.2.1 ha ((C.2.2.2.2.2.2.2.2.1.1.2 1 _ rfl).1 N (fun j => .long (f j))) (fun q => by cases q) (by show ¬ (x < 0 ∨ (arrV _ _ _).slots.size ≤ _); rw [arrV_size]; exact hin) rfl rfl hd fun H1 e1 z oq => ?_
  refine kk p l e s m args below meth c C H1 _ ls hl (hR.put hk z ?_ oq ho) (hS.put z oq hb0)
  rw [hs]
  show H1[_]? = some (vp_cell _ _)
  rw [e1, vp_cell_l, vp_cell_l, arrV_store]
  congr 2
  funext q
  by_cases hq : q = x.toNatClampNeg
  · subst hq
    simp [updV, vp_updL]
  · simp [updV, vp_updL, hq]
/-- a cell of class number ci may stand in an array of Cn -/
def FA (ci : Nat) (Cn : String) : Prop := ∃ (C : String) (T : u_T) (N : Nat), eCl[ci]? = some (C, T, N) ∧ (C = Cn ∨ (C, Cn) ∈ eCa)
theorem w_any {s : State} {H : Heap} {k i ci : Nat} {fs : List Value} {Cn : String} (hK : KK D dA s) (hR : Rl b0 D dm ad ct H) (hk : dm k i) (he : ct k i = .inr (ci, fs)) (hA : FA ci Cn) : va_Any Cn s H (ad k i) := by
  obtain ⟨C0, T, N, hc, hca⟩ := hA
  have ha := (hR.2.1 k i hk).1
  rw [he] at ha
  obtain ⟨r, h1, cell, q1, q2, q3, -⟩ := ha
  have hr : r = (C0, T, N) := Option.some.inj (h1.symm.trans hc)
  subst hr
  obtain ⟨-, hcls⟩ := hK.1.1 ci _ hc
  obtain ⟨kC, hkC, -⟩ := hcls.2
  refine ⟨cell, q1, by rw [q3]; rfl, ⟨kC, by rw [q2]; exact hkC⟩, fun comp hcomp => ?_⟩
  rcases hca with rfl | hca
  · have : comp = D.1 ci := Option.some.inj (hcomp.symm.trans hcls.1)
    rw [q2, this]
    exact va_assign hcls
  · obtain ⟨c0, t0, f1, f2, f3⟩ := Cond.castable_spec (va_Nw.use (A := #[]) rfl (hK.2.2.2.2.1 _ hca))
    have e1 : D.1 ci = c0 := Option.some.inj (hcls.1.symm.trans f1)
    have e2 : comp = t0 := Option.some.inj (hcomp.symm.trans f2)
    rw [q2, e1, e2]
    exact f3
theorem e_aast {k i N t0 k2 i2 ci : Nat} {Cn : String} {f : Nat → Option Nat} {x : Int32} {fs : List Value} (ct' : Nat → Nat → va_E) (hd : dc cc pc .aastore 1 n) (hk : dm k i) (he : ct k i = .inl (dA t0, N, .inr (.inr (.inr (.inr f))))) (ht : (eTs dA)[t0]? = some (dA t0, .object Cn)) (hin : vp_in x N) (hk2 : dm k2 i2) (he2 : ct k2 i2 = .inr (ci, fs)) (hA : FA ci Cn) (hs : ct' k i = .inl (dA t0, N, .inr (.inr (.inr (.inr (va_up f x.toNatClampNeg (some (ad k2 i2)))))))) (ho : ∀ k' i', dm k' i' → ¬ (k' = k ∧ i' = i) → ct' k' i' = ct k' i') (kk : E b0 D dA y cc nL ret R EX QF n lv (st) dm ad ct' cells slots) : E b0 D dA y cc nL ret R EX QF pc lv (.ref (ad k2 i2) :: .int x :: .ref (ad k i) :: st) dm ad ct cells slots := by
  obtain ⟨hd, rfl⟩ := hd
  intro p l e s m args below meth c C H locs ls hl hR hS
  obtain ⟨ha, hb0⟩ := hR.2.1 k i hk
  rw [he] at ha
  have hK := C.2.2.2.2.2.2.2.2.1
  have hlt : x.toNatClampNeg < N := Nat.not_le.mp fun q => hin (Or.inr q)
  have h0 : ¬ x < 0 := fun q => hin (Or.inl q)
  obtain ⟨cellV, g1, g3, ⟨kC, hkC⟩, hasg⟩ := w_any hK hR hk2 he2 hA
  obtain ⟨kA, comp, k1, k2', k3, -⟩ := (hK.1.2 t0 _ ht).2
  obtain ⟨kE, hkE, -⟩ := Vm.findClass_spec k3
  refine W.aast C.1 C.2.1 ha (fun q h => by cases h) (fun h => by cases h) k1 k2' rfl hkE ⟨h0, by show _ < (arrV _ _ _).slots.size; rw [arrV_size]; exact hlt⟩ g1 (fun q h => by rw [h] at g3; cases g3) hkC (hasg _ k3) rfl rfl hd fun H1 e1 z oq => ?_
  refine kk p l e s m args below meth c C H1 _ ls hl (hR.put hk z ?_ oq ho) (hS.put z oq hb0)
  rw [hs]
  show H1[_]? = some (vp_cell _ _)
  rw [e1, vp_cell_q, vp_cell_q, arrV_store]
  congr 2
  funext q
  by_cases hq : q = x.toNatClampNeg
  · subst hq
    simp [updV, va_up, va_rf]
  · simp [updV, va_up, hq]
theorem e_aastN {k i N t0 : Nat} {Cn : String} {f : Nat → Option Nat} {x : Int32} (ct' : Nat → Nat → va_E) (hd : dc cc pc .aastore 1 n) (hk : dm k i) (he : ct k i = .inl (dA t0, N, .inr (.inr (.inr (.inr f))))) (ht : (eTs dA)[t0]? = some (dA t0, .object Cn)) (hin : vp_in x N) (hs : ct' k i = .inl (dA t0, N, .inr (.inr (.inr (.inr (va_up f x.toNatClampNeg none)))))) (ho : ∀ k' i', dm k' i' → ¬ (k' = k ∧ i' = i) → ct' k' i' = ct k' i') (kk : E b0 D dA y cc nL ret R EX QF n lv (st) dm ad ct' cells slots) : E b0 D dA y cc nL ret R EX QF pc lv (.null :: .int x :: .ref (ad k i) :: st) dm ad ct cells slots := by
  obtain ⟨hd, rfl⟩ := hd
  intro p l e s m args below meth c C H locs ls hl hR hS
  obtain ⟨ha, hb0⟩ := hR.2.1 k i hk
  rw [he] at ha
  refine va_WaastN (C := Cn) C.1 C.2.1 ha ((C.2.2.2.2.2.2.2.2.1.1.2 t0 _ ht).1 N (fun j => va_rf (f j))) (fun h => by cases h) (by show ¬ (x < 0 ∨ (arrV _ _ _).slots.size ≤ _); rw [arrV_size]; exact hin) rfl rfl hd fun H1 e1 z oq => ?_
  refine kk p l e s m args below meth c C H1 _ ls hl (hR.put hk z ?_ oq ho) (hS.put z oq hb0)
  rw [hs]
  show H1[_]? = some (vp_cell _ _)
  rw [e1, vp_cell_q, vp_cell_q, arrV_store]
  congr 2
  funext q
  by_cases hq : q = x.toNatClampNeg
  · subst hq
    simp [updV, va_up, va_rf]
  · simp [updV, va_up, hq]
theorem e_alen {k i t0 : Nat} {a0 : vp_A} {ty : FieldType} (hd : dc cc pc .arraylength 1 n) (hk : dm k i) (he : ct k i = .inl (dA t0, a0)) (ht : (eTs dA)[t0]? = some (dA t0, ty)) (kk : E b0 D dA y cc nL ret R EX QF n lv (.int (nI a0.1) :: st) dm ad ct cells slots) : E b0 D dA y cc nL ret R EX QF pc lv (.ref (ad k i) :: st) dm ad ct cells slots := by
  obtain ⟨hd, rfl⟩ := hd
  intro p l e s m args below meth c C H locs ls hl hR hS
  have ha := (hR.2.1 k i hk).1
  rw [he] at ha
  have hP : va_P D eCl [(ad k i, .inl (dA t0, a0))] H := fun z q hz => by
    have hz0 : z < 1 := (List.getElem?_eq_some_iff.mp hz).1
    rw [show z = 0 by omega] at hz
    cases hz
    exact ha
  exact va_alen C.1 C.2.1 C.2.2.2.2.2.2.2.2.1.1 hP 0 t0 rfl ht rfl hd (kk p l e s m args below meth c C H locs ls hl hR hS)
theorem e_new {idx ci N : Nat} {fs : List Value} (k i : Nat) (hd : dc cc pc (.new idx) 3 n) (hN : FN y.cls idx ci N fs) (h1 : cells + 1 ≤ R.cells) (h2 : slots + N ≤ R.slots) (kk : ∀ a : Nat, E b0 D dA y cc nL ret R EX QF n lv (.ref a :: st) (dmU dm k i) (u2 ad k i a) (u2 ct k i (.inr (ci, fs))) (cells + 1) (slots + N)) : E b0 D dA y cc nL ret R EX QF pc lv (st) dm ad ct cells slots := by
  obtain ⟨hd, rfl⟩ := hd
  intro p l e s m args below meth c C H locs ls hl hR hS
  obtain ⟨Cn, T, ty0, hc, hin, hty, hcl, hinst, hini, hfs⟩ := hN
  have hts := C.2.2.2.2.2.1
  have hK := C.2.2.2.2.2.2.2.2.1.1
  have hKn := hK.1 ci _ hc
  refine W.newcK C.1 C.2.1 C.2.2.2.2.1 (hts _ hcl) (hts _ hinst) (hts _ hini) rfl hd h1 h2 hKn.2.1 rfl fun H1 kC hkC e1 z1 o1 => ?_
  exact kk H.size p l e s m args below meth c C H1 locs ls hl (hR.new k i z1 ⟨_, hc, (u_born ty0 hts hin hKn hkC e1 hty).to hfs⟩ o1) ⟨Nat.le_trans hS.1 (by omega), fun x g1 g2 => (o1 x (Nat.lt_of_lt_of_le g1 hS.1)).trans (hS.2.1 x g1 g2), hS.2.2⟩
theorem e_newi {x : Int32} {N : Nat} (k i : Nat) (hd : dc cc pc (.newarray .int) 2 n) (hx : x = nI N) (hN : N ≤ 10000) (h1 : cells + 1 ≤ R.cells) (h2 : slots + N ≤ R.slots) (hw : Cond.arrayClass .int ∈ gT) (kk : ∀ a : Nat, E b0 D dA y cc nL ret R EX QF n lv (.ref a :: st) (dmU dm k i) (u2 ad k i a) (u2 ct k i (.inl (dA 0, N, .inl (fun _ => 0)))) (cells + 1) (slots + N)) : E b0 D dA y cc nL ret R EX QF pc lv (.int x :: st) dm ad ct cells slots := by
  obtain ⟨hd, rfl⟩ := hd
  intro p l e s m args below meth c C H locs ls hl hR hS
  subst hx
  have hK := C.2.2.2.2.2.2.2.2.1.1
  refine va_newaK (atype := .int) C.1 C.2.1 (C.2.2.2.2.2.1 _ hw) rfl hd rfl (nI_pos (by omega)) (nI_clamp (by omega)) (by show N * 4 ≤ _; omega) h1 h2 rfl fun H1 cA e1 z1 o1 hAr hNm => ?_
  have hcA : cA = dA 0 := Option.some.inj (hNm.symm.trans (hK.2 0 _ rfl).2)
  subst hcA
  exact kk H.size p l e s m args below meth c C H1 locs ls hl (hR.new k i z1 e1 o1) ⟨Nat.le_trans hS.1 (by omega), fun x g1 g2 => (o1 x (Nat.lt_of_lt_of_le g1 hS.1)).trans (hS.2.1 x g1 g2), hS.2.2⟩
theorem e_newl {x : Int32} {N : Nat} (k i : Nat) (hd : dc cc pc (.newarray .long) 2 n) (hx : x = nI N) (hN : N ≤ 10000) (h1 : cells + 1 ≤ R.cells) (h2 : slots + N ≤ R.slots) (hw : Cond.arrayClass .long ∈ gT) (kk : ∀ a : Nat, E b0 D dA y cc nL ret R EX QF n lv (.ref a :: st) (dmU dm k i) (u2 ad k i a) (u2 ct k i (.inl (dA 1, N, .inr (.inl (fun _ => 0))))) (cells + 1) (slots + N)) : E b0 D dA y cc nL ret R EX QF pc lv (.int x :: st) dm ad ct cells slots := by
  obtain ⟨hd, rfl⟩ := hd
  intro p l e s m args below meth c C H locs ls hl hR hS
  subst hx
  have hK := C.2.2.2.2.2.2.2.2.1.1
  refine va_newaK (atype := .long) C.1 C.2.1 (C.2.2.2.2.2.1 _ hw) rfl hd rfl (nI_pos (by omega)) (nI_clamp (by omega)) (by show N * 8 ≤ _; omega) h1 h2 rfl fun H1 cA e1 z1 o1 hAr hNm => ?_
  have hcA : cA = dA 1 := Option.some.inj (hNm.symm.trans (hK.2 1 _ rfl).2)
  subst hcA
  exact kk H.size p l e s m args below meth c C H1 locs ls hl (hR.new k i z1 e1 o1) ⟨Nat.le_trans hS.1 (by omega), fun x g1 g2 => (o1 x (Nat.lt_of_lt_of_le g1 hS.1)).trans (hS.2.1 x g1 g2), hS.2.2⟩
theorem e_newq {idx t0 : Nat} {Cn : String} {x : Int32} {N : Nat} (k i : Nat) (hd : dc cc pc (.anewarray idx) 3 n) (hx : x = nI N) (hN : N ≤ 10000) (h1 : cells + 1 ≤ R.cells) (h2 : slots + N ≤ R.slots) (hw : Cond.classLink y.cls idx Cn ∈ gT) (ht : (eTs dA)[t0]? = some (dA t0, .object Cn)) (hao : Cn ∈ eAO) (kk : ∀ a : Nat, E b0 D dA y cc nL ret R EX QF n lv (.ref a :: st) (dmU dm k i) (u2 ad k i a) (u2 ct k i (.inl (dA t0, N, .inr (.inr (.inr (.inr (fun _ => none))))))) (cells + 1) (slots + N)) : E b0 D dA y cc nL ret R EX QF pc lv (.int x :: st) dm ad ct cells slots := by
  obtain ⟨hd, rfl⟩ := hd
  intro p l e s m args below meth c C H locs ls hl hR hS
  subst hx
  have hK := C.2.2.2.2.2.2.2.2.1
  have hcl : (nI N).toNatClampNeg = N := nI_clamp (by omega)
  refine W.anew C.1 C.2.1 C.2.2.2.2.1 (C.2.2.2.2.2.1 _ hw) (va_AO.use (hK.2.2.2.1 _ hao)) rfl hd rfl (nI_pos (by omega)) (by rw [hcl]; omega) h1 (by rw [hcl]; exact h2) fun cA kA comp f1 f2 f3 f4 => ?_
  have hcA : cA = dA t0 := by
    obtain ⟨kA', comp', g1, g2, g3, g4⟩ := (hK.1.2 t0 _ ht).2
    first | exact Option.some.inj (f1.symm.trans g4) | exact Option.some.inj (f4.symm.trans g4)
  subst hcA
  generalize hH1 : H.push ({ cls := dA t0, slots := Array.replicate (nI N).toNatClampNeg .null, vm := .none } : Cell) = H1
  have z1 : H1.size = H.size + 1 := by rw [← hH1, Array.size_push]
  have e1 : H1[H.size]? = some (arrV (dA t0) N (fun _ => .null)) := by rw [← hH1, Array.getElem?_push_size, ← arrV_new, hcl]
  have o1 : ∀ q : Nat, q < H.size → H1[q]? = H[q]? := fun q hq => by rw [← hH1, Array.getElem?_push, if_neg (Nat.ne_of_lt hq)]
  refine W.cs rfl (by rw [hcl]) ?_
  exact kk H.size p l e s m args below meth c C H1 locs ls hl (hR.new k i z1 e1 o1) ⟨Nat.le_trans hS.1 (by omega), fun x g1 g2 => (o1 x (Nat.lt_of_lt_of_le g1 hS.1)).trans (hS.2.1 x g1 g2), hS.2.2⟩
/-- the receiver's class -/
theorem w_recv {s : State} {H : Heap} {k i ci : Nat} {fs : List Value} {r : vw_C} (hK : KK D dA s) (hR : Rl b0 D dm ad ct H) (hk : dm k i) (he : ct k i = .inr (ci, fs)) (hc : eCl[ci]? = some r) : ∃ cell : Cell, H[ad k i]? = some cell ∧ cell.vm.isStatics = false ∧ s.vm.findClass r.1 = some cell.cls := by
  have ha := (hR.2.1 k i hk).1
  rw [he] at ha
  obtain ⟨r', h1, cell, q1, q2, q3, -⟩ := ha
  exact ⟨cell, q1, by rw [q3]; rfl, by rw [q2]; exact (hK.1.1 ci r hc).2.1⟩
/-- instanceof, checkcast: class number ci against the class that own names at idx -/
def FI (own : String) (idx ci : Nat) (b : Int32) : Prop := ∃ (C : String) (T : u_T) (N : Nat) (nm : String), eCl[ci]? = some (C, T, N) ∧ Cond.classLink own idx nm ∈ gT ∧ ((b = 1 ∧ (C, nm) ∈ eCa) ∨ (b = 0 ∧ (C, nm) ∈ eNc))
theorem e_inst {idx k i ci : Nat} {fs : List Value} {b : Int32} (hd : dc cc pc (.instanceof idx) 3 n) (hg : FI y.cls idx ci b) (hk : dm k i) (he : ct k i = .inr (ci, fs)) (kk : E b0 D dA y cc nL ret R EX QF n lv (.int b :: st) dm ad ct cells slots) : E b0 D dA y cc nL ret R EX QF pc lv (.ref (ad k i) :: st) dm ad ct cells slots := by
  obtain ⟨hd, rfl⟩ := hd
  intro p l e s m args below meth c C H locs ls hl hR hS
  obtain ⟨Cn, T, N, nm, hc, hw, hb⟩ := hg
  have hK := C.2.2.2.2.2.2.2.2.1
  have hr := w_recv hK hR hk he hc
  rcases hb with ⟨rfl, hb⟩ | ⟨rfl, hb⟩
  · exact va_instY C.1 C.2.1 C.2.2.2.2.1 (C.2.2.2.2.2.1 _ hw) (hK.2.2.2.2.1 _ hb) hr hd (kk p l e s m args below meth c C H locs ls hl hR hS)
  · exact va_instNo C.1 C.2.1 C.2.2.2.2.1 (C.2.2.2.2.2.1 _ hw) (hK.2.2.2.2.2 _ hb) hr hd (kk p l e s m args below meth c C H locs ls hl hR hS)
theorem e_instN {idx : Nat} (hd : dc cc pc (.instanceof idx) 3 n) (kk : E b0 D dA y cc nL ret R EX QF n lv (.int 0 :: st) dm ad ct cells slots) : E b0 D dA y cc nL ret R EX QF pc lv (.null :: st) dm ad ct cells slots := by
  obtain ⟨hd, rfl⟩ := hd
  intro p l e s m args below meth c C H locs ls hl hR hS
  exact lv_instN C.1 C.2.1 hd (kk p l e s m args below meth c C H locs ls hl hR hS)
theorem e_cast {idx k i ci : Nat} {fs : List Value} (hd : dc cc pc (.checkcast idx) 3 n) (hg : FI y.cls idx ci 1) (hk : dm k i) (he : ct k i = .inr (ci, fs)) (kk : E b0 D dA y cc nL ret R EX QF n lv (.ref (ad k i) :: st) dm ad ct cells slots) : E b0 D dA y cc nL ret R EX QF pc lv (.ref (ad k i) :: st) dm ad ct cells slots := by
  obtain ⟨hd, rfl⟩ := hd
  intro p l e s m args below meth c C H locs ls hl hR hS
  obtain ⟨Cn, T, N, nm, hc, hw, hb⟩ := hg
  have hK := C.2.2.2.2.2.2.2.2.1
  have hr := w_recv hK hR hk he hc
  rcases hb with ⟨-, hb⟩ | ⟨h10, -⟩
  · exact va_castY C.1 C.2.1 C.2.2.2.2.1 (C.2.2.2.2.2.1 _ hw) (hK.2.2.2.2.1 _ hb) hr hd (kk p l e s m args below meth c C H locs ls hl hR hS)
  · exact absurd h10 (by decide)
end EH
