/-! ===== the class's cells: raw updates, addresses given by an equation ===== -/
section XA
variable {b0 : Nat} {D : va_G} {dA : Nat → ClassId} {y : MethodName} {cc : ByteArray} {nL : Nat} {ret : Option FieldType} {R : Room} {EX : Array Value → State → Prop} {QF : List Frame → Array Value → State → State → Prop} {pc n t : Nat} {lv : Nat → Option Value} {st : List Value} {dm : Nat → Nat → Prop} {ad : Nat → Nat → Nat} {ct : Nat → Nat → va_E} {cells slots : Nat} {a : Nat}
theorem x_get {idx k i ci j : Nat} {fs : List Value} {v : Value} (hd : dc cc pc (.getfield idx) 3 n) (hg : FG y.cls idx ci j) (ha : ad k i = a) (hk : dm k i) (he : ct k i = .inr (ci, fs)) (hv : fs[j]? = some v) (kk : E b0 D dA y cc nL ret R EX QF n lv (v :: st) dm ad ct cells slots) : E b0 D dA y cc nL ret R EX QF pc lv (.ref a :: st) dm ad ct cells slots := by
  subst ha; exact e_getf hd hg hk he hv kk
theorem x_put {idx k i ci j : Nat} {fs : List Value} {v : Value} {ty : FieldType} (hd : dc cc pc (.putfield idx) 3 n) (hg : FP y.cls idx ci j ty false) (ha : ad k i = a) (hk : dm k i) (he : ct k i = .inr (ci, fs)) (hn : narrow ty v = v) (hf : fits ty v = true) (hl0 : j < fs.length) (kk : E b0 D dA y cc nL ret R EX QF n lv st dm ad (u2 ct k i (.inr (ci, fs.set j v))) cells slots) : E b0 D dA y cc nL ret R EX QF pc lv (v :: .ref a :: st) dm ad ct cells slots := by
  subst ha; exact e_putf _ hd hg hk he hn hf hl0 u2_s (fun _ _ _ h => u2_n h) kk
theorem x_putF {idx k i ci j : Nat} {fs : List Value} {v : Value} {ty : FieldType} (hd : dc cc pc (.putfield idx) 3 n) (hg : FP y.cls idx ci j ty true) (hini : y.name = "<init>") (ha : ad k i = a) (hk : dm k i) (he : ct k i = .inr (ci, fs)) (hn : narrow ty v = v) (hf : fits ty v = true) (hl0 : j < fs.length) (kk : E b0 D dA y cc nL ret R EX QF n lv st dm ad (u2 ct k i (.inr (ci, fs.set j v))) cells slots) : E b0 D dA y cc nL ret R EX QF pc lv (v :: .ref a :: st) dm ad ct cells slots := by
  subst ha; exact e_putF _ hd hg hini hk he hn hf hl0 u2_s (fun _ _ _ h => u2_n h) kk
theorem x_ild {k i N : Nat} {f : Nat → Int32} {x : Int32} (q : Nat) (hd : dc cc pc .iaload 1 n) (ha : ad k i = a) (hk : dm k i) (he : ct k i = .inl (dA 0, N, .inl f)) (hx : x = nI q) (hq : q < N) (hN : N < 2 ^ 31) (kk : E b0 D dA y cc nL ret R EX QF n lv (.int (f q) :: st) dm ad ct cells slots) : E b0 D dA y cc nL ret R EX QF pc lv (.int x :: .ref a :: st) dm ad ct cells slots := by
  subst ha; subst hx
  refine e_iald hd hk he (vp_in_nI hq hN) ?_
  rw [nI_clamp (by omega)]; exact kk
theorem x_ist {k i N : Nat} {f : Nat → Int32} {x v : Int32} (q : Nat) (hd : dc cc pc .iastore 1 n) (ha : ad k i = a) (hk : dm k i) (he : ct k i = .inl (dA 0, N, .inl f)) (hx : x = nI q) (hq : q < N) (hN : N < 2 ^ 31) (kk : E b0 D dA y cc nL ret R EX QF n lv st dm ad (u2 ct k i (.inl (dA 0, N, .inl (upd f q v)))) cells slots) : E b0 D dA y cc nL ret R EX QF pc lv (.int v :: .int x :: .ref a :: st) dm ad ct cells slots := by
  subst ha; subst hx
  refine e_iast (u2 ct k i (.inl (dA 0, N, .inl (upd f q v)))) hd hk he (vp_in_nI hq hN) ?_ (fun _ _ _ h => u2_n h) kk
  rw [nI_clamp (by omega)]; exact u2_s
theorem x_ald {k i N t0 : Nat} {Cn : String} {f : Nat → Option Nat} {x : Int32} (q : Nat) {r : Option Nat} (hd : dc cc pc .aaload 1 n) (ha : ad k i = a) (hk : dm k i) (he : ct k i = .inl (dA t0, N, .inr (.inr (.inr (.inr f))))) (ht : (eTs dA)[t0]? = some (dA t0, .object Cn)) (hx : x = nI q) (hq : q < N) (hN : N < 2 ^ 31) (hr : f q = r) (kk : E b0 D dA y cc nL ret R EX QF n lv (va_rf r :: st) dm ad ct cells slots) : E b0 D dA y cc nL ret R EX QF pc lv (.int x :: .ref a :: st) dm ad ct cells slots := by
  subst ha; subst hx
  exact e_aald hd hk he ht (vp_in_nI hq hN) (by rw [nI_clamp (by omega)]; exact hr) kk
theorem x_ast {k i N t0 k2 i2 ci : Nat} {Cn : String} {f : Nat → Option Nat} {x : Int32} {fs : List Value} {v : Nat} (q : Nat) (hd : dc cc pc .aastore 1 n) (ha : ad k i = a) (hk : dm k i) (he : ct k i = .inl (dA t0, N, .inr (.inr (.inr (.inr f))))) (ht : (eTs dA)[t0]? = some (dA t0, .object Cn)) (hx : x = nI q) (hq : q < N) (hN : N < 2 ^ 31) (hav : ad k2 i2 = v) (hk2 : dm k2 i2) (he2 : ct k2 i2 = .inr (ci, fs)) (hA : FA ci Cn) (kk : E b0 D dA y cc nL ret R EX QF n lv st dm ad (u2 ct k i (.inl (dA t0, N, .inr (.inr (.inr (.inr (va_up f q (some v)))))))) cells slots) : E b0 D dA y cc nL ret R EX QF pc lv (.ref v :: .int x :: .ref a :: st) dm ad ct cells slots := by
  subst ha; subst hx; subst hav
  refine e_aast (u2 ct k i (.inl (dA t0, N, .inr (.inr (.inr (.inr (va_up f q (some (ad k2 i2))))))))) hd hk he ht (vp_in_nI hq hN) hk2 he2 hA ?_ (fun _ _ _ h => u2_n h) kk
  rw [nI_clamp (by omega)]; exact u2_s
theorem x_astN {k i N t0 : Nat} {Cn : String} {f : Nat → Option Nat} {x : Int32} (q : Nat) (hd : dc cc pc .aastore 1 n) (ha : ad k i = a) (hk : dm k i) (he : ct k i = .inl (dA t0, N, .inr (.inr (.inr (.inr f))))) (ht : (eTs dA)[t0]? = some (dA t0, .object Cn)) (hx : x = nI q) (hq : q < N) (hN : N < 2 ^ 31) (kk : E b0 D dA y cc nL ret R EX QF n lv st dm ad (u2 ct k i (.inl (dA t0, N, .inr (.inr (.inr (.inr (va_up f q none))))))) cells slots) : E b0 D dA y cc nL ret R EX QF pc lv (.null :: .int x :: .ref a :: st) dm ad ct cells slots := by
  subst ha; subst hx
  refine e_aastN (u2 ct k i (.inl (dA t0, N, .inr (.inr (.inr (.inr (va_up f q none))))))) hd hk he ht (vp_in_nI hq hN) ?_ (fun _ _ _ h => u2_n h) kk
  rw [nI_clamp (by omega)]; exact u2_s
theorem x_len {k i t0 : Nat} {a0 : vp_A} {ty : FieldType} (hd : dc cc pc .arraylength 1 n) (ha : ad k i = a) (hk : dm k i) (he : ct k i = .inl (dA t0, a0)) (ht : (eTs dA)[t0]? = some (dA t0, ty)) (kk : E b0 D dA y cc nL ret R EX QF n lv (.int (nI a0.1) :: st) dm ad ct cells slots) : E b0 D dA y cc nL ret R EX QF pc lv (.ref a :: st) dm ad ct cells slots := by
  subst ha; exact e_alen hd hk he ht kk
end XA
theorem qa {Q : PQ} {dm : Nat → Nat → Prop} {ad : Nat → Nat → Nat} {ct : Nat → Nat → va_E} {a b : Value} (h : Q (some a) dm ad ct) (e : b = a) : Q (some b) dm ad ct := e ▸ h
abbrev rfs (dA : Nat → ClassId) (t N : Nat) (f : Nat → Option Nat) : va_E := .inl (dA t, N, .inr (.inr (.inr (.inr f))))
abbrev ins (dA : Nat → ClassId) (N : Nat) (f : Nat → Int32) : va_E := .inl (dA 0, N, .inl f)
def cb (b : Int32) : Nat := if b = 0 then 5 else if b = 1 then 8 else 3
theorem cb_or (b : Int32) : cb b = 3 ∨ cb b = 5 ∨ cb b = 8 := by
  unfold cb
  split
  · exact Or.inr (Or.inl rfl)
  · split
    · exact Or.inr (Or.inr rfl)
    · exact Or.inl rfl
theorem fa_c {ci : Nat} (h : ci = 3 ∨ ci = 5 ∨ ci = 8) : FA ci "ConstantKinds$Constant" := by
  rcases h with rfl | rfl | rfl
  · exact ⟨RX4, TX4, 3, rfl, Or.inr (by decide +kernel)⟩
  · exact ⟨RX6, TX6, 3, rfl, Or.inr (by decide +kernel)⟩
  · exact ⟨RX10, TX10, 3, rfl, Or.inr (by decide +kernel)⟩
theorem u2_u2 {α : Type} {f : Nat → Nat → α} {k i : Nat} {v w : α} : u2 (u2 f k i v) k i w = u2 f k i w := by
  funext a b
  by_cases h : a = k ∧ b = i
  · obtain ⟨rfl, rfl⟩ := h; rw [u2_s, u2_s]
  · rw [u2_n h, u2_n h, u2_n h]
