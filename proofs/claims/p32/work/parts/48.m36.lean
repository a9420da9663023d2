def ua2 (A : Nat → Nat) (k x y : Nat) : Nat → Nat := ua (ua A k x) (k + 1) y
theorem ua2_n {A : Nat → Nat} {k x y j : Nat} (h : j < k) : ua2 A k x y j = A j := by
  unfold ua2
  rw [ua_n (by omega), ua_n (by omega)]
theorem ua2_0 {A : Nat → Nat} {k x y j : Nat} (h : j = k) : ua2 A k x y j = x := by
  unfold ua2
  rw [ua_n (by omega), h, ua_s]
theorem ua2_1 {A : Nat → Nat} {k x y j : Nat} (h : j = k + 1) : ua2 A k x y j = y := by
  unfold ua2
  rw [h, ua_s]
theorem Fr.two {h h1 h2 : Hp} {A : Nat → Nat} {k x y : Nat} {e ex ey : va_E} (f : Fr h h1 A k) (hx : h1 x = none) (hy : hu h1 x e y = none) (tx : h2 x = some ex) (ty : h2 y = some ey) (kk : ∀ q, q ≠ x → q ≠ y → h2 q = h1 q) : Fr h h2 (ua2 A k x y) (k + 2) := by
  have nx := f.ne hx
  have ny := f.ne (hu_fresh hy).2
  refine ((f.new (e := e) hx).new (e := e) hy).heap (fun i hi => ?_) (fun q hq => ?_)
  · rcases (show i < k ∨ i = k ∨ i = k + 1 by omega) with c | c | c
    · obtain ⟨e2, he⟩ := f.2.2.1 i c
      refine ⟨e2, ?_⟩
      show h2 (ua2 A k x y i) = _
      rw [ua2_n c, kk _ (Ne.symm (nx i c)) (Ne.symm (ny i c)), he]
    · exact ⟨ex, by show h2 (ua2 A k x y i) = _; rw [ua2_0 c, tx]⟩
    · exact ⟨ey, by show h2 (ua2 A k x y i) = _; rw [ua2_1 c, ty]⟩
  · have q0 : q ≠ x := by
      have c := hq k (by omega)
      rw [show ua (ua A k x) (k + 1) y k = x from ua2_0 rfl] at c
      exact c
    have q1 : q ≠ y := by
      have c := hq (k + 1) (by omega)
      rw [show ua (ua A k x) (k + 1) y (k + 1) = y from ua2_1 rfl] at c
      exact c
    rw [kk q q0 q1, hu_ne q1, hu_ne q0]
theorem StatAt.hu0 {X : Cx} {h : Hp} {b : Nat} {e : va_E} (k : StatAt X h) (hb : h b = none) : StatAt X (hu h b e) := ⟨hu_n1 (Ne.symm (no_ne hb k.1)) k.1, hu_n1 (Ne.symm (no_ne hb k.2.1)) k.2.1, hu_n1 (Ne.symm (no_ne hb k.2.2)) k.2.2⟩
theorem StatAt.hu1 {X : Cx} {h : Hp} {b : Nat} {e e2 : va_E} (k : StatAt X h) (hb : h b = some e2) (hs : ∀ n f, e2 ≠ sI n f) : StatAt X (hu h b e) := ⟨hu_n1 (ne_gs k.1 hb hs) k.1, hu_n1 (ne_gs k.2.1 hb hs) k.2.1, hu_n1 (ne_gs k.2.2 hb hs) k.2.2⟩
/-- a house that is being built -/
def refs (A : Nat → Nat) (g : Nat → Nat) (n : Nat) : Nat → Option Nat := fun k => if k < n then some (A (g k)) else none
def HB (X : Cx) (h : Hp) (A : Nat → Nat) (a nv nl no : Nat) : Prop := h a = some (ob 1 [.ref (A 1), .ref (A 2), .ref (A 3), .int 0, .int 0, .int 0, .int 0, .ref (A 4), .ref (A 5), .ref (A 6)]) ∧ h (A 1) = some (oR X 2 6 (refs A (fun k => 8 + k) nv)) ∧ h (A 2) = some (oR X 3 20 (refs A (fun k => 14 + 3 * k) nl)) ∧ h (A 3) = some (oR X 4 60 (refs A (fun k => 74 + 2 * k) no)) ∧ h (A 4) = some (oI X 4 (nr 4 zrow)) ∧ h (A 5) = some (oI X 4 (nr 4 zrow)) ∧ SetAt X h (A 6) (A 7) firstF ∧ (∀ v, v < nv → VatAt h (A (8 + v)) zrow) ∧ (∀ l, l < nl → LotAt X h (A (14 + 3 * l)) (A (15 + 3 * l)) (A (16 + 3 * l)) zrow) ∧ ∀ o, o < no → OrdAt X h (A (74 + 2 * o)) (A (75 + 2 * o)) zrow
theorem refs_ext {A A2 : Nat → Nat} {g : Nat → Nat} {n : Nat} (h : ∀ k, k < n → A2 (g k) = A (g k)) : refs A2 g n = refs A g n := ref_ext h
theorem refs_up {A : Nat → Nat} {g : Nat → Nat} {i b : Nat} (e : A (g i) = b) : va_up (refs A g i) i (some b) = refs A g (i + 1) := up_ref e
theorem HB.kept {X : Cx} {h1 h2 : Hp} {A A2 : Nat → Nat} {a nv nl no K : Nat} (k : HB X h1 A a nv nl no) (hA : A 0 = a) (c1 : 8 + nv ≤ K) (c2 : 0 < nl → 14 + 3 * nl ≤ K) (c3 : 0 < no → 74 + 2 * no ≤ K) (ea : ∀ j, j < K → A2 j = A j) (eh : ∀ j, j < K → h2 (A j) = h1 (A j)) : HB X h2 A2 a nv nl no := by
  obtain ⟨k0, k1, k2, k3, k4, k5, k6, kv, kl, ko⟩ := k
  refine ⟨?_, ?_, ?_, ?_, ?_, ?_, ?_, fun v hv => ?_, fun l hl => ?_, fun o ho => ?_⟩
  · rw [ea 1 (by omega), ea 2 (by omega), ea 3 (by omega), ea 4 (by omega), ea 5 (by omega), ea 6 (by omega), ← k0, ← hA]
    exact eh 0 (by omega)
  · rw [ea 1 (by omega), eh 1 (by omega), refs_ext (A := A) (fun k hk => ea _ (by omega))]
    exact k1
  · rw [ea 2 (by omega), eh 2 (by omega), refs_ext (A := A) (fun k hk => ea _ (by have := c2 (by omega); omega))]
    exact k2
  · rw [ea 3 (by omega), eh 3 (by omega), refs_ext (A := A) (fun k hk => ea _ (by have := c3 (by omega); omega))]
    exact k3
  · rw [ea 4 (by omega), eh 4 (by omega)]
    exact k4
  · rw [ea 5 (by omega), eh 5 (by omega)]
    exact k5
  · rw [ea 6 (by omega), ea 7 (by omega)]
    exact ⟨(eh 6 (by omega)).trans k6.1, (eh 7 (by omega)).trans k6.2⟩
  · rw [ea _ (by omega)]
    exact (eh _ (by omega)).trans (kv v hv)
  · have c := c2 (by omega)
    rw [ea _ (by omega), ea _ (by omega), ea _ (by omega)]
    exact (kl l hl).kept (eh _ (by omega)) (eh _ (by omega)) (eh _ (by omega))
  · have c := c3 (by omega)
    rw [ea _ (by omega), ea _ (by omega)]
    exact (ko o ho).kept (eh _ (by omega)) (eh _ (by omega))

theorem HB.vat {X : Cx} {h2 : Hp} {A : Nat → Nat} {a i : Nat} (k : HB X h2 A a i 0 0) (hA : A 0 = a) (hi : i < 6) (inj : ∀ p q, p < 9 + i → q < 9 + i → A p = A q → p = q) (kx : VatAt h2 (A (8 + i)) zrow) : HB X (hu h2 (A 1) (oR X 2 6 (refs A (fun k => 8 + k) (i + 1)))) A a (i + 1) 0 0 := by
  have ne : ∀ j, j < 9 + i → j ≠ 1 → A j ≠ A 1 := fun j hj hn e => hn (inj _ _ hj (by omega) e)
  obtain ⟨k0, k1, k2, k3, k4, k5, k6, kv, kl, ko⟩ := k
  have k0' := hu_n1 (e := oR X 2 6 (refs A (fun k => 8 + k) (i + 1))) (ne 0 (by omega) (by omega)) ((congrArg h2 hA).trans k0)
  rw [hA] at k0'
  refine ⟨k0', hu_same, hu_n1 (ne 2 (by omega) (by omega)) k2, hu_n1 (ne 3 (by omega) (by omega)) k3, hu_n1 (ne 4 (by omega) (by omega)) k4, hu_n1 (ne 5 (by omega) (by omega)) k5, ⟨hu_n1 (ne 6 (by omega) (by omega)) k6.1, hu_n1 (ne 7 (by omega) (by omega)) k6.2⟩, fun v hv => ?_, fun l hl => ?_, fun o ho => ?_⟩
  · by_cases c : v = i
    · rw [c]
      exact hu_n1 (ne _ (by omega) (by omega)) kx
    · exact hu_n1 (ne _ (by omega) (by omega)) (kv v (by omega))
  · exact absurd hl (by omega)
  · exact absurd ho (by omega)
theorem HB.lot {X : Cx} {h2 : Hp} {A : Nat → Nat} {a i : Nat} (k : HB X h2 A a 6 i 0) (hA : A 0 = a) (hi : i < 20) (inj : ∀ p q, p < 17 + 3 * i → q < 17 + 3 * i → A p = A q → p = q) (kx : LotAt X h2 (A (14 + 3 * i)) (A (15 + 3 * i)) (A (16 + 3 * i)) zrow) : HB X (hu h2 (A 2) (oR X 3 20 (refs A (fun k => 14 + 3 * k) (i + 1)))) A a 6 (i + 1) 0 := by
  have ne : ∀ j, j < 17 + 3 * i → j ≠ 2 → A j ≠ A 2 := fun j hj hn e => hn (inj _ _ hj (by omega) e)
  obtain ⟨k0, k1, k2, k3, k4, k5, k6, kv, kl, ko⟩ := k
  have k0' := hu_n1 (e := oR X 3 20 (refs A (fun k => 14 + 3 * k) (i + 1))) (ne 0 (by omega) (by omega)) ((congrArg h2 hA).trans k0)
  rw [hA] at k0'
  refine ⟨k0', hu_n1 (ne 1 (by omega) (by omega)) k1, hu_same, hu_n1 (ne 3 (by omega) (by omega)) k3, hu_n1 (ne 4 (by omega) (by omega)) k4, hu_n1 (ne 5 (by omega) (by omega)) k5, ⟨hu_n1 (ne 6 (by omega) (by omega)) k6.1, hu_n1 (ne 7 (by omega) (by omega)) k6.2⟩, fun v hv => ?_, fun l hl => ?_, fun o ho => ?_⟩
  · exact hu_n1 (ne _ (by omega) (by omega)) (kv v hv)
  · by_cases c : l = i
    · rw [c]
      exact kx.kept (hu_ne (ne _ (by omega) (by omega))) (hu_ne (ne _ (by omega) (by omega))) (hu_ne (ne _ (by omega) (by omega)))
    · exact (kl l (by omega)).kept (hu_ne (ne _ (by omega) (by omega))) (hu_ne (ne _ (by omega) (by omega))) (hu_ne (ne _ (by omega) (by omega)))
  · exact absurd ho (by omega)
theorem HB.ord {X : Cx} {h2 : Hp} {A : Nat → Nat} {a i : Nat} (k : HB X h2 A a 6 20 i) (hA : A 0 = a) (hi : i < 60) (inj : ∀ p q, p < 76 + 2 * i → q < 76 + 2 * i → A p = A q → p = q) (kx : OrdAt X h2 (A (74 + 2 * i)) (A (75 + 2 * i)) zrow) : HB X (hu h2 (A 3) (oR X 4 60 (refs A (fun k => 74 + 2 * k) (i + 1)))) A a 6 20 (i + 1) := by
  have ne : ∀ j, j < 76 + 2 * i → j ≠ 3 → A j ≠ A 3 := fun j hj hn e => hn (inj _ _ hj (by omega) e)
  obtain ⟨k0, k1, k2, k3, k4, k5, k6, kv, kl, ko⟩ := k
  have k0' := hu_n1 (e := oR X 4 60 (refs A (fun k => 74 + 2 * k) (i + 1))) (ne 0 (by omega) (by omega)) ((congrArg h2 hA).trans k0)
  rw [hA] at k0'
  refine ⟨k0', hu_n1 (ne 1 (by omega) (by omega)) k1, hu_n1 (ne 2 (by omega) (by omega)) k2, hu_same, hu_n1 (ne 4 (by omega) (by omega)) k4, hu_n1 (ne 5 (by omega) (by omega)) k5, ⟨hu_n1 (ne 6 (by omega) (by omega)) k6.1, hu_n1 (ne 7 (by omega) (by omega)) k6.2⟩, fun v hv => ?_, fun l hl => ?_, fun o ho => ?_⟩
  · exact hu_n1 (ne _ (by omega) (by omega)) (kv v hv)
  · exact (kl l hl).kept (hu_ne (ne _ (by omega) (by omega))) (hu_ne (ne _ (by omega) (by omega))) (hu_ne (ne _ (by omega) (by omega)))
  · by_cases c : o = i
    · rw [c]
      exact kx.kept (hu_ne (ne _ (by omega) (by omega))) (hu_ne (ne _ (by omega) (by omega)))
    · exact (ko o (by omega)).kept (hu_ne (ne _ (by omega) (by omega))) (hu_ne (ne _ (by omega) (by omega)))