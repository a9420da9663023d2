/-- the addresses that a constructor took: the first is given, the rest were free, and only these were written -/
def Fr (h h1 : Hp) (A : Nat → Nat) (k : Nat) : Prop := (∀ i, 0 < i → i < k → h (A i) = none) ∧ (∀ i j, i < k → j < k → A i = A j → i = j) ∧ (∀ i, i < k → ∃ e, h1 (A i) = some e) ∧ ∀ q, (∀ i, i < k → q ≠ A i) → h1 q = h q
def ua (A : Nat → Nat) (k b : Nat) : Nat → Nat := fun i => if i = k then b else A i
theorem ua_s {A : Nat → Nat} {k b : Nat} : ua A k b k = b := if_pos rfl
theorem ua_n {A : Nat → Nat} {k b i : Nat} (h : i ≠ k) : ua A k b i = A i := if_neg h
theorem Fr.start {h : Hp} {a : Nat} {e : va_E} {A : Nat → Nat} (ha : h a = some e) (hA : A 0 = a) : Fr h h A 1 := by
  refine ⟨fun i h0 h1 => absurd h0 (by omega), fun i j hi hj _ => by omega, fun i hi => ?_, fun q _ => rfl⟩
  obtain rfl : i = 0 := by omega
  exact ⟨e, by rw [hA]; exact ha⟩
theorem Fr.ne {h h1 : Hp} {A : Nat → Nat} {k b : Nat} (f : Fr h h1 A k) (hb : h1 b = none) : ∀ i, i < k → b ≠ A i := fun i hi => by
  obtain ⟨e, he⟩ := f.2.2.1 i hi
  exact no_ne hb he
theorem Fr.new {h h1 : Hp} {A : Nat → Nat} {k b : Nat} {e : va_E} (f : Fr h h1 A k) (hb : h1 b = none) : Fr h (hu h1 b e) (ua A k b) (k + 1) := by
  have nb := f.ne hb
  obtain ⟨f1, f2, f3, f4⟩ := f
  have hb0 : h b = none := by rw [← f4 b nb]; exact hb
  refine ⟨fun i h0 h2 => ?_, fun i j hi hj ee => ?_, fun i hi => ?_, fun q hq => ?_⟩
  · by_cases z : i = k
    · rw [z, ua_s]
      exact hb0
    · rw [ua_n z]
      exact f1 i h0 (by omega)
  · by_cases z : i = k
    · by_cases y : j = k
      · omega
      · rw [z, ua_s, ua_n y] at ee
        exact absurd ee (nb j (by omega))
    · by_cases y : j = k
      · rw [y, ua_s, ua_n z] at ee
        exact absurd ee.symm (nb i (by omega))
      · rw [ua_n z, ua_n y] at ee
        exact f2 i j (by omega) (by omega) ee
  · by_cases z : i = k
    · rw [z, ua_s]
      exact ⟨e, hu_same⟩
    · rw [ua_n z]
      obtain ⟨e2, he⟩ := f3 i (by omega)
      exact ⟨e2, hu_n1 (Ne.symm (nb i (by omega))) he⟩
  · have q1 := hq k (by omega)
    rw [ua_s] at q1
    rw [hu_ne q1]
    exact f4 q (fun i hi => by
      have q2 := hq i (by omega)
      rw [ua_n (by omega)] at q2
      exact q2)
theorem Fr.put {h h1 : Hp} {A : Nat → Nat} {k j a : Nat} {e : va_E} (f : Fr h h1 A k) (hj : j < k) (ha : A j = a) : Fr h (hu h1 a e) A k := by
  subst ha
  obtain ⟨f1, f2, f3, f4⟩ := f
  refine ⟨f1, f2, fun i hi => ?_, fun q hq => (hu_ne (hq j hj)).trans (f4 q hq)⟩
  by_cases z : A i = A j
  · exact ⟨e, by rw [z]; exact hu_same⟩
  · obtain ⟨e2, he⟩ := f3 i hi
    exact ⟨e2, hu_n1 z he⟩
/-- a callee's new cell, and what it wrote -/
theorem Fr.more {h h1 h2 : Hp} {A : Nat → Nat} {k b : Nat} {e : va_E} (f : Fr h h1 A k) (hb : h1 b = none) (he : h2 b = some e) (hk : ∀ i, i < k → ∃ e, h2 (A i) = some e) (hf : ∀ q, (∀ i, i < k → q ≠ A i) → q ≠ b → h2 q = h1 q) : Fr h h2 (ua A k b) (k + 1) := by
  obtain ⟨g1, g2, g3, g4⟩ := f.new (e := e) hb
  refine ⟨g1, g2, fun i hi => ?_, fun q hq => ?_⟩
  · by_cases z : i = k
    · rw [z, ua_s]
      exact ⟨e, he⟩
    · rw [ua_n z]
      exact hk i (by omega)
  · have q1 := hq k (by omega)
    rw [ua_s] at q1
    have q2 : ∀ i, i < k → q ≠ A i := fun i hi => by
      have q2 := hq i (by omega)
      rw [ua_n (by omega)] at q2
      exact q2
    rw [hf q q2 q1]
    exact f.2.2.2 q q2
theorem Fr.heap {h h1 h2 : Hp} {A : Nat → Nat} {k : Nat} (f : Fr h h1 A k) (g1 : ∀ i, i < k → ∃ e, h2 (A i) = some e) (g2 : ∀ q, (∀ i, i < k → q ≠ A i) → h2 q = h1 q) : Fr h h2 A k := ⟨f.1, f.2.1, g1, fun q hq => (g2 q hq).trans (f.2.2.2 q hq)⟩
def ua3 (A : Nat → Nat) (k x y z : Nat) : Nat → Nat := ua (ua (ua A k x) (k + 1) y) (k + 2) z
theorem ua3_n {A : Nat → Nat} {k x y z j : Nat} (h : j < k) : ua3 A k x y z j = A j := by
  unfold ua3
  rw [ua_n (by omega), ua_n (by omega), ua_n (by omega)]
theorem ua3_0 {A : Nat → Nat} {k x y z j : Nat} (h : j = k) : ua3 A k x y z j = x := by
  unfold ua3
  rw [ua_n (by omega), ua_n (by omega), h, ua_s]
theorem ua3_1 {A : Nat → Nat} {k x y z j : Nat} (h : j = k + 1) : ua3 A k x y z j = y := by
  unfold ua3
  rw [ua_n (by omega), h, ua_s]
theorem ua3_2 {A : Nat → Nat} {k x y z j : Nat} (h : j = k + 2) : ua3 A k x y z j = z := by
  unfold ua3
  rw [h, ua_s]
theorem Fr.three {h h1 h2 : Hp} {A : Nat → Nat} {k x y z : Nat} {e ex ey ez : va_E} (f : Fr h h1 A k) (hx : h1 x = none) (hy : hu h1 x e y = none) (hz : hu h1 x e z = none) (nyz : y ≠ z) (tx : h2 x = some ex) (ty : h2 y = some ey) (tz : h2 z = some ez) (kk : ∀ q, q ≠ x → q ≠ y → q ≠ z → h2 q = h1 q) : Fr h h2 (ua3 A k x y z) (k + 3) := by
  have nx := f.ne hx
  have ny := f.ne (hu_fresh hy).2
  have nz := f.ne (hu_fresh hz).2
  refine (((f.new (e := e) hx).new (e := e) hy).new (e := e) (hu_n1 (Ne.symm nyz) hz)).heap (fun i hi => ?_) (fun q hq => ?_)
  · rcases (show i < k ∨ i = k ∨ i = k + 1 ∨ i = k + 2 by omega) with c | c | c | c
    · obtain ⟨e2, he⟩ := f.2.2.1 i c
      refine ⟨e2, ?_⟩
      show h2 (ua3 A k x y z i) = _
      rw [ua3_n c, kk _ (Ne.symm (nx i c)) (Ne.symm (ny i c)) (Ne.symm (nz i c)), he]
    · exact ⟨ex, by show h2 (ua3 A k x y z i) = _; rw [ua3_0 c, tx]⟩
    · exact ⟨ey, by show h2 (ua3 A k x y z i) = _; rw [ua3_1 c, ty]⟩
    · exact ⟨ez, by show h2 (ua3 A k x y z i) = _; rw [ua3_2 c, tz]⟩
  · have q0 : q ≠ x := by
      have c := hq k (by omega)
      rw [show ua (ua (ua A k x) (k + 1) y) (k + 1 + 1) z k = x from ua3_0 rfl] at c
      exact c
    have q1 : q ≠ y := by
      have c := hq (k + 1) (by omega)
      rw [show ua (ua (ua A k x) (k + 1) y) (k + 1 + 1) z (k + 1) = y from ua3_1 rfl] at c
      exact c
    have q2 : q ≠ z := by
      have c := hq (k + 2) (by omega)
      rw [show ua (ua (ua A k x) (k + 1) y) (k + 1 + 1) z (k + 2) = z from ua3_2 rfl] at c
      exact c
    rw [kk q q0 q1 q2, hu_ne q2, hu_ne q1, hu_ne q0]
theorem Fr.n {h h1 : Hp} {A : Nat → Nat} {k i j : Nat} (f : Fr h h1 A k) (hi : i < k) (hj : j < k) (hn : i ≠ j) : A i ≠ A j := fun e => hn (f.2.1 i j hi hj e)
theorem LotAt.kept2 {X : Cx} {h h1 : Hp} {a b c : Nat} {x : Nat → Int32} (k : LotAt X h a b c x) (f : ∀ q, q = a ∨ q = b ∨ q = c → h1 q = h q) : LotAt X h1 a b c x := k.kept (f _ (Or.inl rfl)) (f _ (Or.inr (Or.inl rfl))) (f _ (Or.inr (Or.inr rfl)))
theorem up_ref {A : Nat → Nat} {g : Nat → Nat} {i b : Nat} (e : A (g i) = b) : va_up (fun k => if k < i then some (A (g k)) else none) i (some b) = fun k => if k < i + 1 then some (A (g k)) else none := by
  funext j
  unfold va_up
  by_cases z : j = i
  · subst z
    rw [if_pos rfl, if_pos (by omega), e]
  · rw [if_neg z]
    show (if j < i then some (A (g j)) else none) = _
    by_cases y : j < i
    · rw [if_pos y, if_pos (by omega)]
    · rw [if_neg y, if_neg (by omega)]
theorem ref_ext {A A2 : Nat → Nat} {g : Nat → Nat} {i : Nat} (h : ∀ k, k < i → A2 (g k) = A (g k)) : (fun k => if k < i then some (A2 (g k)) else none) = fun k => if k < i then some (A (g k)) else none := by
  funext k
  by_cases z : k < i
  · rw [if_pos z, if_pos z, h k z]
  · rw [if_neg z, if_neg z]

set_option maxHeartbeats 4000000 in
set_option maxRecDepth 100000 in
theorem ct_X4_init (X : Cx) {h : Hp} {a : Nat}  (ha : h a = some (ob 4 [.null, .null])) : Ct X mX4_init 2 17 94 [.ref a] h (fun u h1 => u = none ∧ ∃ A : Nat → Nat, A 0 = a ∧ Fr h h1 A 18 ∧ h1 a = some (ob 4 [.ref (A 1), .ref (A 2)]) ∧ h1 (A 1) = some (oR X 3 5 (fun k => if k < 5 then some (A (3 + 3 * k)) else none)) ∧ h1 (A 2) = some (oI X 4 (nr 4 zrow)) ∧ ∀ k, k < 5 → LotAt X h1 (A (3 + 3 * k)) (A (4 + 3 * k)) (A (5 + 3 * k)) zrow) := by
  refine Ct.ofG vX4_init.1.2.2.1 (Nat.le_of_ble_eq_true rfl) ?_
  show G X RX4 cX4_init 2 none "<init>" (Rm 2 17 94) (Fm X (fun u h1 => u = none ∧ ∃ A : Nat → Nat, A 0 = a ∧ Fr h h1 A 18 ∧ h1 a = some (ob 4 [.ref (A 1), .ref (A 2)]) ∧ h1 (A 1) = some (oR X 3 5 (fun k => if k < 5 then some (A (3 + 3 * k)) else none)) ∧ h1 (A 2) = some (oI X 4 (nr 4 zrow)) ∧ ∀ k, k < 5 → LotAt X h1 (A (3 + 3 * k)) (A (4 + 3 * k)) (A (5 + 3 * k)) zrow) 17 94) 0 0 0 [(0, .ref a)] [] h
  refine g_aload_n dX4_init_0 (by rfl) (by first | exact isRf_r | exact isRf_n | exact isRf_o | assumption) ?_
  refine g_objInit dX4_init_1 lX4_1 kOI_i kOI_c (by first | exact Nat.le_of_ble_eq_true rfl | (dsimp only [Rm]; omega)) (by first | exact Nat.le_of_ble_eq_true rfl | (dsimp only [Rm]; omega)) ?_
  refine g_aload_n dX4_init_4 (by rfl) (by first | exact isRf_r | exact isRf_n | exact isRf_o | assumption) ?_
  refine g_iconst (v := 5) dX4_init_5 (by decide) ?_
  refine g_newR (N := 5) (t := 3) dX4_init_6 qX4_9 (fun U H k => k.2.2.2.2.2.1) rfl (by decide) (by decide) (by first | exact Nat.le_of_ble_eq_true rfl | (dsimp only [Rm]; omega)) (by first | exact Nat.le_of_ble_eq_true rfl | (dsimp only [Rm]; omega)) ?_
  intro p hn_p
  have npa := no_ne hn_p ha
  refine g_putF (ty := (.array (.object "DarkVats$Lot"))) dX4_init_9 fX4_11 (by decide +kernel) (by rfl) (by rfl) rfl (by intro q hq; cases hq; rfl) (by first | assumption | (repeat' (first | assumption | exact hu_same | exact Ne.symm (by assumption) | apply hu_n1))) (by exact Nat.le_of_ble_eq_true rfl) ?_
  refine g_aload_n dX4_init_12 (by rfl) (by first | exact isRf_r | exact isRf_n | exact isRf_o | assumption) ?_
  refine g_iconst (v := 4) dX4_init_13 (by decide) ?_
  refine g_newI (N := 4) dX4_init_14 (by decide) (by decide) (by first | exact Nat.le_of_ble_eq_true rfl | (dsimp only [Rm]; omega)) (by first | exact Nat.le_of_ble_eq_true rfl | (dsimp only [Rm]; omega)) ?_
  intro f hn_f
  obtain ⟨nfa, hn1⟩ := hu_fresh hn_f
  obtain ⟨nfp, hf0⟩ := hu_fresh hn1
  refine g_putF (ty := (.array .int)) dX4_init_16 fX4_15 (by decide +kernel) (by rfl) (by rfl) rfl (by intro q hq; cases hq; rfl) (by first | assumption | (repeat' (first | assumption | exact hu_same | exact Ne.symm (by assumption) | apply hu_n1))) (by exact Nat.le_of_ble_eq_true rfl) ?_
  refine g_iconst (v := 0) dX4_init_19 (by decide) ?_
  refine g_istore_n (L1 := [(0, _), (1, _)]) dX4_init_20 (by decide) (by rfl) ?_
  have loop21 : ∀ i, i ≤ 5 → ∀ (h1 : Hp) (A : Nat → Nat), A 0 = a → Fr h h1 A (3 + 3 * i) → h1 a = some (ob 4 [.ref (A 1), .ref (A 2)]) → h1 (A 1) = some (oR X 3 5 (fun k => if k < i then some (A (3 + 3 * k)) else none)) → h1 (A 2) = some (oI X 4 (nr 4 zrow)) → (∀ k, k < i → LotAt X h1 (A (3 + 3 * k)) (A (4 + 3 * k)) (A (5 + 3 * k)) zrow) → G X RX4 cX4_init 2 none "<init>" (Rm 2 17 94) (Fm X (fun u h1 => u = none ∧ ∃ A : Nat → Nat, A 0 = a ∧ Fr h h1 A 18 ∧ h1 a = some (ob 4 [.ref (A 1), .ref (A 2)]) ∧ h1 (A 1) = some (oR X 3 5 (fun k => if k < 5 then some (A (3 + 3 * k)) else none)) ∧ h1 (A 2) = some (oI X 4 (nr 4 zrow)) ∧ ∀ k, k < 5 → LotAt X h1 (A (3 + 3 * k)) (A (4 + 3 * k)) (A (5 + 3 * k)) zrow) 17 94) (2 + 3 * i) (9 + 17 * i) 21 [(0, .ref a), (1, .int (nI i))] [] h1 := by
    refine up_ind 5 (fun i hi ih => ?_)
    intro h1 A hA0 F k0 k1 k2 k3
    refine g_iload_n dX4_init_21 (by rfl) ?_
    refine g_aload_n dX4_init_22 (by rfl) (by first | exact isRf_r | exact isRf_n | exact isRf_o | assumption) ?_
    refine g_getf dX4_init_23 fX4_11 (by first | assumption | (repeat' (first | assumption | exact hu_same | exact Ne.symm (by assumption) | apply hu_n1))) (by rfl) ?_
    refine g_alenR dX4_init_26 (by first | assumption | (repeat' (first | assumption | exact hu_same | exact Ne.symm (by assumption) | apply hu_n1))) (by decide) ?_
    refine g_icmp_ge (tgt := 49) dX4_init_27 (by decide) (fun c1 => ?_) (fun c1 => ?_)
    · skip
      have hie : i = 5 := Nat.le_antisymm hi (c_ge (a := 5) (by omega) (by omega) c1)
      subst hie
      refine g_vret dX4_init_49 rfl (by first | exact Nat.le_of_ble_eq_true rfl | (dsimp only [Rm]; omega)) (by first | exact Nat.le_of_ble_eq_true rfl | (dsimp only [Rm]; omega)) ?_
      exact ⟨rfl, A, hA0, F, k0, k1, k2, k3⟩
    · skip
      have hlt : i < 5 := c_nge (a := 5) (b := i) (by omega) (by omega) c1
      refine g_aload_n dX4_init_30 (by rfl) (by first | exact isRf_r | exact isRf_n | exact isRf_o | assumption) ?_
      refine g_getf dX4_init_31 fX4_11 (by first | assumption | (repeat' (first | assumption | exact hu_same | exact Ne.symm (by assumption) | apply hu_n1))) (by rfl) ?_
      refine g_iload_n dX4_init_34 (by rfl) ?_
      refine g_new (ci := 2) (fs := [.int 0, .int 0, .int 0, .int 0, .int 0, .int 0, .int 0, .null, .null]) dX4_init_35 rfl qX4_9 kX2_w kX2_n tyX2_ok (by intro j hj; revert j; decide) (by first | exact Nat.le_of_ble_eq_true rfl | (dsimp only [Rm]; omega)) (by first | exact Nat.le_of_ble_eq_true rfl | (dsimp only [Rm]; omega)) ?_
      intro l hn_l
      have nl := F.ne hn_l
      have nl0 := nl 0 (by omega)
      rw [hA0] at nl0
      have nl1 := nl 1 (by omega)
      refine g_dup dX4_init_38 (by rfl) ?_
      refine g_cIN0 dX4_init_39 lX4_19 vX2_init (ct_X2_init X hu_same) ⟨by first | exact Nat.le_of_ble_eq_true rfl | (dsimp only [Rm]; omega), by first | exact Nat.le_of_ble_eq_true rfl | (dsimp only [Rm]; omega)⟩ (by first | exact Nat.le_of_ble_eq_true rfl | (dsimp only [Rm]; omega)) ⟨by first | exact Nat.le_of_ble_eq_true rfl | (dsimp only [Rm]; omega), by first | exact Nat.le_of_ble_eq_true rfl | (dsimp only [Rm]; omega)⟩ ?_
      rintro _ h2 ⟨rfl, y, z, hy, hz, nyz, kL, kF⟩
      obtain ⟨ny, hy1⟩ := hu_fresh hy
      obtain ⟨nz, hz1⟩ := hu_fresh hz
      have my := F.ne hy1
      have mz := F.ne hz1
      have my0 := my 0 (by omega)
      have mz0 := mz 0 (by omega)
      rw [hA0] at my0 mz0
      have kk : ∀ q, q ≠ l → q ≠ y → q ≠ z → h2 q = h1 q := fun q q1 q2 q3 => (kF q q1 q2 q3).trans (hu_ne q1)
      have kA : ∀ j, j < 3 + 3 * i → h2 (A j) = h1 (A j) := fun j hj => kk _ (Ne.symm (nl j hj)) (Ne.symm (my j hj)) (Ne.symm (mz j hj))
      have e0 := (kk a (Ne.symm nl0) (Ne.symm my0) (Ne.symm mz0)).trans k0
      have e1 := (kA 1 (by omega)).trans k1
      have e2 := (kA 2 (by omega)).trans k2
      have eL := kL.1
      unfold lotC at eL
      refine g_asN dX4_init_42 (by first | assumption | (repeat' (first | assumption | exact hu_same | exact Ne.symm (by assumption) | apply hu_n1))) rfl (by first | assumption | (repeat' (first | assumption | exact hu_same | exact Ne.symm (by assumption) | apply hu_n1))) rfl (by omega) (by omega) ?_
      refine g_iinc (v := nI (i + 1)) (L1 := [(0, _), (1, _)]) dX4_init_43 (by rfl) (nI_1 i) (by decide) (by rfl) ?_
      refine g_goto (tgt := 21) dX4_init_46 (by decide) ?_
      have F3 := F.three hn_l hy hz nyz kL.1 kL.2.1 kL.2.2 kk
      have b1 := F.n (i := 0) (j := 1) (by omega) (by omega) (by omega)
      rw [hA0] at b1
      have ne1 : ∀ j, j < 3 + 3 * i → j ≠ 1 → A j ≠ A 1 := fun j hj hn => F.n hj (by omega) hn
      refine ih (by omega) _ (ua3 A (3 + 3 * i) l y z) ((ua3_n (by omega)).trans hA0) (F3.put (j := 1) (by omega) (ua3_n (by omega))) ?_ ?_ ?_ (fun k hk => ?_)
      · rw [ua3_n (by omega), ua3_n (by omega)]
        exact hu_n1 b1 e0
      · rw [ua3_n (j := 1) (by omega), hu_same, ← ref_ext (A2 := ua3 A (3 + 3 * i) l y z) (g := fun k => 3 + 3 * k) (fun k hk => ua3_n (by omega)), up_ref (A := ua3 A (3 + 3 * i) l y z) (g := fun k => 3 + 3 * k) (ua3_0 rfl)]
      · rw [ua3_n (j := 2) (by omega)]
        exact hu_n1 (ne1 2 (by omega) (by omega)) e2
      · by_cases c : k < i
        · rw [ua3_n (by omega), ua3_n (by omega), ua3_n (by omega)]
          exact (k3 k c).kept2 (fun q hq => by
            rcases hq with rfl | rfl | rfl
            · exact (hu_ne (ne1 _ (by omega) (by omega))).trans (kA _ (by omega))
            · exact (hu_ne (ne1 _ (by omega) (by omega))).trans (kA _ (by omega))
            · exact (hu_ne (ne1 _ (by omega) (by omega))).trans (kA _ (by omega)))
        · obtain rfl : k = i := by omega
          rw [ua3_0 rfl, ua3_1 (by omega), ua3_2 (by omega)]
          exact kL.kept2 (fun q hq => by
            rcases hq with rfl | rfl | rfl
            · exact hu_ne nl1
            · exact hu_ne (my 1 (by omega))
            · exact hu_ne (mz 1 (by omega)))
  have F0 : Fr h h (fun _ => a) 1 := Fr.start ha rfl
  refine loop21 0 (by omega) _ (ua (ua (fun _ => a) 1 p) 2 f) rfl ((((F0.new hn_p).put (j := 0) (by omega) rfl).new hn_f).put (j := 0) (by omega) rfl) hu_same ?_ ?_ (fun k hk => absurd hk (by omega))
  · rw [show (fun k => if k < 0 then some (ua (ua (fun _ => a) 1 p) 2 f (3 + 3 * k)) else none) = fun _ => none from funext (fun k => if_neg (by omega))]
    exact hu_n1 npa (hu_n1 (Ne.symm nfp) (hu_n1 npa hu_same))
  · rw [nr_z]
    exact hu_n1 nfa hu_same
