theorem hu_fresh {h : Hp} {a b : Nat} {e : va_E} (k : hu h a e b = none) : b ≠ a ∧ h b = none := by
  have n : b ≠ a := by
    intro z
    subst z
    rw [hu_same] at k
    cases k
  exact ⟨n, by rw [← k, hu_ne n]⟩
theorem no_ne {h : Hp} {a b : Nat} {e : va_E} (k : h b = none) (k2 : h a = some e) : b ≠ a := by
  intro z
  subst z
  rw [k] at k2
  cases k2
def zrow : Nat → Int32 := fun _ => 0
theorem nr_z {n : Nat} : nr n zrow = fun _ => 0 := by
  funext j
  unfold nr
  split <;> rfl

set_option maxHeartbeats 4000000 in
set_option maxRecDepth 100000 in
theorem ct_X2_init (X : Cx) {h : Hp} {a : Nat}  (ha : h a = some (ob 2 [.int 0, .int 0, .int 0, .int 0, .int 0, .int 0, .int 0, .null, .null])) : Ct X mX2_init 1 2 8 [.ref a] h (fun u h1 => u = none ∧ ∃ f g, h f = none ∧ h g = none ∧ f ≠ g ∧ LotAt X h1 a f g zrow ∧ ∀ q, q ≠ a → q ≠ f → q ≠ g → h1 q = h q) := by
  refine Ct.ofG vX2_init.1.2.2.1 (Nat.le_of_ble_eq_true rfl) ?_
  show G X RX2 cX2_init 1 none "<init>" (Rm 1 2 8) (Fm X (fun u h1 => u = none ∧ ∃ f g, h f = none ∧ h g = none ∧ f ≠ g ∧ LotAt X h1 a f g zrow ∧ ∀ q, q ≠ a → q ≠ f → q ≠ g → h1 q = h q) 2 8) 0 0 0 [(0, .ref a)] [] h
  refine g_aload_n dX2_init_0 (by rfl) (by first | exact isRf_r | exact isRf_n | exact isRf_o | assumption) ?_
  refine g_objInit dX2_init_1 lX2_3 kOI_i kOI_c (Nat.le_of_ble_eq_true rfl) (Nat.le_of_ble_eq_true rfl) ?_
  refine g_aload_n dX2_init_4 (by rfl) (by first | exact isRf_r | exact isRf_n | exact isRf_o | assumption) ?_
  refine g_iconst (v := (-1)) dX2_init_5 (by decide) ?_
  refine g_putf (ty := .int) dX2_init_6 fX2_11 (by decide +kernel) (by rfl) (by rfl) (by first | assumption | (repeat' (first | assumption | exact hu_same | exact Ne.symm (by assumption) | apply hu_n1))) (by exact Nat.le_of_ble_eq_true rfl) ?_
  refine g_aload_n dX2_init_9 (by rfl) (by first | exact isRf_r | exact isRf_n | exact isRf_o | assumption) ?_
  refine g_iconst (v := 4) dX2_init_10 (by decide) ?_
  refine g_newI (N := 4) dX2_init_11 (by decide) (by decide) (Nat.le_of_ble_eq_true rfl) (Nat.le_of_ble_eq_true rfl) ?_
  intro f hn_f
  obtain ⟨nfa, hf0⟩ := hu_fresh hn_f
  refine g_putF (ty := (.array .int)) dX2_init_13 fX2_15 (by decide +kernel) (by rfl) (by rfl) rfl (by intro q hq; cases hq; rfl) (by first | assumption | (repeat' (first | assumption | exact hu_same | exact Ne.symm (by assumption) | apply hu_n1))) (by exact Nat.le_of_ble_eq_true rfl) ?_
  refine g_aload_n dX2_init_16 (by rfl) (by first | exact isRf_r | exact isRf_n | exact isRf_o | assumption) ?_
  refine g_iconst (v := 4) dX2_init_17 (by decide) ?_
  refine g_newI (N := 4) dX2_init_18 (by decide) (by decide) (Nat.le_of_ble_eq_true rfl) (Nat.le_of_ble_eq_true rfl) ?_
  intro g hn_g
  obtain ⟨nga, hn1⟩ := hu_fresh hn_g
  obtain ⟨ngf, hn2⟩ := hu_fresh hn1
  obtain ⟨-, hg0⟩ := hu_fresh hn2
  refine g_putF (ty := (.array .int)) dX2_init_20 fX2_19 (by decide +kernel) (by rfl) (by rfl) rfl (by intro q hq; cases hq; rfl) (by first | assumption | (repeat' (first | assumption | exact hu_same | exact Ne.symm (by assumption) | apply hu_n1))) (by exact Nat.le_of_ble_eq_true rfl) ?_
  refine g_vret dX2_init_23 rfl (Nat.le_of_ble_eq_true rfl) (Nat.le_of_ble_eq_true rfl) ?_
  refine ⟨rfl, f, g, hf0, hg0, Ne.symm ngf, ⟨hu_same, ?_, ?_⟩, fun q q1 q2 q3 => ?_⟩
  · unfold fixA
    rw [show (fun j => zrow (2 + j)) = zrow from rfl, nr_z]
    exact hu_n1 nfa (hu_n1 (Ne.symm ngf) (hu_n1 nfa hu_same))
  · unfold looA
    rw [show (fun j => zrow (6 + j)) = zrow from rfl, nr_z]
    exact hu_n1 nga hu_same
  · rw [hu_ne q1, hu_ne q3, hu_ne q1, hu_ne q2, hu_ne q1]

set_option maxHeartbeats 4000000 in
set_option maxRecDepth 100000 in
theorem ct_X3_init (X : Cx) {h : Hp} {a : Nat}  (ha : h a = some (ob 3 [.null, .int 0])) : Ct X mX3_init 1 1 4 [.ref a] h (fun u h1 => u = none ∧ ∃ f, h f = none ∧ OrdAt X h1 a f zrow ∧ ∀ q, q ≠ a → q ≠ f → h1 q = h q) := by
  refine Ct.ofG vX3_init.1.2.2.1 (Nat.le_of_ble_eq_true rfl) ?_
  show G X RX3 cX3_init 1 none "<init>" (Rm 1 1 4) (Fm X (fun u h1 => u = none ∧ ∃ f, h f = none ∧ OrdAt X h1 a f zrow ∧ ∀ q, q ≠ a → q ≠ f → h1 q = h q) 1 4) 0 0 0 [(0, .ref a)] [] h
  refine g_aload_n dX3_init_0 (by rfl) (by first | exact isRf_r | exact isRf_n | exact isRf_o | assumption) ?_
  refine g_objInit dX3_init_1 lX3_3 kOI_i kOI_c (Nat.le_of_ble_eq_true rfl) (Nat.le_of_ble_eq_true rfl) ?_
  refine g_aload_n dX3_init_4 (by rfl) (by first | exact isRf_r | exact isRf_n | exact isRf_o | assumption) ?_
  refine g_iconst (v := 4) dX3_init_5 (by decide) ?_
  refine g_newI (N := 4) dX3_init_6 (by decide) (by decide) (Nat.le_of_ble_eq_true rfl) (Nat.le_of_ble_eq_true rfl) ?_
  intro f hn_f
  have nfa := no_ne hn_f ha
  refine g_putF (ty := (.array .int)) dX3_init_8 fX3_9 (by decide +kernel) (by rfl) (by rfl) rfl (by intro q hq; cases hq; rfl) (by first | assumption | (repeat' (first | assumption | exact hu_same | exact Ne.symm (by assumption) | apply hu_n1))) (by exact Nat.le_of_ble_eq_true rfl) ?_
  refine g_vret dX3_init_11 rfl (Nat.le_of_ble_eq_true rfl) (Nat.le_of_ble_eq_true rfl) ?_
  refine ⟨rfl, f, hn_f, ⟨hu_same, ?_⟩, fun q q1 q2 => ?_⟩
  · rw [nr_z]
    exact hu_n1 nfa hu_same
  · rw [hu_ne q1, hu_ne q2]

set_option maxHeartbeats 4000000 in
set_option maxRecDepth 100000 in
theorem ct_X8_init (X : Cx) {h : Hp} {a : Nat}  : Ct X mX8_init 1 0 0 [.ref a] h (fun u h1 => u = none ∧ h1 = h) := by
  refine Ct.ofG vX8_init.1.2.2.1 (Nat.le_of_ble_eq_true rfl) ?_
  show G X RX8 cX8_init 1 none "<init>" (Rm 1 0 0) (Fm X (fun u h1 => u = none ∧ h1 = h) 0 0) 0 0 0 [(0, .ref a)] [] h
  refine g_aload_n dX8_init_0 (by rfl) (by first | exact isRf_r | exact isRf_n | exact isRf_o | assumption) ?_
  refine g_objInit dX8_init_1 lX8_1 kOI_i kOI_c (Nat.le_of_ble_eq_true rfl) (Nat.le_of_ble_eq_true rfl) ?_
  refine g_vret dX8_init_4 rfl (Nat.le_refl _) (Nat.le_refl _) ?_
  exact ⟨rfl, rfl⟩

set_option maxHeartbeats 4000000 in
set_option maxRecDepth 100000 in
theorem ct_X5_init (X : Cx) {h : Hp} {a : Nat}  : Ct X mX5_init 1 0 0 [.ref a] h (fun u h1 => u = none ∧ h1 = h) := by
  refine Ct.ofG vX5_init.1.2.2.1 (Nat.le_of_ble_eq_true rfl) ?_
  show G X RX5 cX5_init 1 none "<init>" (Rm 1 0 0) (Fm X (fun u h1 => u = none ∧ h1 = h) 0 0) 0 0 0 [(0, .ref a)] [] h
  refine g_aload_n dX5_init_0 (by rfl) (by first | exact isRf_r | exact isRf_n | exact isRf_o | assumption) ?_
  refine g_objInit dX5_init_1 lX5_1 kOI_i kOI_c (Nat.le_of_ble_eq_true rfl) (Nat.le_of_ble_eq_true rfl) ?_
  refine g_vret dX5_init_4 rfl (Nat.le_refl _) (Nat.le_refl _) ?_
  exact ⟨rfl, rfl⟩

set_option maxHeartbeats 4000000 in
set_option maxRecDepth 100000 in
theorem ct_X7_init (X : Cx) {h : Hp} {a : Nat}  (ha : h a = some (ob 7 [.null, .int 0])) : Ct X mX7_init 1 1 60 [.ref a] h (fun u h1 => u = none ∧ ∃ f, h f = none ∧ TxtAt X h1 a f 0 zrow ∧ ∀ q, q ≠ a → q ≠ f → h1 q = h q) := by
  refine Ct.ofG vX7_init.1.2.2.1 (Nat.le_of_ble_eq_true rfl) ?_
  show G X RX7 cX7_init 1 none "<init>" (Rm 1 1 60) (Fm X (fun u h1 => u = none ∧ ∃ f, h f = none ∧ TxtAt X h1 a f 0 zrow ∧ ∀ q, q ≠ a → q ≠ f → h1 q = h q) 1 60) 0 0 0 [(0, .ref a)] [] h
  refine g_aload_n dX7_init_0 (by rfl) (by first | exact isRf_r | exact isRf_n | exact isRf_o | assumption) ?_
  refine g_objInit dX7_init_1 lX7_3 kOI_i kOI_c (Nat.le_of_ble_eq_true rfl) (Nat.le_of_ble_eq_true rfl) ?_
  refine g_aload_n dX7_init_4 (by rfl) (by first | exact isRf_r | exact isRf_n | exact isRf_o | assumption) ?_
  refine g_bipush (v := 60) dX7_init_5 (by decide) ?_
  refine g_newC (N := 60) dX7_init_7 (by decide) (by decide) (Nat.le_of_ble_eq_true rfl) (Nat.le_of_ble_eq_true rfl) ?_
  intro f hn_f
  have nfa := no_ne hn_f ha
  refine g_putF (ty := (.array .char)) dX7_init_9 fX7_11 (by decide +kernel) (by rfl) (by rfl) rfl (by intro q hq; cases hq; rfl) (by first | assumption | (repeat' (first | assumption | exact hu_same | exact Ne.symm (by assumption) | apply hu_n1))) (by exact Nat.le_of_ble_eq_true rfl) ?_
  refine g_vret dX7_init_12 rfl (Nat.le_of_ble_eq_true rfl) (Nat.le_of_ble_eq_true rfl) ?_
  refine ⟨rfl, f, hn_f, ⟨hu_same, ?_⟩, fun q q1 q2 => ?_⟩
  · rw [nr_z]
    exact hu_n1 nfa hu_same
  · rw [hu_ne q1, hu_ne q2]

theorem up_first {i : Nat} (hi : i < 7) : upd (fun j => if j < i then firstF j else 0) i (firstF i) = fun j => if j < i + 1 then firstF j else 0 := by
  funext j
  by_cases e : j = i
  · subst e
    rw [upd_s, if_pos (by omega)]
  · rw [upd_n e]
    show (if j < i then firstF j else 0) = _
    by_cases z : j < i
    · rw [if_pos z, if_pos (by omega)]
    · rw [if_neg z, if_neg (by omega)]
theorem nr_f {i : Nat} (h : 7 ≤ i) : (fun j => if j < i then firstF j else 0) = nr 7 firstF := by
  funext j
  unfold nr
  by_cases z : j < 7
  · rw [if_pos z, if_pos (by omega)]
  · rw [if_neg z]
    split
    · unfold firstF
      rcases j with _ | _ | _ | _ | _ | _ | _ | j <;> first | omega | rfl
    · rfl

set_option maxHeartbeats 4000000 in
set_option maxRecDepth 100000 in
theorem ct_X6_init (X : Cx) {h : Hp} {a : Nat}  (ha : h a = some (ob 6 [.null])) (hs : StatAt X h) : Ct X mX6_init 1 1 7 [.ref a] h (fun u h1 => u = none ∧ ∃ f, h f = none ∧ SetAt X h1 a f firstF ∧ ∀ q, q ≠ a → q ≠ f → h1 q = h q) := by
  obtain ⟨st0, st1, st2⟩ := hs
  have nsa := ne_bs st2 ha
  refine Ct.ofG vX6_init.1.2.2.1 (Nat.le_of_ble_eq_true rfl) ?_
  show G X RX6 cX6_init 2 none "<init>" (Rm 1 1 7) (Fm X (fun u h1 => u = none ∧ ∃ f, h f = none ∧ SetAt X h1 a f firstF ∧ ∀ q, q ≠ a → q ≠ f → h1 q = h q) 1 7) 0 0 0 [(0, .ref a)] [] h
  refine g_aload_n dX6_init_0 (by rfl) (by first | exact isRf_r | exact isRf_n | exact isRf_o | assumption) ?_
  refine g_objInit dX6_init_1 lX6_3 kOI_i kOI_c (Nat.le_of_ble_eq_true rfl) (Nat.le_of_ble_eq_true rfl) ?_
  refine g_aload_n dX6_init_4 (by rfl) (by first | exact isRf_r | exact isRf_n | exact isRf_o | assumption) ?_
  refine g_bipush (v := 7) dX6_init_5 (by decide) ?_
  refine g_newI (N := 7) dX6_init_7 (by decide) (by decide) (Nat.le_of_ble_eq_true rfl) (Nat.le_of_ble_eq_true rfl) ?_
  intro f hn_f
  have nfa := no_ne hn_f ha
  have nfs := Ne.symm (no_ne hn_f st2)
  refine g_putF (ty := (.array .int)) dX6_init_9 fX6_9 (by decide +kernel) (by rfl) (by rfl) rfl (by intro q hq; cases hq; rfl) (by first | assumption | (repeat' (first | assumption | exact hu_same | exact Ne.symm (by assumption) | apply hu_n1))) (by exact Nat.le_of_ble_eq_true rfl) ?_
  refine g_iconst (v := 0) dX6_init_12 (by decide) ?_
  refine g_istore_n (L1 := [(0, _), (1, _)]) dX6_init_13 (by decide) (by rfl) ?_
  have loop14 : ∀ i, i ≤ 7 → ∀ h1 : Hp, h1 a = some (ob 6 [.ref f]) → h1 f = some (oI X 7 (fun j => if j < i then firstF j else 0)) → (∀ q, q ≠ a → q ≠ f → h1 q = h q) → G X RX6 cX6_init 2 none "<init>" (Rm 1 1 7) (Fm X (fun u h1 => u = none ∧ ∃ f, h f = none ∧ SetAt X h1 a f firstF ∧ ∀ q, q ≠ a → q ≠ f → h1 q = h q) 1 7) 1 7 14 [(0, .ref a), (1, .int (nI i))] [] h1 := by
    refine up_ind 7 (fun i hi ih => ?_)
    intro h1 k1 k2 k3
    have k4 := (k3 _ nsa nfs).trans st2
    refine g_iload_n dX6_init_14 (by rfl) ?_
    refine g_aload_n dX6_init_15 (by rfl) (by first | exact isRf_r | exact isRf_n | exact isRf_o | assumption) ?_
    refine g_getf dX6_init_16 fX6_9 (by first | assumption | (repeat' (first | assumption | exact hu_same | exact Ne.symm (by assumption) | apply hu_n1))) (by rfl) ?_
    refine g_alenI dX6_init_19 (by first | assumption | (repeat' (first | assumption | exact hu_same | exact Ne.symm (by assumption) | apply hu_n1))) ?_
    refine g_icmp_ge (tgt := 48) dX6_init_20 (by decide) (fun c1 => ?_) (fun c1 => ?_)
    · skip
      have hie : i = 7 := Nat.le_antisymm hi (c_ge (a := 7) (by omega) (by omega) c1)
      subst hie
      refine g_vret dX6_init_48 rfl (Nat.le_of_ble_eq_true rfl) (Nat.le_of_ble_eq_true rfl) ?_
      refine ⟨rfl, f, hn_f, ⟨k1, ?_⟩, k3⟩
      rw [k2, nr_f (by omega)]
    · skip
      have hlt : i < 7 := c_nge (a := 7) (b := i) (by omega) (by omega) c1
      refine g_iload_n dX6_init_23 (by rfl) ?_
      refine g_gets (i := 2) dX6_init_24 fX6_15 (by decide) ?_
      refine g_alenS dX6_init_27 (by first | assumption | (repeat' (first | assumption | exact hu_same | exact Ne.symm (by assumption) | apply hu_n1))) ?_
      refine g_icmp_ge (tgt := 48) dX6_init_28 (by decide) (fun c2 => absurd (c_ge (a := 7) (b := i) (by omega) (by omega) c2) (by omega)) (fun c2 => ?_)
      refine g_aload_n dX6_init_31 (by rfl) (by first | exact isRf_r | exact isRf_n | exact isRf_o | assumption) ?_
      refine g_getf dX6_init_32 fX6_9 (by first | assumption | (repeat' (first | assumption | exact hu_same | exact Ne.symm (by assumption) | apply hu_n1))) (by rfl) ?_
      refine g_iload_n dX6_init_35 (by rfl) ?_
      refine g_gets (i := 2) dX6_init_36 fX6_15 (by decide) ?_
      refine g_iload_n dX6_init_39 (by rfl) ?_
      refine g_iaS dX6_init_40 (by first | assumption | (repeat' (first | assumption | exact hu_same | exact Ne.symm (by assumption) | apply hu_n1))) (by omega) (by omega) (by rfl) ?_
      refine g_isN dX6_init_41 (by first | assumption | (repeat' (first | assumption | exact hu_same | exact Ne.symm (by assumption) | apply hu_n1))) (by omega) (by omega) ?_
      refine g_iinc (v := nI (i + 1)) (L1 := [(0, _), (1, _)]) dX6_init_42 (by rfl) (nI_1 i) (by decide) (by rfl) ?_
      refine g_goto (tgt := 14) dX6_init_45 (by decide) ?_
      refine ih (by omega) _ (hu_n1 (Ne.symm nfa) k1) ?_ (fun q q1 q2 => (hu_ne q2).trans (k3 q q1 q2))
      rw [hu_same, up_first (by omega)]
  refine loop14 0 (by omega) _ hu_same (hu_n1 nfa hu_same) (fun q q1 q2 => ?_)
  rw [hu_ne q1, hu_ne q2]
