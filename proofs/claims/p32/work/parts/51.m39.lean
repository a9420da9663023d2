theorem HouseAt.hu {X : Cx} {h : Hp} {C : Nat → Nat} {r : Nat → Int32} {a : Nat} {e : va_E} (k : HouseAt X h C r) (o : outA C a) : HouseAt X (hu h a e) C r := k.kept (fun i hi => hu_ne (Ne.symm (o i hi)))
theorem Kp.step {h g g2 : Hp} {a : Nat} {e : va_E} (k : Kp h g a) (f : ∀ q w, g q = some w → g2 q = some w) : Kp h (hu g2 a e) a := fun q w n hq => hu_n1 n (f q w (k q w n hq))
theorem Kp.hu {h g : Hp} {a : Nat} {e : va_E} (k : Kp h g a) : Kp h (hu g a e) a := fun q w n hq => hu_n1 n (k q w n hq)
theorem keep_hu {g : Hp} {l : Nat} {e : va_E} (hl : g l = none) : ∀ q w, g q = some w → hu g l e q = some w := fun q w hq => hu_n1 (fun z => by
  rw [z, hl] at hq
  cases hq) hq
def mm (a l3 b l4 f4 l5 : Nat) (P : Nat → Nat) : Nat → Nat := fun i => if i = 0 then a else if i = 1 then l3 else if i = 2 then b else if i = 3 then l4 else if i = 4 then f4 else if i = 5 then l5 else P (i - 6)
theorem mm_6 {a l3 b l4 f4 l5 i : Nat} {P : Nat → Nat} (h : 6 ≤ i) : mm a l3 b l4 f4 l5 P i = P (i - 6) := by
  unfold mm
  rw [if_neg (by omega), if_neg (by omega), if_neg (by omega), if_neg (by omega), if_neg (by omega), if_neg (by omega)]
theorem mm_all {Z : Nat → Prop} {a l3 b l4 f4 l5 : Nat} {P : Nat → Nat} (h0 : Z a) (h1 : Z l3) (h2 : Z b) (h3 : Z l4) (h4 : Z f4) (h5 : Z l5) (hP : ∀ i, i < 18 → Z (P i)) : ∀ i, i < 24 → Z (mm a l3 b l4 f4 l5 P i) := fun i hi => by
  rcases (show i = 0 ∨ i = 1 ∨ i = 2 ∨ i = 3 ∨ i = 4 ∨ i = 5 ∨ 6 ≤ i by omega) with rfl | rfl | rfl | rfl | rfl | rfl | c
  · exact h0
  · exact h1
  · exact h2
  · exact h3
  · exact h4
  · exact h5
  · rw [mm_6 c]
    exact hP _ (by omega)
theorem mm_inj {a l3 b l4 f4 l5 : Nat} {P : Nat → Nat} (n10 : l3 ≠ a) (n20 : b ≠ a) (n21 : b ≠ l3) (n30 : l4 ≠ a) (n31 : l4 ≠ l3) (n32 : l4 ≠ b) (n40 : f4 ≠ a) (n41 : f4 ≠ l3) (n42 : f4 ≠ b) (n43 : f4 ≠ l4) (n50 : l5 ≠ a) (n51 : l5 ≠ l3) (n52 : l5 ≠ b) (n53 : l5 ≠ l4) (n54 : l5 ≠ f4) (nP : ∀ i, i < 18 → P i ≠ a ∧ P i ≠ l3 ∧ P i ≠ b ∧ P i ≠ l4 ∧ P i ≠ f4 ∧ P i ≠ l5) (iP : ∀ i j, i < 18 → j < 18 → P i = P j → i = j) : ∀ i j, i < 24 → j < 24 → mm a l3 b l4 f4 l5 P i = mm a l3 b l4 f4 l5 P j → i = j := by
  have key : ∀ i j, i < j → j < 24 → mm a l3 b l4 f4 l5 P j ≠ mm a l3 b l4 f4 l5 P i := fun i j hij hj => by
    rcases (show j = 1 ∨ j = 2 ∨ j = 3 ∨ j = 4 ∨ j = 5 ∨ 6 ≤ j by omega) with rfl | rfl | rfl | rfl | rfl | c
    · obtain rfl : i = 0 := by omega
      exact n10
    · rcases (show i = 0 ∨ i = 1 by omega) with rfl | rfl
      · exact n20
      · exact n21
    · rcases (show i = 0 ∨ i = 1 ∨ i = 2 by omega) with rfl | rfl | rfl
      · exact n30
      · exact n31
      · exact n32
    · rcases (show i = 0 ∨ i = 1 ∨ i = 2 ∨ i = 3 by omega) with rfl | rfl | rfl | rfl
      · exact n40
      · exact n41
      · exact n42
      · exact n43
    · rcases (show i = 0 ∨ i = 1 ∨ i = 2 ∨ i = 3 ∨ i = 4 by omega) with rfl | rfl | rfl | rfl | rfl
      · exact n50
      · exact n51
      · exact n52
      · exact n53
      · exact n54
    · rw [mm_6 c]
      obtain ⟨q0, q1, q2, q3, q4, q5⟩ := nP (j - 6) (by omega)
      rcases (show i = 0 ∨ i = 1 ∨ i = 2 ∨ i = 3 ∨ i = 4 ∨ i = 5 ∨ 6 ≤ i by omega) with rfl | rfl | rfl | rfl | rfl | rfl | d
      · exact q0
      · exact q1
      · exact q2
      · exact q3
      · exact q4
      · exact q5
      · rw [mm_6 d]
        exact fun e => absurd (iP _ _ (by omega) (by omega) e) (by omega)
  intro i j hi hj e
  rcases Nat.lt_trichotomy i j with c | c | c
  · exact absurd e.symm (key i j c hj)
  · exact c
  · exact absurd e (key j i c hi)

set_option maxHeartbeats 16000000 in
set_option maxRecDepth 100000 in
theorem ct_X9_init (X : Cx) {h : Hp} {a : Nat}  (ha : h a = some (ob 9 [.null, .null, .null, .null, .null, .null])) (hs : StatAt X h) : Ct X mX9_init 4 1381 6025 [.ref a] h (fun u h1 => u = none ∧ ∃ (A B m : Nat → Nat) (C : Nat → Nat → Nat), m 0 = a ∧ SepS A B m C ∧ SysAt X h1 A B m C row0 0 (fun _ _ => 0) 0 zrow ∧ Kp h h1 a ∧ ∀ q w, q ≠ a → h q = some w → outS A B m C q) := by
  refine Ct.ofG vX9_init.1.2.2.1 (Nat.le_of_ble_eq_true rfl) ?_
  show G X RX9 cX9_init 1 none "<init>" (Rm 4 1381 6025) (Fm X (fun u h1 => u = none ∧ ∃ (A B m : Nat → Nat) (C : Nat → Nat → Nat), m 0 = a ∧ SepS A B m C ∧ SysAt X h1 A B m C row0 0 (fun _ _ => 0) 0 zrow ∧ Kp h h1 a ∧ ∀ q w, q ≠ a → h q = some w → outS A B m C q) 1381 6025) 0 0 0 [(0, .ref a)] [] h
  refine g_aload_n dX9_init_0 (by rfl) (by first | exact isRf_r | exact isRf_n | exact isRf_o | assumption) ?_
  refine g_objInit dX9_init_1 lX9_1 kOI_i kOI_c (by first | exact Nat.le_of_ble_eq_true rfl | (dsimp only [Rm]; omega)) (by first | exact Nat.le_of_ble_eq_true rfl | (dsimp only [Rm]; omega)) ?_
  refine g_aload_n dX9_init_4 (by rfl) (by first | exact isRf_r | exact isRf_n | exact isRf_o | assumption) ?_
  refine g_new (ci := 1) (fs := [.null, .null, .null, .int 0, .int 0, .int 0, .int 0, .null, .null, .null]) dX9_init_5 rfl qX9_7 kX1_w kX1_n tyX1_ok (by intro j hj; revert j; decide) (by first | exact Nat.le_of_ble_eq_true rfl | (dsimp only [Rm]; omega)) (by first | exact Nat.le_of_ble_eq_true rfl | (dsimp only [Rm]; omega)) ?_
  intro l1 hn_l1
  have n_l1a := no_ne hn_l1 ha
  refine g_dup dX9_init_8 (by rfl) ?_
  refine g_cI0 dX9_init_9 lX9_9 vX1_init (ct_X1_init X hu_same (hs.hu0 hn_l1)) ⟨by first | exact Nat.le_of_ble_eq_true rfl | (dsimp only [Rm]; omega), by first | exact Nat.le_of_ble_eq_true rfl | (dsimp only [Rm]; omega)⟩ (by first | exact Nat.le_of_ble_eq_true rfl | (dsimp only [Rm]; omega)) ⟨by first | exact Nat.le_of_ble_eq_true rfl | (dsimp only [Rm]; omega), by first | exact Nat.le_of_ble_eq_true rfl | (dsimp only [Rm]; omega)⟩ ?_
  rintro _ h1 ⟨rfl, A, A0, F1, B1⟩
  have f1 := F1.keep A0 hn_l1
  have n1 := F1.nn A0 hn_l1
  have HA := B1.house A0
  have ea1 := f1 _ _ ha
  have oA : outA A a := fun i hi z => no_ne (n1 i hi) ha z.symm
  have K1 : Kp h h1 a := fun q w _ hq => f1 q w hq
  have s1 := hs.keep f1
  refine g_putF (ty := (.object "DarkVats$House")) dX9_init_12 fX9_10 (by decide +kernel) (by rfl) (by rfl) rfl (by intro q hq; cases hq; rfl) (by first | assumption | (repeat' (first | assumption | exact hu_same | exact Ne.symm (by assumption) | apply hu_n1))) (by exact Nat.le_of_ble_eq_true rfl) ?_
  refine g_aload_n dX9_init_15 (by rfl) (by first | exact isRf_r | exact isRf_n | exact isRf_o | assumption) ?_
  refine g_new (ci := 1) (fs := [.null, .null, .null, .int 0, .int 0, .int 0, .int 0, .null, .null, .null]) dX9_init_16 rfl qX9_7 kX1_w kX1_n tyX1_ok (by intro j hj; revert j; decide) (by first | exact Nat.le_of_ble_eq_true rfl | (dsimp only [Rm]; omega)) (by first | exact Nat.le_of_ble_eq_true rfl | (dsimp only [Rm]; omega)) ?_
  intro l2 hn_l2
  have n_l2a := no_ne hn_l2 hu_same
  refine g_dup dX9_init_19 (by rfl) ?_
  refine g_cI0 dX9_init_20 lX9_9 vX1_init (ct_X1_init X hu_same ((s1.hu1 ea1 ob_s).hu0 hn_l2)) ⟨by first | exact Nat.le_of_ble_eq_true rfl | (dsimp only [Rm]; omega), by first | exact Nat.le_of_ble_eq_true rfl | (dsimp only [Rm]; omega)⟩ (by first | exact Nat.le_of_ble_eq_true rfl | (dsimp only [Rm]; omega)) ⟨by first | exact Nat.le_of_ble_eq_true rfl | (dsimp only [Rm]; omega), by first | exact Nat.le_of_ble_eq_true rfl | (dsimp only [Rm]; omega)⟩ ?_
  rintro _ h2 ⟨rfl, B, B0, F2, B2⟩
  have f2 := F2.keep B0 hn_l2
  have n2 := F2.nn B0 hn_l2
  have HA2 := (HA.hu oA).keep f2
  have HB2 := B2.house B0
  have ea2 := f2 _ _ hu_same
  have oB : outA B a := fun i hi z => no_ne (n2 i hi) hu_same z.symm
  have dAB : Dj A B := fun i j hi hj z => (HA.hu oA).nn (n2 j hj) i hi z.symm
  have K2 : Kp h h2 a := fun q w n hq => f2 q w (hu_n1 n (K1 q w n hq))
  have s2 := (s1.hu1 ea1 ob_s).keep f2
  refine g_putF (ty := (.object "DarkVats$House")) dX9_init_23 fX9_16 (by decide +kernel) (by rfl) (by rfl) rfl (by intro q hq; cases hq; rfl) (by first | assumption | (repeat' (first | assumption | exact hu_same | exact Ne.symm (by assumption) | apply hu_n1))) (by exact Nat.le_of_ble_eq_true rfl) ?_
  refine g_aload_n dX9_init_26 (by rfl) (by first | exact isRf_r | exact isRf_n | exact isRf_o | assumption) ?_
  refine g_new (ci := 0) (fs := [.null, .int 0]) dX9_init_27 rfl qX9_19 kX0_w kX0_n tyX0_ok (by intro j hj; revert j; decide) (by first | exact Nat.le_of_ble_eq_true rfl | (dsimp only [Rm]; omega)) (by first | exact Nat.le_of_ble_eq_true rfl | (dsimp only [Rm]; omega)) ?_
  intro l3 hn_l3
  have n_l3a := no_ne hn_l3 hu_same
  refine g_dup dX9_init_30 (by rfl) ?_
  refine g_cI0 dX9_init_31 lX9_21 vX0_init (ct_X0_init X hu_same ((s2.hu1 ea2 ob_s).hu0 hn_l3)) ⟨by first | exact Nat.le_of_ble_eq_true rfl | (dsimp only [Rm]; omega), by first | exact Nat.le_of_ble_eq_true rfl | (dsimp only [Rm]; omega)⟩ (by first | exact Nat.le_of_ble_eq_true rfl | (dsimp only [Rm]; omega)) ⟨by first | exact Nat.le_of_ble_eq_true rfl | (dsimp only [Rm]; omega), by first | exact Nat.le_of_ble_eq_true rfl | (dsimp only [Rm]; omega)⟩ ?_
  rintro _ h3 ⟨rfl, b, C, hb, nbl, kC, c0, c1, kp3, s3⟩
  have f3 := fun q w hq => kp3 q w (fun z => by rw [z, hn_l3] at hq; cases hq) (keep_hu hn_l3 q w hq)
  obtain ⟨-, hb2⟩ := hu_fresh hb
  have nC := fun k i hk hi => hu_fresh (kC.2.2.1 k i hk hi).1
  have ea3 := f3 _ _ hu_same
  have HA3 := (HA2.hu oA).keep f3
  have HB3 := (HB2.hu oB).keep f3
  have HC3 := kC.1
  have n3a := no_ne hn_l3 hu_same
  have nba := no_ne hb2 hu_same
  have oC : ∀ k, k < 5 → outA (C k) a := fun k hk i hi z => no_ne (nC k i hk hi).2 hu_same z.symm
  have dAC : ∀ k, k < 5 → Dj A (C k) := fun k hk i j hi hj z => (HA2.hu oA).nn (nC k j hk hj).2 i hi z.symm
  have dBC : ∀ k, k < 5 → Dj B (C k) := fun k hk i j hi hj z => (HB2.hu oB).nn (nC k j hk hj).2 i hi z.symm
  have o3A := (HA2.hu oA).nn hn_l3
  have o3B := (HB2.hu oB).nn hn_l3
  have obA := (HA2.hu oA).nn hb2
  have obB := (HB2.hu oB).nn hb2
  have o3C : ∀ k, k < 5 → outA (C k) l3 := fun k hk i hi z => (nC k i hk hi).1 z.symm
  have obC : ∀ k, k < 5 → outA (C k) b := fun k hk i hi z => (kC.2.2.1 k i hk hi).2 z.symm
  have K3 : Kp h h3 a := fun q w n hq => f3 q w (hu_n1 n (K2 q w n hq))
  refine g_putF (ty := (.object "DarkVats$History")) dX9_init_34 fX9_22 (by decide +kernel) (by rfl) (by rfl) rfl (by intro q hq; cases hq; rfl) (by first | assumption | (repeat' (first | assumption | exact hu_same | exact Ne.symm (by assumption) | apply hu_n1))) (by exact Nat.le_of_ble_eq_true rfl) ?_
  refine g_aload_n dX9_init_37 (by rfl) (by first | exact isRf_r | exact isRf_n | exact isRf_o | assumption) ?_
  refine g_new (ci := 7) (fs := [.null, .int 0]) dX9_init_38 rfl qX9_26 kX7_w kX7_n tyX7_ok (by intro j hj; revert j; decide) (by first | exact Nat.le_of_ble_eq_true rfl | (dsimp only [Rm]; omega)) (by first | exact Nat.le_of_ble_eq_true rfl | (dsimp only [Rm]; omega)) ?_
  intro l4 hn_l4
  have n_l4a := no_ne hn_l4 hu_same
  refine g_dup dX9_init_41 (by rfl) ?_
  refine g_cIN0 dX9_init_42 lX9_28 vX7_init (ct_X7_init X hu_same) ⟨by first | exact Nat.le_of_ble_eq_true rfl | (dsimp only [Rm]; omega), by first | exact Nat.le_of_ble_eq_true rfl | (dsimp only [Rm]; omega)⟩ (by first | exact Nat.le_of_ble_eq_true rfl | (dsimp only [Rm]; omega)) ⟨by first | exact Nat.le_of_ble_eq_true rfl | (dsimp only [Rm]; omega), by first | exact Nat.le_of_ble_eq_true rfl | (dsimp only [Rm]; omega)⟩ ?_
  rintro _ h4 ⟨rfl, x4, hx4, kT, fr4⟩
  obtain ⟨n4l, hx42⟩ := hu_fresh hx4
  have f4 : ∀ q w, _ = some w → h4 q = some w := fun q w hq => (fr4 q (fun z => by rw [z, hn_l4] at hq; cases hq) (fun z => by rw [z, hx42] at hq; cases hq)).trans (keep_hu hn_l4 q w hq)
  have ea4 := f4 _ _ hu_same
  have HA4 := (HA3.hu oA).keep f4
  have HB4 := (HB3.hu oB).keep f4
  have HC4 := fun k hk => ((HC3 k hk).hu (oC k hk)).keep f4
  have c04 := f4 _ _ (hu_n1 n3a c0)
  have c14 := f4 _ _ (hu_n1 nba c1)
  have n4a := no_ne hn_l4 hu_same
  have nxa := no_ne hx42 hu_same
  have n43 := no_ne hn_l4 (hu_n1 n3a c0)
  have n4b := no_ne hn_l4 (hu_n1 nba c1)
  have nx3 := no_ne hx42 (hu_n1 n3a c0)
  have nxb := no_ne hx42 (hu_n1 nba c1)
  have o4A := (HA3.hu oA).nn hn_l4
  have o4B := (HB3.hu oB).nn hn_l4
  have o4C := fun k hk => ((HC3 k hk).hu (oC k hk)).nn hn_l4
  have oxA := (HA3.hu oA).nn hx42
  have oxB := (HB3.hu oB).nn hx42
  have oxC := fun k hk => ((HC3 k hk).hu (oC k hk)).nn hx42
  have K4 : Kp h h4 a := fun q w n hq => f4 q w (hu_n1 n (K3 q w n hq))
  have s4 := (s3.hu1 ea3 ob_s).keep f4
  refine g_putF (ty := (.object "DarkVats$Text")) dX9_init_45 fX9_29 (by decide +kernel) (by rfl) (by rfl) rfl (by intro q hq; cases hq; rfl) (by first | assumption | (repeat' (first | assumption | exact hu_same | exact Ne.symm (by assumption) | apply hu_n1))) (by exact Nat.le_of_ble_eq_true rfl) ?_
  refine g_aload_n dX9_init_48 (by rfl) (by first | exact isRf_r | exact isRf_n | exact isRf_o | assumption) ?_
  refine g_new (ci := 5) (fs := (scrL 0 0 0 0 0 0 0 0)) dX9_init_49 rfl qX9_33 kX5_w kX5_n tyX5_ok (by intro j hj; revert j; decide) (by first | exact Nat.le_of_ble_eq_true rfl | (dsimp only [Rm]; omega)) (by first | exact Nat.le_of_ble_eq_true rfl | (dsimp only [Rm]; omega)) ?_
  intro l5 hn_l5
  have n_l5a := no_ne hn_l5 hu_same
  refine g_dup dX9_init_52 (by rfl) ?_
  refine g_cIN0 dX9_init_53 lX9_35 vX5_init (ct_X5_init X) ⟨by first | exact Nat.le_of_ble_eq_true rfl | (dsimp only [Rm]; omega), by first | exact Nat.le_of_ble_eq_true rfl | (dsimp only [Rm]; omega)⟩ (by first | exact Nat.le_of_ble_eq_true rfl | (dsimp only [Rm]; omega)) ⟨by first | exact Nat.le_of_ble_eq_true rfl | (dsimp only [Rm]; omega), by first | exact Nat.le_of_ble_eq_true rfl | (dsimp only [Rm]; omega)⟩ ?_
  rintro _ h5 ⟨rfl, e5⟩
  have f5 : ∀ q w, _ = some w → h5 q = some w := fun q w hq => by rw [e5]; exact keep_hu hn_l5 q w hq
  have ea5 := f5 _ _ hu_same
  have eS : h5 l5 = some (ob 5 (scrL 0 0 0 0 0 0 0 0)) := by rw [e5]; exact hu_same
  have HA5 := (HA4.hu oA).keep f5
  have HB5 := (HB4.hu oB).keep f5
  have HC5 := fun k hk => ((HC4 k hk).hu (oC k hk)).keep f5
  have c05 := f5 _ _ (hu_n1 n3a c04)
  have c15 := f5 _ _ (hu_n1 nba c14)
  have T05 := f5 _ _ (hu_n1 n4a kT.1)
  have T15 := f5 _ _ (hu_n1 nxa kT.2)
  have n5a := no_ne hn_l5 hu_same
  have n53 := no_ne hn_l5 (hu_n1 n3a c04)
  have n5b := no_ne hn_l5 (hu_n1 nba c14)
  have n54 := no_ne hn_l5 (hu_n1 n4a kT.1)
  have n5x := no_ne hn_l5 (hu_n1 nxa kT.2)
  have o5A := (HA4.hu oA).nn hn_l5
  have o5B := (HB4.hu oB).nn hn_l5
  have o5C := fun k hk => ((HC4 k hk).hu (oC k hk)).nn hn_l5
  have K5 : Kp h h5 a := fun q w n hq => f5 q w (hu_n1 n (K4 q w n hq))
  have s5 := (s4.hu1 ea4 ob_s).keep f5
  refine g_putF (ty := (.object "DarkVats$Script")) dX9_init_56 fX9_36 (by decide +kernel) (by rfl) (by rfl) rfl (by intro q hq; cases hq; rfl) (by first | assumption | (repeat' (first | assumption | exact hu_same | exact Ne.symm (by assumption) | apply hu_n1))) (by exact Nat.le_of_ble_eq_true rfl) ?_
  refine g_aload_n dX9_init_59 (by rfl) (by first | exact isRf_r | exact isRf_n | exact isRf_o | assumption) ?_
  refine g_new (ci := 4) (fs := [.null, .null]) dX9_init_60 rfl qX9_40 kX4_w kX4_n tyX4_ok (by intro j hj; revert j; decide) (by first | exact Nat.le_of_ble_eq_true rfl | (dsimp only [Rm]; omega)) (by first | exact Nat.le_of_ble_eq_true rfl | (dsimp only [Rm]; omega)) ?_
  intro l6 hn_l6
  have n_l6a := no_ne hn_l6 hu_same
  refine g_dup dX9_init_63 (by rfl) ?_
  refine g_cI0 dX9_init_64 lX9_42 vX4_init (ct_X4_init X hu_same) ⟨by first | exact Nat.le_of_ble_eq_true rfl | (dsimp only [Rm]; omega), by first | exact Nat.le_of_ble_eq_true rfl | (dsimp only [Rm]; omega)⟩ (by first | exact Nat.le_of_ble_eq_true rfl | (dsimp only [Rm]; omega)) ⟨by first | exact Nat.le_of_ble_eq_true rfl | (dsimp only [Rm]; omega), by first | exact Nat.le_of_ble_eq_true rfl | (dsimp only [Rm]; omega)⟩ ?_
  rintro _ h6 ⟨rfl, P, P0, F6, d0, d1, d2, dL⟩
  have f6 := F6.keep P0 hn_l6
  have n6 := F6.nn P0 hn_l6
  have ea6 := f6 _ _ hu_same
  have HA6 := (HA5.hu oA).keep f6
  have HB6 := (HB5.hu oB).keep f6
  have HC6 := fun k hk => ((HC5 k hk).hu (oC k hk)).keep f6
  have c06 := f6 _ _ (hu_n1 n3a c05)
  have c16 := f6 _ _ (hu_n1 nba c15)
  have T06 := f6 _ _ (hu_n1 n4a T05)
  have T16 := f6 _ _ (hu_n1 nxa T15)
  have S6 := f6 _ _ (hu_n1 n5a eS)
  have n6a := fun i hi => no_ne (n6 i hi) hu_same
  have o6A := fun i hi => (HA5.hu oA).nn (n6 i hi)
  have o6B := fun i hi => (HB5.hu oB).nn (n6 i hi)
  have o6C := fun i hi k hk => ((HC5 k hk).hu (oC k hk)).nn (n6 i hi)
  have K6 : Kp h h6 a := fun q w n hq => f6 q w (hu_n1 n (K5 q w n hq))
  have s6 := (s5.hu1 ea5 ob_s).keep f6
  refine g_putF (ty := (.object "DarkVats$Planner")) dX9_init_67 fX9_43 (by decide +kernel) (by rfl) (by rfl) rfl (by intro q hq; cases hq; rfl) (by first | assumption | (repeat' (first | assumption | exact hu_same | exact Ne.symm (by assumption) | apply hu_n1))) (by exact Nat.le_of_ble_eq_true rfl) ?_
  refine g_vret dX9_init_70 rfl (by first | exact Nat.le_of_ble_eq_true rfl | (dsimp only [Rm]; omega)) (by first | exact Nat.le_of_ble_eq_true rfl | (dsimp only [Rm]; omega)) ?_
  have hP : ∀ i, i < 18 → P i ≠ a ∧ P i ≠ l3 ∧ P i ≠ b ∧ P i ≠ l4 ∧ P i ≠ x4 ∧ P i ≠ l5 := fun i hi => ⟨n6a i hi, no_ne (n6 i hi) (hu_n1 n3a c05), no_ne (n6 i hi) (hu_n1 nba c15), no_ne (n6 i hi) (hu_n1 n4a T05), no_ne (n6 i hi) (hu_n1 nxa T15), no_ne (n6 i hi) (hu_n1 n5a eS)⟩
  have dd : ∀ k i, k < 5 → i < 3 → DD (mm a l3 b l4 x4 l5 P) k i = P (3 + 3 * k + i) := fun k i hk hi => by
    show mm a l3 b l4 x4 l5 P (9 + 3 * k + i) = _
    rw [mm_6 (by omega), show 9 + 3 * k + i - 6 = 3 + 3 * k + i by omega]
  have sep : SepS A B (mm a l3 b l4 x4 l5 P) C := ⟨F1.2.1, F2.2.1, kC.2.1, dAB, dAC, dBC, kC.2.2.2, mm_all (Z := fun q => outA A q ∧ outA B q ∧ ∀ k, k < 5 → outA (C k) q) ⟨oA, oB, oC⟩ ⟨o3A, o3B, o3C⟩ ⟨obA, obB, obC⟩ ⟨o4A, o4B, o4C⟩ ⟨oxA, oxB, oxC⟩ ⟨o5A, o5B, o5C⟩ (fun i hi => ⟨o6A i hi, o6B i hi, o6C i hi⟩), mm_inj n3a nba nbl n4a n43 n4b nxa nx3 nxb n4l n5a n53 n5b n54 n5x hP F6.2.1⟩
  refine ⟨rfl, A, B, mm a l3 b l4 x4 l5 P, C, rfl, sep, ⟨?_, HA6.hu oA, ⟨row0, HB6.hu oB⟩, hu_n1 n3a c06, hu_n1 nba c16, fun k hk => ⟨row0, (HC6 k hk).hu (oC k hk), fun z => absurd z (by omega)⟩, ⟨hu_n1 n4a T06, hu_n1 nxa T16⟩, ⟨0, 0, 0, 0, 0, 0, 0, 0, hu_n1 n5a S6⟩, ?_, ?_, ⟨zrow, hu_n1 (n6a 2 (by omega)) d2⟩, ⟨fun _ => zrow, fun k hk => ?_⟩, s6.hu1 ea6 ob_s⟩, K6.hu, fun q w n hq => ⟨?_, ?_, ?_, ?_⟩⟩
  · rw [A0, B0]
    show hu h6 a _ a = some (ob 9 [.ref l1, .ref l2, .ref l3, .ref l4, .ref l5, .ref (P 0)])
    rw [P0]
    exact hu_same
  · show hu h6 a _ (P 0) = some (ob 4 [.ref (P 1), .ref (P 2)])
    exact hu_n1 (n6a 0 (by omega)) (by rw [P0]; exact d0)
  · show hu h6 a _ (P 1) = _
    refine hu_n1 (n6a 1 (by omega)) (d1.trans ?_)
    rw [show (fun k => if k < 5 then some (P (3 + 3 * k)) else none) = dpR (DD (mm a l3 b l4 x4 l5 P)) from funext (fun k => by
      unfold dpR
      by_cases z : k < 5
      · rw [if_pos z, if_pos z, dd k 0 z (by omega)]
        rfl
      · rw [if_neg z, if_neg z])]
  · rw [dd k 0 hk (by omega), dd k 1 hk (by omega), dd k 2 hk (by omega), show 3 + 3 * k + 1 = 4 + 3 * k by omega, show 3 + 3 * k + 2 = 5 + 3 * k by omega]
    exact (dL k hk).kept (hu_ne (n6a _ (by omega))) (hu_ne (n6a _ (by omega))) (hu_ne (n6a _ (by omega)))
  · intro i hi z
    have y := n1 i hi
    rw [← z, hq] at y
    cases y
  · exact fun i hi z => no_ne (n2 i hi) (K1.hu q w n hq) z.symm
  · exact fun k hk i hi z => no_ne (nC k i hk hi).2 (K2.hu q w n hq) z.symm
  · exact mm_all (Z := fun x => q ≠ x) n (Ne.symm (no_ne hn_l3 (K2.hu q w n hq))) (Ne.symm (no_ne hb2 (K2.hu q w n hq))) (Ne.symm (no_ne hn_l4 (K3.hu q w n hq))) (Ne.symm (no_ne hx42 (K3.hu q w n hq))) (Ne.symm (no_ne hn_l5 (K4.hu q w n hq))) (fun i hi => Ne.symm (no_ne (n6 i hi) (K5.hu q w n hq)))
