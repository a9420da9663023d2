theorem refs_0 {A : Nat → Nat} {g : Nat → Nat} : refs A g 0 = fun _ => none := funext (fun k => if_neg (by omega))

set_option maxHeartbeats 4000000 in
set_option maxRecDepth 100000 in
theorem ct_X1_init (X : Cx) {h : Hp} {a : Nat}  (ha : h a = some (ob 1 [.null, .null, .null, .int 0, .int 0, .int 0, .int 0, .null, .null, .null])) (hs : StatAt X h) : Ct X mX1_init 2 193 826 [.ref a] h (fun u h1 => u = none ∧ ∃ A : Nat → Nat, A 0 = a ∧ Fr h h1 A 194 ∧ HB X h1 A a 6 20 60) := by
  refine Ct.ofG vX1_init.1.2.2.1 (Nat.le_of_ble_eq_true rfl) ?_
  show G X RX1 cX1_init 2 none "<init>" (Rm 2 193 826) (Fm X (fun u h1 => u = none ∧ ∃ A : Nat → Nat, A 0 = a ∧ Fr h h1 A 194 ∧ HB X h1 A a 6 20 60) 193 826) 0 0 0 [(0, .ref a)] [] h
  refine g_aload_n dX1_init_0 (by rfl) (by first | exact isRf_r | exact isRf_n | exact isRf_o | assumption) ?_
  refine g_objInit dX1_init_1 lX1_3 kOI_i kOI_c (by first | exact Nat.le_of_ble_eq_true rfl | (dsimp only [Rm]; omega)) (by first | exact Nat.le_of_ble_eq_true rfl | (dsimp only [Rm]; omega)) ?_
  refine g_aload_n dX1_init_4 (by rfl) (by first | exact isRf_r | exact isRf_n | exact isRf_o | assumption) ?_
  refine g_bipush (v := 6) dX1_init_5 (by decide) ?_
  refine g_newR (N := 6) (t := 2) dX1_init_7 qX1_9 (fun U H k => k.2.2.2.2.1) rfl (by decide) (by decide) (by first | exact Nat.le_of_ble_eq_true rfl | (dsimp only [Rm]; omega)) (by first | exact Nat.le_of_ble_eq_true rfl | (dsimp only [Rm]; omega)) ?_
  intro p1 hn_p1
  have t0_p1 := hn_p1
  have np1a := no_ne hn_p1 ha
  have p10 := t0_p1
  refine g_putF (ty := (.array (.object "DarkVats$Vat"))) dX1_init_10 fX1_11 (by decide +kernel) (by rfl) (by rfl) rfl (by intro q hq; cases hq; rfl) (by first | assumption | (repeat' (first | assumption | exact hu_same | exact Ne.symm (by assumption) | apply hu_n1))) (by exact Nat.le_of_ble_eq_true rfl) ?_
  refine g_aload_n dX1_init_13 (by rfl) (by first | exact isRf_r | exact isRf_n | exact isRf_o | assumption) ?_
  refine g_bipush (v := 20) dX1_init_14 (by decide) ?_
  refine g_newR (N := 20) (t := 3) dX1_init_16 qX1_17 (fun U H k => k.2.2.2.2.2.1) rfl (by decide) (by decide) (by first | exact Nat.le_of_ble_eq_true rfl | (dsimp only [Rm]; omega)) (by first | exact Nat.le_of_ble_eq_true rfl | (dsimp only [Rm]; omega)) ?_
  intro p2 hn_p2
  have t0_p2 := hn_p2
  obtain ⟨np2a, t1_p2⟩ := hu_fresh t0_p2
  obtain ⟨np2p1, t2_p2⟩ := hu_fresh t1_p2
  have p20 := t2_p2
  refine g_putF (ty := (.array (.object "DarkVats$Lot"))) dX1_init_19 fX1_19 (by decide +kernel) (by rfl) (by rfl) rfl (by intro q hq; cases hq; rfl) (by first | assumption | (repeat' (first | assumption | exact hu_same | exact Ne.symm (by assumption) | apply hu_n1))) (by exact Nat.le_of_ble_eq_true rfl) ?_
  refine g_aload_n dX1_init_22 (by rfl) (by first | exact isRf_r | exact isRf_n | exact isRf_o | assumption) ?_
  refine g_bipush (v := 60) dX1_init_23 (by decide) ?_
  refine g_newR (N := 60) (t := 4) dX1_init_25 qX1_23 (fun U H k => k.2.2.2.2.2.2.1) rfl (by decide) (by decide) (by first | exact Nat.le_of_ble_eq_true rfl | (dsimp only [Rm]; omega)) (by first | exact Nat.le_of_ble_eq_true rfl | (dsimp only [Rm]; omega)) ?_
  intro p3 hn_p3
  have t0_p3 := hn_p3
  obtain ⟨np3a, t1_p3⟩ := hu_fresh t0_p3
  obtain ⟨np3p2, t2_p3⟩ := hu_fresh t1_p3
  obtain ⟨np3a, t3_p3⟩ := hu_fresh t2_p3
  obtain ⟨np3p1, t4_p3⟩ := hu_fresh t3_p3
  have p30 := t4_p3
  refine g_putF (ty := (.array (.object "DarkVats$Order"))) dX1_init_28 fX1_25 (by decide +kernel) (by rfl) (by rfl) rfl (by intro q hq; cases hq; rfl) (by first | assumption | (repeat' (first | assumption | exact hu_same | exact Ne.symm (by assumption) | apply hu_n1))) (by exact Nat.le_of_ble_eq_true rfl) ?_
  refine g_aload_n dX1_init_31 (by rfl) (by first | exact isRf_r | exact isRf_n | exact isRf_o | assumption) ?_
  refine g_iconst (v := 4) dX1_init_32 (by decide) ?_
  refine g_newI (N := 4) dX1_init_33 (by decide) (by decide) (by first | exact Nat.le_of_ble_eq_true rfl | (dsimp only [Rm]; omega)) (by first | exact Nat.le_of_ble_eq_true rfl | (dsimp only [Rm]; omega)) ?_
  intro p4 hn_p4
  have t0_p4 := hn_p4
  obtain ⟨np4a, t1_p4⟩ := hu_fresh t0_p4
  obtain ⟨np4p3, t2_p4⟩ := hu_fresh t1_p4
  obtain ⟨np4a, t3_p4⟩ := hu_fresh t2_p4
  obtain ⟨np4p2, t4_p4⟩ := hu_fresh t3_p4
  obtain ⟨np4a, t5_p4⟩ := hu_fresh t4_p4
  obtain ⟨np4p1, t6_p4⟩ := hu_fresh t5_p4
  have p40 := t6_p4
  refine g_putF (ty := (.array .int)) dX1_init_35 fX1_29 (by decide +kernel) (by rfl) (by rfl) rfl (by intro q hq; cases hq; rfl) (by first | assumption | (repeat' (first | assumption | exact hu_same | exact Ne.symm (by assumption) | apply hu_n1))) (by exact Nat.le_of_ble_eq_true rfl) ?_
  refine g_aload_n dX1_init_38 (by rfl) (by first | exact isRf_r | exact isRf_n | exact isRf_o | assumption) ?_
  refine g_iconst (v := 4) dX1_init_39 (by decide) ?_
  refine g_newI (N := 4) dX1_init_40 (by decide) (by decide) (by first | exact Nat.le_of_ble_eq_true rfl | (dsimp only [Rm]; omega)) (by first | exact Nat.le_of_ble_eq_true rfl | (dsimp only [Rm]; omega)) ?_
  intro p5 hn_p5
  have t0_p5 := hn_p5
  obtain ⟨np5a, t1_p5⟩ := hu_fresh t0_p5
  obtain ⟨np5p4, t2_p5⟩ := hu_fresh t1_p5
  obtain ⟨np5a, t3_p5⟩ := hu_fresh t2_p5
  obtain ⟨np5p3, t4_p5⟩ := hu_fresh t3_p5
  obtain ⟨np5a, t5_p5⟩ := hu_fresh t4_p5
  obtain ⟨np5p2, t6_p5⟩ := hu_fresh t5_p5
  obtain ⟨np5a, t7_p5⟩ := hu_fresh t6_p5
  obtain ⟨np5p1, t8_p5⟩ := hu_fresh t7_p5
  have p50 := t8_p5
  refine g_putF (ty := (.array .int)) dX1_init_42 fX1_33 (by decide +kernel) (by rfl) (by rfl) rfl (by intro q hq; cases hq; rfl) (by first | assumption | (repeat' (first | assumption | exact hu_same | exact Ne.symm (by assumption) | apply hu_n1))) (by exact Nat.le_of_ble_eq_true rfl) ?_
  refine g_aload_n dX1_init_45 (by rfl) (by first | exact isRf_r | exact isRf_n | exact isRf_o | assumption) ?_
  refine g_new (ci := 6) (fs := [.null]) dX1_init_46 rfl qX1_36 kX6_w kX6_n tyX6_ok (by intro j hj; revert j; decide) (by first | exact Nat.le_of_ble_eq_true rfl | (dsimp only [Rm]; omega)) (by first | exact Nat.le_of_ble_eq_true rfl | (dsimp only [Rm]; omega)) ?_
  intro s hn_s
  have t0_s := hn_s
  obtain ⟨nsa, t1_s⟩ := hu_fresh t0_s
  obtain ⟨nsp5, t2_s⟩ := hu_fresh t1_s
  obtain ⟨nsa, t3_s⟩ := hu_fresh t2_s
  obtain ⟨nsp4, t4_s⟩ := hu_fresh t3_s
  obtain ⟨nsa, t5_s⟩ := hu_fresh t4_s
  obtain ⟨nsp3, t6_s⟩ := hu_fresh t5_s
  obtain ⟨nsa, t7_s⟩ := hu_fresh t6_s
  obtain ⟨nsp2, t8_s⟩ := hu_fresh t7_s
  obtain ⟨nsa, t9_s⟩ := hu_fresh t8_s
  obtain ⟨nsp1, t10_s⟩ := hu_fresh t9_s
  have s0 := t10_s
  refine g_dup dX1_init_49 (by rfl) ?_
  refine g_cI0 dX1_init_50 lX1_38 vX6_init (ct_X6_init X hu_same (((((((((((hs.hu0 t0_p1).hu1 (hu_n1 (Ne.symm np1a) ha) ob_s).hu0 t0_p2).hu1 (hu_n1 (Ne.symm np2a) hu_same) ob_s).hu0 t0_p3).hu1 (hu_n1 (Ne.symm np3a) hu_same) ob_s).hu0 t0_p4).hu1 (hu_n1 (Ne.symm np4a) hu_same) ob_s).hu0 t0_p5).hu1 (hu_n1 (Ne.symm np5a) hu_same) ob_s).hu0 t0_s)) ⟨by first | exact Nat.le_of_ble_eq_true rfl | (dsimp only [Rm]; omega), by first | exact Nat.le_of_ble_eq_true rfl | (dsimp only [Rm]; omega)⟩ (by first | exact Nat.le_of_ble_eq_true rfl | (dsimp only [Rm]; omega)) ⟨by first | exact Nat.le_of_ble_eq_true rfl | (dsimp only [Rm]; omega), by first | exact Nat.le_of_ble_eq_true rfl | (dsimp only [Rm]; omega)⟩ ?_
  rintro _ h2 ⟨rfl, f, hyf, kS, kF⟩
  obtain ⟨nfs, tf⟩ := hu_fresh hyf
  have hn_f := tf
  have t0_f := hn_f
  obtain ⟨nfa, t1_f⟩ := hu_fresh t0_f
  obtain ⟨nfp5, t2_f⟩ := hu_fresh t1_f
  obtain ⟨nfa, t3_f⟩ := hu_fresh t2_f
  obtain ⟨nfp4, t4_f⟩ := hu_fresh t3_f
  obtain ⟨nfa, t5_f⟩ := hu_fresh t4_f
  obtain ⟨nfp3, t6_f⟩ := hu_fresh t5_f
  obtain ⟨nfa, t7_f⟩ := hu_fresh t6_f
  obtain ⟨nfp2, t8_f⟩ := hu_fresh t7_f
  obtain ⟨nfa, t9_f⟩ := hu_fresh t8_f
  obtain ⟨nfp1, t10_f⟩ := hu_fresh t9_f
  have f0 := t10_f
  have kk := fun q q1 q2 => (kF q q1 q2).trans (hu_ne q1)
  have ea2 := (kk a (Ne.symm nsa) (Ne.symm nfa)).trans hu_same
  refine g_putF (ty := (.object "DarkVats$Settings")) dX1_init_53 fX1_39 (by decide +kernel) (by rfl) (by rfl) rfl (by intro q hq; cases hq; rfl) (by first | assumption | (repeat' (first | assumption | exact hu_same | exact Ne.symm (by assumption) | apply hu_n1))) (by exact Nat.le_of_ble_eq_true rfl) ?_
  refine g_iconst (v := 0) dX1_init_56 (by decide) ?_
  refine g_istore_n (L1 := [(0, _), (1, _)]) dX1_init_57 (by decide) (by rfl) ?_
  have loop58 : ∀ i, i ≤ 6 → ∀ (h1 : Hp) (A : Nat → Nat), A 0 = a → Fr h h1 A (8 + i) → HB X h1 A a i 0 0 → G X RX1 cX1_init 2 none "<init>" (Rm 2 193 826) (Fm X (fun u h1 => u = none ∧ ∃ A : Nat → Nat, A 0 = a ∧ Fr h h1 A 194 ∧ HB X h1 A a 6 20 60) 193 826) (7 + i) (102 + 4 * i) 58 [(0, .ref a), (1, .int (nI i))] [] h1 := by
    refine up_ind 6 (fun i hi ih => ?_)
    intro h1 A hA0 F B
    obtain ⟨b0, b1, b2, b3, -⟩ := id B
    refine g_iload_n dX1_init_58 (by rfl) ?_
    refine g_aload_n dX1_init_59 (by rfl) (by first | exact isRf_r | exact isRf_n | exact isRf_o | assumption) ?_
    refine g_getf dX1_init_60 fX1_11 (by first | assumption | (repeat' (first | assumption | exact hu_same | exact Ne.symm (by assumption) | apply hu_n1))) (by rfl) ?_
    refine g_alenR dX1_init_63 (by first | assumption | (repeat' (first | assumption | exact hu_same | exact Ne.symm (by assumption) | apply hu_n1))) (by decide) ?_
    refine g_icmp_ge (tgt := 86) dX1_init_64 (by decide) (fun c1 => ?_) (fun c1 => ?_)
    · skip
      have hie : i = 6 := Nat.le_antisymm hi (c_ge (a := 6) (by omega) (by omega) c1)
      subst hie
      refine g_iconst (v := 0) dX1_init_86 (by decide) ?_
      refine g_istore_n (L1 := [(0, _), (1, _)]) dX1_init_87 (by decide) (by rfl) ?_
      have loop88 : ∀ i, i ≤ 20 → ∀ (h1 : Hp) (A : Nat → Nat), A 0 = a → Fr h h1 A (14 + 3 * i) → HB X h1 A a 6 i 0 → G X RX1 cX1_init 2 none "<init>" (Rm 2 193 826) (Fm X (fun u h1 => u = none ∧ ∃ A : Nat → Nat, A 0 = a ∧ Fr h h1 A 194 ∧ HB X h1 A a 6 20 60) 193 826) (13 + 3 * i) (126 + 17 * i) 88 [(0, .ref a), (1, .int (nI i))] [] h1 := by
        refine up_ind 20 (fun i hi ih => ?_)
        intro h1 A hA0 F B
        obtain ⟨b0, b1, b2, b3, -⟩ := id B
        refine g_iload_n dX1_init_88 (by rfl) ?_
        refine g_aload_n dX1_init_89 (by rfl) (by first | exact isRf_r | exact isRf_n | exact isRf_o | assumption) ?_
        refine g_getf dX1_init_90 fX1_19 (by first | assumption | (repeat' (first | assumption | exact hu_same | exact Ne.symm (by assumption) | apply hu_n1))) (by rfl) ?_
        refine g_alenR dX1_init_93 (by first | assumption | (repeat' (first | assumption | exact hu_same | exact Ne.symm (by assumption) | apply hu_n1))) (by decide) ?_
        refine g_icmp_ge (tgt := 116) dX1_init_94 (by decide) (fun c2 => ?_) (fun c2 => ?_)
        · skip
          have hie : i = 20 := Nat.le_antisymm hi (c_ge (a := 20) (by omega) (by omega) c2)
          subst hie
          refine g_iconst (v := 0) dX1_init_116 (by decide) ?_
          refine g_istore_n (L1 := [(0, _), (1, _)]) dX1_init_117 (by decide) (by rfl) ?_
          have loop118 : ∀ i, i ≤ 60 → ∀ (h1 : Hp) (A : Nat → Nat), A 0 = a → Fr h h1 A (74 + 2 * i) → HB X h1 A a 6 20 i → G X RX1 cX1_init 2 none "<init>" (Rm 2 193 826) (Fm X (fun u h1 => u = none ∧ ∃ A : Nat → Nat, A 0 = a ∧ Fr h h1 A 194 ∧ HB X h1 A a 6 20 60) 193 826) (73 + 2 * i) (466 + 6 * i) 118 [(0, .ref a), (1, .int (nI i))] [] h1 := by
            refine up_ind 60 (fun i hi ih => ?_)
            intro h1 A hA0 F B
            obtain ⟨b0, b1, b2, b3, -⟩ := id B
            refine g_iload_n dX1_init_118 (by rfl) ?_
            refine g_aload_n dX1_init_119 (by rfl) (by first | exact isRf_r | exact isRf_n | exact isRf_o | assumption) ?_
            refine g_getf dX1_init_120 fX1_25 (by first | assumption | (repeat' (first | assumption | exact hu_same | exact Ne.symm (by assumption) | apply hu_n1))) (by rfl) ?_
            refine g_alenR dX1_init_123 (by first | assumption | (repeat' (first | assumption | exact hu_same | exact Ne.symm (by assumption) | apply hu_n1))) (by decide) ?_
            refine g_icmp_ge (tgt := 146) dX1_init_124 (by decide) (fun c3 => ?_) (fun c3 => ?_)
            · skip
              have hie : i = 60 := Nat.le_antisymm hi (c_ge (a := 60) (by omega) (by omega) c3)
              subst hie
              refine g_vret dX1_init_146 rfl (by first | exact Nat.le_of_ble_eq_true rfl | (dsimp only [Rm]; omega)) (by first | exact Nat.le_of_ble_eq_true rfl | (dsimp only [Rm]; omega)) ?_
              exact ⟨rfl, A, hA0, F, B⟩
            · skip
              have hlt : i < 60 := c_nge (a := 60) (b := i) (by omega) (by omega) c3
              refine g_aload_n dX1_init_127 (by rfl) (by first | exact isRf_r | exact isRf_n | exact isRf_o | assumption) ?_
              refine g_getf dX1_init_128 fX1_25 (by first | assumption | (repeat' (first | assumption | exact hu_same | exact Ne.symm (by assumption) | apply hu_n1))) (by rfl) ?_
              refine g_iload_n dX1_init_131 (by rfl) ?_
              refine g_new (ci := 3) (fs := [.null, .int 0]) dX1_init_132 rfl qX1_23 kX3_w kX3_n tyX3_ok (by intro j hj; revert j; decide) (by first | exact Nat.le_of_ble_eq_true rfl | (dsimp only [Rm]; omega)) (by first | exact Nat.le_of_ble_eq_true rfl | (dsimp only [Rm]; omega)) ?_
              intro l hn_l
              have nl := F.ne hn_l
              have nl0 := nl 0 (by omega)
              rw [hA0] at nl0
              refine g_dup dX1_init_135 (by rfl) ?_
              refine g_cIN0 dX1_init_136 lX1_45 vX3_init (ct_X3_init X hu_same) ⟨by first | exact Nat.le_of_ble_eq_true rfl | (dsimp only [Rm]; omega), by first | exact Nat.le_of_ble_eq_true rfl | (dsimp only [Rm]; omega)⟩ (by first | exact Nat.le_of_ble_eq_true rfl | (dsimp only [Rm]; omega)) ⟨by first | exact Nat.le_of_ble_eq_true rfl | (dsimp only [Rm]; omega), by first | exact Nat.le_of_ble_eq_true rfl | (dsimp only [Rm]; omega)⟩ ?_
              rintro _ h2 ⟨rfl, y, hy, kL, kF⟩
              obtain ⟨ny, hy1⟩ := hu_fresh hy
              have my := F.ne hy1
              have kk2 : ∀ q, q ≠ l → q ≠ y → h2 q = h1 q := fun q q1 q2 => (kF q q1 q2).trans (hu_ne q1)
              have kA : ∀ j, j < 74 + 2 * i → h2 (A j) = h1 (A j) := fun j hj => kk2 _ (Ne.symm (nl j hj)) (Ne.symm (my j hj))
              have e0 := ((congrArg h2 hA0).symm.trans ((kA 0 (by omega)).trans (congrArg h1 hA0))).trans b0
              have e3 := (kA 3 (by omega)).trans b3
              have eL := kL.1
              unfold ordC at eL
              refine g_asN dX1_init_139 (by first | assumption | (repeat' (first | assumption | exact hu_same | exact Ne.symm (by assumption) | apply hu_n1))) rfl (by first | assumption | (repeat' (first | assumption | exact hu_same | exact Ne.symm (by assumption) | apply hu_n1))) rfl (by omega) (by omega) ?_
              refine g_iinc (v := nI (i + 1)) (L1 := [(0, _), (1, _)]) dX1_init_140 (by rfl) (nI_1 i) (by decide) (by rfl) ?_
              refine g_goto (tgt := 118) dX1_init_143 (by decide) ?_
              have F2 := F.two hn_l hy kL.1 kL.2 kk2
              have a2 : ∀ j, j < 74 + 2 * i → ua2 A (74 + 2 * i) l y j = A j := fun j hj => ua2_n hj
              have B2 := B.kept (A2 := ua2 A (74 + 2 * i) l y) (h2 := h2) (K := 74 + 2 * i) hA0 (by omega) (fun _ => by omega) (fun _ => by omega) a2 kA
              have B3 := B2.ord ((a2 0 (by omega)).trans hA0) hlt (fun p q hp hq => F2.2.1 p q (by omega) (by omega)) (by rw [ua2_0 rfl, ua2_1 (by omega)]; exact kL)
              have eu := refs_up (A := ua2 A (74 + 2 * i) l y) (g := fun k => 74 + 2 * k) (i := i) (b := l) (ua2_0 rfl)
              rw [refs_ext (A := A) (fun k hk => a2 _ (by omega))] at eu
              rw [eu]
              exact ih (by omega) _ (ua2 A (74 + 2 * i) l y) ((a2 0 (by omega)).trans hA0) (F2.put (j := 3) (by omega) (a2 3 (by omega))) (by have B4 := B3; rw [a2 3 (by omega)] at B4; exact B4)
          exact loop118 0 (by omega) h1 A hA0 F B
        · skip
          have hlt : i < 20 := c_nge (a := 20) (b := i) (by omega) (by omega) c2
          refine g_aload_n dX1_init_97 (by rfl) (by first | exact isRf_r | exact isRf_n | exact isRf_o | assumption) ?_
          refine g_getf dX1_init_98 fX1_19 (by first | assumption | (repeat' (first | assumption | exact hu_same | exact Ne.symm (by assumption) | apply hu_n1))) (by rfl) ?_
          refine g_iload_n dX1_init_101 (by rfl) ?_
          refine g_new (ci := 2) (fs := [.int 0, .int 0, .int 0, .int 0, .int 0, .int 0, .int 0, .null, .null]) dX1_init_102 rfl qX1_17 kX2_w kX2_n tyX2_ok (by intro j hj; revert j; decide) (by first | exact Nat.le_of_ble_eq_true rfl | (dsimp only [Rm]; omega)) (by first | exact Nat.le_of_ble_eq_true rfl | (dsimp only [Rm]; omega)) ?_
          intro l hn_l
          have nl := F.ne hn_l
          have nl0 := nl 0 (by omega)
          rw [hA0] at nl0
          refine g_dup dX1_init_105 (by rfl) ?_
          refine g_cIN0 dX1_init_106 lX1_44 vX2_init (ct_X2_init X hu_same) ⟨by first | exact Nat.le_of_ble_eq_true rfl | (dsimp only [Rm]; omega), by first | exact Nat.le_of_ble_eq_true rfl | (dsimp only [Rm]; omega)⟩ (by first | exact Nat.le_of_ble_eq_true rfl | (dsimp only [Rm]; omega)) ⟨by first | exact Nat.le_of_ble_eq_true rfl | (dsimp only [Rm]; omega), by first | exact Nat.le_of_ble_eq_true rfl | (dsimp only [Rm]; omega)⟩ ?_
          rintro _ h2 ⟨rfl, y, z, hy, hz, nyz, kL, kF⟩
          obtain ⟨ny, hy1⟩ := hu_fresh hy
          obtain ⟨nz, hz1⟩ := hu_fresh hz
          have my := F.ne hy1
          have mz := F.ne hz1
          have kk2 : ∀ q, q ≠ l → q ≠ y → q ≠ z → h2 q = h1 q := fun q q1 q2 q3 => (kF q q1 q2 q3).trans (hu_ne q1)
          have kA : ∀ j, j < 14 + 3 * i → h2 (A j) = h1 (A j) := fun j hj => kk2 _ (Ne.symm (nl j hj)) (Ne.symm (my j hj)) (Ne.symm (mz j hj))
          have e0 := ((congrArg h2 hA0).symm.trans ((kA 0 (by omega)).trans (congrArg h1 hA0))).trans b0
          have e2 := (kA 2 (by omega)).trans b2
          have eL := kL.1
          unfold lotC at eL
          refine g_asN dX1_init_109 (by first | assumption | (repeat' (first | assumption | exact hu_same | exact Ne.symm (by assumption) | apply hu_n1))) rfl (by first | assumption | (repeat' (first | assumption | exact hu_same | exact Ne.symm (by assumption) | apply hu_n1))) rfl (by omega) (by omega) ?_
          refine g_iinc (v := nI (i + 1)) (L1 := [(0, _), (1, _)]) dX1_init_110 (by rfl) (nI_1 i) (by decide) (by rfl) ?_
          refine g_goto (tgt := 88) dX1_init_113 (by decide) ?_
          have F2 := F.three hn_l hy hz nyz kL.1 kL.2.1 kL.2.2 kk2
          have a2 : ∀ j, j < 14 + 3 * i → ua3 A (14 + 3 * i) l y z j = A j := fun j hj => ua3_n hj
          have B2 := B.kept (A2 := ua3 A (14 + 3 * i) l y z) (h2 := h2) (K := 14 + 3 * i) hA0 (by omega) (fun _ => by omega) (fun z => absurd z (by omega)) a2 kA
          have B3 := B2.lot ((a2 0 (by omega)).trans hA0) hlt (fun p q hp hq => F2.2.1 p q (by omega) (by omega)) (by rw [ua3_0 rfl, ua3_1 (by omega), ua3_2 (by omega)]; exact kL)
          have eu := refs_up (A := ua3 A (14 + 3 * i) l y z) (g := fun k => 14 + 3 * k) (i := i) (b := l) (ua3_0 rfl)
          rw [refs_ext (A := A) (fun k hk => a2 _ (by omega))] at eu
          rw [eu]
          exact ih (by omega) _ (ua3 A (14 + 3 * i) l y z) ((a2 0 (by omega)).trans hA0) (F2.put (j := 2) (by omega) (a2 2 (by omega))) (by have B4 := B3; rw [a2 2 (by omega)] at B4; exact B4)
      exact loop88 0 (by omega) h1 A hA0 F B
    · skip
      have hlt : i < 6 := c_nge (a := 6) (b := i) (by omega) (by omega) c1
      refine g_aload_n dX1_init_67 (by rfl) (by first | exact isRf_r | exact isRf_n | exact isRf_o | assumption) ?_
      refine g_getf dX1_init_68 fX1_11 (by first | assumption | (repeat' (first | assumption | exact hu_same | exact Ne.symm (by assumption) | apply hu_n1))) (by rfl) ?_
      refine g_iload_n dX1_init_71 (by rfl) ?_
      refine g_new (ci := 8) (fs := [.int 0, .int 0, .int 0, .int 0]) dX1_init_72 rfl qX1_9 kX8_w kX8_n tyX8_ok (by intro j hj; revert j; decide) (by first | exact Nat.le_of_ble_eq_true rfl | (dsimp only [Rm]; omega)) (by first | exact Nat.le_of_ble_eq_true rfl | (dsimp only [Rm]; omega)) ?_
      intro v hn_v
      have nv := F.ne hn_v
      have nv0 := nv 0 (by omega)
      rw [hA0] at nv0
      have nv1 := nv 1 (by omega)
      refine g_dup dX1_init_75 (by rfl) ?_
      refine g_cIN0 dX1_init_76 lX1_43 vX8_init (ct_X8_init X) ⟨by first | exact Nat.le_of_ble_eq_true rfl | (dsimp only [Rm]; omega), by first | exact Nat.le_of_ble_eq_true rfl | (dsimp only [Rm]; omega)⟩ (by first | exact Nat.le_of_ble_eq_true rfl | (dsimp only [Rm]; omega)) ⟨by first | exact Nat.le_of_ble_eq_true rfl | (dsimp only [Rm]; omega), by first | exact Nat.le_of_ble_eq_true rfl | (dsimp only [Rm]; omega)⟩ ?_
      rintro _ h2 ⟨rfl, rfl⟩
      refine g_asN dX1_init_79 (by first | assumption | (repeat' (first | assumption | exact hu_same | exact Ne.symm (by assumption) | apply hu_n1))) rfl (by first | assumption | (repeat' (first | assumption | exact hu_same | exact Ne.symm (by assumption) | apply hu_n1))) rfl (by omega) (by omega) ?_
      refine g_iinc (v := nI (i + 1)) (L1 := [(0, _), (1, _)]) dX1_init_80 (by rfl) (nI_1 i) (by decide) (by rfl) ?_
      refine g_goto (tgt := 58) dX1_init_83 (by decide) ?_
      have hv2 := hn_v
      have F2 := F.new (e := ob 8 [.int 0, .int 0, .int 0, .int 0]) hn_v
      have nv := F.ne hn_v
      have a2 : ∀ j, j < 8 + i → ua A (8 + i) v j = A j := fun j hj => ua_n (by omega)
      have B2 := B.kept (A2 := ua A (8 + i) v) (h2 := hu h1 v (ob 8 [.int 0, .int 0, .int 0, .int 0])) (K := 8 + i) hA0 (by omega) (fun z => absurd z (by omega)) (fun z => absurd z (by omega)) a2 (fun j hj => hu_ne (Ne.symm (nv j hj)))
      have B3 := B2.vat ((a2 0 (by omega)).trans hA0) hlt (fun p q hp hq => F2.2.1 p q (by omega) (by omega)) (by rw [ua_s]; exact hu_same)
      skip
      have eu := refs_up (A := ua A (8 + i) v) (g := fun k => 8 + k) (i := i) (b := v) ua_s
      rw [refs_ext (A := A) (fun k hk => a2 _ (by omega))] at eu
      rw [eu]
      exact ih (by omega) _ (ua A (8 + i) v) ((a2 0 (by omega)).trans hA0) (F2.put (j := 1) (by omega) (a2 1 (by omega))) (by have B4 := B3; rw [a2 1 (by omega)] at B4; exact B4)
  have F0 : Fr h h (fun _ => a) 1 := Fr.start ha rfl
  have F6 := ((((((((((F0.new t0_p1).put (j := 0) (by omega) rfl).new t0_p2).put (j := 0) (by omega) rfl).new t0_p3).put (j := 0) (by omega) rfl).new t0_p4).put (j := 0) (by omega) rfl).new t0_p5).put (j := 0) (by omega) rfl).two hn_s hyf kS.1 kS.2 kk
  refine loop58 0 (by omega) _ (ua2 (ua (ua (ua (ua (ua (fun _ => a) 1 p1) 2 p2) 3 p3) 4 p4) 5 p5) 6 s f) rfl (F6.put (j := 0) (by omega) rfl) ⟨hu_same, ?_, ?_, ?_, ?_, ?_, ⟨?_, ?_⟩, fun v hv => absurd hv (by omega), fun v hv => absurd hv (by omega), fun v hv => absurd hv (by omega)⟩
  · exact hu_n1 np1a ((kk _ (Ne.symm nsp1) (Ne.symm nfp1)).trans (by rw [refs_0]; exact (by repeat' (first | assumption | exact hu_same | exact Ne.symm (by assumption) | apply hu_n1))))
  · exact hu_n1 np2a ((kk _ (Ne.symm nsp2) (Ne.symm nfp2)).trans (by rw [refs_0]; exact (by repeat' (first | assumption | exact hu_same | exact Ne.symm (by assumption) | apply hu_n1))))
  · exact hu_n1 np3a ((kk _ (Ne.symm nsp3) (Ne.symm nfp3)).trans (by rw [refs_0]; exact (by repeat' (first | assumption | exact hu_same | exact Ne.symm (by assumption) | apply hu_n1))))
  · exact hu_n1 np4a ((kk _ (Ne.symm nsp4) (Ne.symm nfp4)).trans (by rw [nr_z]; exact (by repeat' (first | assumption | exact hu_same | exact Ne.symm (by assumption) | apply hu_n1))))
  · exact hu_n1 np5a ((kk _ (Ne.symm nsp5) (Ne.symm nfp5)).trans (by rw [nr_z]; exact (by repeat' (first | assumption | exact hu_same | exact Ne.symm (by assumption) | apply hu_n1))))
  · exact hu_n1 nsa kS.1
  · exact hu_n1 nfa kS.2
