theorem row0_e : ∀ p, p < 643 → upd (upd (upd (upd (upd (upd (upd zrow 0 20) 1 5) 2 200) 3 8000) 4 150) 5 10) 6 2000 p = row0 p := by
  intro p hp
  by_cases h : p < 7
  · rcases (show p = 0 ∨ p = 1 ∨ p = 2 ∨ p = 3 ∨ p = 4 ∨ p = 5 ∨ p = 6 by omega) with rfl | rfl | rfl | rfl | rfl | rfl | rfl <;> rfl
  · rw [upd_n (by omega), upd_n (by omega), upd_n (by omega), upd_n (by omega), upd_n (by omega), upd_n (by omega), upd_n (by omega)]
    exact (if_neg h).symm

set_option maxHeartbeats 4000000 in
set_option maxRecDepth 100000 in
theorem ct_X10_init (X : Cx) {h : Hp} {a : Nat}  (ha : h a = some (ob 10 [.null, .null, .int 0, .null, .null, .int 0, .null, .int 0, .int 0, .null, .int 0, .null])) : Ct X mX10_init 1 7 3927 [.ref a] h (fun u h1 => u = none ∧ ∃ M : Nat → Nat, M 0 = a ∧ MdAt X h1 M row0 0 (fun _ _ => 0) 0 zrow ∧ (∀ q, outM M q → h1 q = h q) ∧ ∀ i, 0 < i → i < 8 → h (M i) = none) := by
  have ma0 := ha
  have fr0 : Fr h h (fun _ => a) 1 := Fr.start ha rfl
  refine Ct.ofG vX10_init.1.2.2.1 (Nat.le_of_ble_eq_true rfl) ?_
  show G X RX10 cX10_init 1 none "<init>" (Rm 1 7 3927) (Fm X (fun u h1 => u = none ∧ ∃ M : Nat → Nat, M 0 = a ∧ MdAt X h1 M row0 0 (fun _ _ => 0) 0 zrow ∧ (∀ q, outM M q → h1 q = h q) ∧ ∀ i, 0 < i → i < 8 → h (M i) = none) 7 3927) 0 0 0 [(0, .ref a)] [] h
  refine g_aload_n dX10_init_0 (by rfl) (by first | exact isRf_r | exact isRf_n | exact isRf_o | assumption) ?_
  refine g_objInit dX10_init_1 lX10_1 kOI_i kOI_c (Nat.le_of_ble_eq_true rfl) (Nat.le_of_ble_eq_true rfl) ?_
  refine g_aload_n dX10_init_4 (by rfl) (by first | exact isRf_r | exact isRf_n | exact isRf_o | assumption) ?_
  refine g_sipush (v := 643) dX10_init_5 (by decide) ?_
  refine g_newI (N := 643) dX10_init_8 (by decide) (by decide) (Nat.le_of_ble_eq_true rfl) (Nat.le_of_ble_eq_true rfl) ?_
  intro b1 hn_b1
  have n1 := no_ne hn_b1 ma0
  refine g_putF (ty := (.array .int)) dX10_init_10 fX10_7 (by decide +kernel) (by rfl) (by rfl) rfl (by intro q hq; cases hq; rfl) (by first | exact ma0 | exact ma1 | exact ma2 | exact ma3 | exact ma4 | exact ma5 | exact ma6 | exact ma7 | exact hr_a (Ne.symm n1) ma7 | exact hu_n1 (Ne.symm (by assumption)) (by assumption)) (by exact Nat.le_of_ble_eq_true rfl) ?_
  have fr1 : Fr h _ (ua (fun _ => a) 1 b1) 2 := (fr0.new (b := b1) (e := oI X 643 (fun _ => 0)) hn_b1).put (j := 0) (a := a) (e := ob 10 [.ref b1, .null, .int 0, .null, .null, .int 0, .null, .int 0, .int 0, .null, .int 0, .null]) (by omega) rfl
  refine g_gen (fun h1 eh1 => ?_)
  have ma1 : h1 a = some (ob 10 [.ref b1, .null, .int 0, .null, .null, .int 0, .null, .int 0, .int 0, .null, .int 0, .null]) := by
    rw [eh1]
    exact hu_same
  have c1_1 : h1 b1 = some (oI X 643 (fun _ => 0)) := by
    rw [eh1]
    exact hu_n1 n1 hu_same
  have fs1 : Fr h h1 (ua (fun _ => a) 1 b1) 2 := by
    rw [eh1]
    exact fr1
  clear fr1 eh1
  have fr1 := fs1
  refine g_aload_n dX10_init_13 (by rfl) (by first | exact isRf_r | exact isRf_n | exact isRf_o | assumption) ?_
  refine g_sipush (v := 2572) dX10_init_14 (by decide) ?_
  refine g_newI (N := 2572) dX10_init_17 (by decide) (by decide) (Nat.le_of_ble_eq_true rfl) (Nat.le_of_ble_eq_true rfl) ?_
  intro b2 hn_b2
  have n2 := no_ne hn_b2 ma1
  have x2_1 := no_ne hn_b2 c1_1
  refine g_putF (ty := (.array .int)) dX10_init_19 fX10_13 (by decide +kernel) (by rfl) (by rfl) rfl (by intro q hq; cases hq; rfl) (by first | exact ma0 | exact ma1 | exact ma2 | exact ma3 | exact ma4 | exact ma5 | exact ma6 | exact ma7 | exact hr_a (Ne.symm n1) ma7 | exact hu_n1 (Ne.symm (by assumption)) (by assumption)) (by exact Nat.le_of_ble_eq_true rfl) ?_
  have fr2 : Fr h _ (ua (ua (fun _ => a) 1 b1) 2 b2) 3 := (fr1.new (b := b2) (e := oI X 2572 (fun _ => 0)) hn_b2).put (j := 0) (a := a) (e := ob 10 [.ref b1, .ref b2, .int 0, .null, .null, .int 0, .null, .int 0, .int 0, .null, .int 0, .null]) (by omega) rfl
  refine g_gen (fun h2 eh2 => ?_)
  have ma2 : h2 a = some (ob 10 [.ref b1, .ref b2, .int 0, .null, .null, .int 0, .null, .int 0, .int 0, .null, .int 0, .null]) := by
    rw [eh2]
    exact hu_same
  have c2_2 : h2 b2 = some (oI X 2572 (fun _ => 0)) := by
    rw [eh2]
    exact hu_n1 n2 hu_same
  have c1_2 : h2 b1 = some (oI X 643 (fun _ => 0)) := by
    rw [eh2]
    exact hu_n1 n1 (hu_n1 (Ne.symm x2_1) c1_1)
  have fs2 : Fr h h2 (ua (ua (fun _ => a) 1 b1) 2 b2) 3 := by
    rw [eh2]
    exact fr2
  clear fr2 eh2
  have fr2 := fs2
  refine g_aload_n dX10_init_22 (by rfl) (by first | exact isRf_r | exact isRf_n | exact isRf_o | assumption) ?_
  refine g_sipush (v := 643) dX10_init_23 (by decide) ?_
  refine g_newI (N := 643) dX10_init_26 (by decide) (by decide) (Nat.le_of_ble_eq_true rfl) (Nat.le_of_ble_eq_true rfl) ?_
  intro b3 hn_b3
  have n3 := no_ne hn_b3 ma2
  have x3_1 := no_ne hn_b3 c1_2
  have x3_2 := no_ne hn_b3 c2_2
  refine g_putF (ty := (.array .int)) dX10_init_28 fX10_16 (by decide +kernel) (by rfl) (by rfl) rfl (by intro q hq; cases hq; rfl) (by first | exact ma0 | exact ma1 | exact ma2 | exact ma3 | exact ma4 | exact ma5 | exact ma6 | exact ma7 | exact hr_a (Ne.symm n1) ma7 | exact hu_n1 (Ne.symm (by assumption)) (by assumption)) (by exact Nat.le_of_ble_eq_true rfl) ?_
  have fr3 : Fr h _ (ua (ua (ua (fun _ => a) 1 b1) 2 b2) 3 b3) 4 := (fr2.new (b := b3) (e := oI X 643 (fun _ => 0)) hn_b3).put (j := 0) (a := a) (e := ob 10 [.ref b1, .ref b2, .int 0, .ref b3, .null, .int 0, .null, .int 0, .int 0, .null, .int 0, .null]) (by omega) rfl
  refine g_gen (fun h3 eh3 => ?_)
  have ma3 : h3 a = some (ob 10 [.ref b1, .ref b2, .int 0, .ref b3, .null, .int 0, .null, .int 0, .int 0, .null, .int 0, .null]) := by
    rw [eh3]
    exact hu_same
  have c3_3 : h3 b3 = some (oI X 643 (fun _ => 0)) := by
    rw [eh3]
    exact hu_n1 n3 hu_same
  have c1_3 : h3 b1 = some (oI X 643 (fun _ => 0)) := by
    rw [eh3]
    exact hu_n1 n1 (hu_n1 (Ne.symm x3_1) c1_2)
  have c2_3 : h3 b2 = some (oI X 2572 (fun _ => 0)) := by
    rw [eh3]
    exact hu_n1 n2 (hu_n1 (Ne.symm x3_2) c2_2)
  have fs3 : Fr h h3 (ua (ua (ua (fun _ => a) 1 b1) 2 b2) 3 b3) 4 := by
    rw [eh3]
    exact fr3
  clear fr3 eh3
  have fr3 := fs3
  refine g_aload_n dX10_init_31 (by rfl) (by first | exact isRf_r | exact isRf_n | exact isRf_o | assumption) ?_
  refine g_bipush (v := 60) dX10_init_32 (by decide) ?_
  refine g_newI (N := 60) dX10_init_34 (by decide) (by decide) (Nat.le_of_ble_eq_true rfl) (Nat.le_of_ble_eq_true rfl) ?_
  intro b4 hn_b4
  have n4 := no_ne hn_b4 ma3
  have x4_1 := no_ne hn_b4 c1_3
  have x4_2 := no_ne hn_b4 c2_3
  have x4_3 := no_ne hn_b4 c3_3
  refine g_putF (ty := (.array .int)) dX10_init_36 fX10_19 (by decide +kernel) (by rfl) (by rfl) rfl (by intro q hq; cases hq; rfl) (by first | exact ma0 | exact ma1 | exact ma2 | exact ma3 | exact ma4 | exact ma5 | exact ma6 | exact ma7 | exact hr_a (Ne.symm n1) ma7 | exact hu_n1 (Ne.symm (by assumption)) (by assumption)) (by exact Nat.le_of_ble_eq_true rfl) ?_
  have fr4 : Fr h _ (ua (ua (ua (ua (fun _ => a) 1 b1) 2 b2) 3 b3) 4 b4) 5 := (fr3.new (b := b4) (e := oI X 60 (fun _ => 0)) hn_b4).put (j := 0) (a := a) (e := ob 10 [.ref b1, .ref b2, .int 0, .ref b3, .ref b4, .int 0, .null, .int 0, .int 0, .null, .int 0, .null]) (by omega) rfl
  refine g_gen (fun h4 eh4 => ?_)
  have ma4 : h4 a = some (ob 10 [.ref b1, .ref b2, .int 0, .ref b3, .ref b4, .int 0, .null, .int 0, .int 0, .null, .int 0, .null]) := by
    rw [eh4]
    exact hu_same
  have c4_4 : h4 b4 = some (oI X 60 (fun _ => 0)) := by
    rw [eh4]
    exact hu_n1 n4 hu_same
  have c1_4 : h4 b1 = some (oI X 643 (fun _ => 0)) := by
    rw [eh4]
    exact hu_n1 n1 (hu_n1 (Ne.symm x4_1) c1_3)
  have c2_4 : h4 b2 = some (oI X 2572 (fun _ => 0)) := by
    rw [eh4]
    exact hu_n1 n2 (hu_n1 (Ne.symm x4_2) c2_3)
  have c3_4 : h4 b3 = some (oI X 643 (fun _ => 0)) := by
    rw [eh4]
    exact hu_n1 n3 (hu_n1 (Ne.symm x4_3) c3_3)
  have fs4 : Fr h h4 (ua (ua (ua (ua (fun _ => a) 1 b1) 2 b2) 3 b3) 4 b4) 5 := by
    rw [eh4]
    exact fr4
  clear fr4 eh4
  have fr4 := fs4
  refine g_aload_n dX10_init_39 (by rfl) (by first | exact isRf_r | exact isRf_n | exact isRf_o | assumption) ?_
  refine g_iconst (v := 4) dX10_init_40 (by decide) ?_
  refine g_newI (N := 4) dX10_init_41 (by decide) (by decide) (Nat.le_of_ble_eq_true rfl) (Nat.le_of_ble_eq_true rfl) ?_
  intro b5 hn_b5
  have n5 := no_ne hn_b5 ma4
  have x5_1 := no_ne hn_b5 c1_4
  have x5_2 := no_ne hn_b5 c2_4
  have x5_3 := no_ne hn_b5 c3_4
  have x5_4 := no_ne hn_b5 c4_4
  refine g_putF (ty := (.array .int)) dX10_init_43 fX10_22 (by decide +kernel) (by rfl) (by rfl) rfl (by intro q hq; cases hq; rfl) (by first | exact ma0 | exact ma1 | exact ma2 | exact ma3 | exact ma4 | exact ma5 | exact ma6 | exact ma7 | exact hr_a (Ne.symm n1) ma7 | exact hu_n1 (Ne.symm (by assumption)) (by assumption)) (by exact Nat.le_of_ble_eq_true rfl) ?_
  have fr5 : Fr h _ (ua (ua (ua (ua (ua (fun _ => a) 1 b1) 2 b2) 3 b3) 4 b4) 5 b5) 6 := (fr4.new (b := b5) (e := oI X 4 (fun _ => 0)) hn_b5).put (j := 0) (a := a) (e := ob 10 [.ref b1, .ref b2, .int 0, .ref b3, .ref b4, .int 0, .ref b5, .int 0, .int 0, .null, .int 0, .null]) (by omega) rfl
  refine g_gen (fun h5 eh5 => ?_)
  have ma5 : h5 a = some (ob 10 [.ref b1, .ref b2, .int 0, .ref b3, .ref b4, .int 0, .ref b5, .int 0, .int 0, .null, .int 0, .null]) := by
    rw [eh5]
    exact hu_same
  have c5_5 : h5 b5 = some (oI X 4 (fun _ => 0)) := by
    rw [eh5]
    exact hu_n1 n5 hu_same
  have c1_5 : h5 b1 = some (oI X 643 (fun _ => 0)) := by
    rw [eh5]
    exact hu_n1 n1 (hu_n1 (Ne.symm x5_1) c1_4)
  have c2_5 : h5 b2 = some (oI X 2572 (fun _ => 0)) := by
    rw [eh5]
    exact hu_n1 n2 (hu_n1 (Ne.symm x5_2) c2_4)
  have c3_5 : h5 b3 = some (oI X 643 (fun _ => 0)) := by
    rw [eh5]
    exact hu_n1 n3 (hu_n1 (Ne.symm x5_3) c3_4)
  have c4_5 : h5 b4 = some (oI X 60 (fun _ => 0)) := by
    rw [eh5]
    exact hu_n1 n4 (hu_n1 (Ne.symm x5_4) c4_4)
  have fs5 : Fr h h5 (ua (ua (ua (ua (ua (fun _ => a) 1 b1) 2 b2) 3 b3) 4 b4) 5 b5) 6 := by
    rw [eh5]
    exact fr5
  clear fr5 eh5
  have fr5 := fs5
  refine g_aload_n dX10_init_46 (by rfl) (by first | exact isRf_r | exact isRf_n | exact isRf_o | assumption) ?_
  refine g_iconst (v := 2) dX10_init_47 (by decide) ?_
  refine g_newI (N := 2) dX10_init_48 (by decide) (by decide) (Nat.le_of_ble_eq_true rfl) (Nat.le_of_ble_eq_true rfl) ?_
  intro b6 hn_b6
  have n6 := no_ne hn_b6 ma5
  have x6_1 := no_ne hn_b6 c1_5
  have x6_2 := no_ne hn_b6 c2_5
  have x6_3 := no_ne hn_b6 c3_5
  have x6_4 := no_ne hn_b6 c4_5
  have x6_5 := no_ne hn_b6 c5_5
  refine g_putF (ty := (.array .int)) dX10_init_50 fX10_25 (by decide +kernel) (by rfl) (by rfl) rfl (by intro q hq; cases hq; rfl) (by first | exact ma0 | exact ma1 | exact ma2 | exact ma3 | exact ma4 | exact ma5 | exact ma6 | exact ma7 | exact hr_a (Ne.symm n1) ma7 | exact hu_n1 (Ne.symm (by assumption)) (by assumption)) (by exact Nat.le_of_ble_eq_true rfl) ?_
  have fr6 : Fr h _ (ua (ua (ua (ua (ua (ua (fun _ => a) 1 b1) 2 b2) 3 b3) 4 b4) 5 b5) 6 b6) 7 := (fr5.new (b := b6) (e := oI X 2 (fun _ => 0)) hn_b6).put (j := 0) (a := a) (e := ob 10 [.ref b1, .ref b2, .int 0, .ref b3, .ref b4, .int 0, .ref b5, .int 0, .int 0, .ref b6, .int 0, .null]) (by omega) rfl
  refine g_gen (fun h6 eh6 => ?_)
  have ma6 : h6 a = some (ob 10 [.ref b1, .ref b2, .int 0, .ref b3, .ref b4, .int 0, .ref b5, .int 0, .int 0, .ref b6, .int 0, .null]) := by
    rw [eh6]
    exact hu_same
  have c6_6 : h6 b6 = some (oI X 2 (fun _ => 0)) := by
    rw [eh6]
    exact hu_n1 n6 hu_same
  have c1_6 : h6 b1 = some (oI X 643 (fun _ => 0)) := by
    rw [eh6]
    exact hu_n1 n1 (hu_n1 (Ne.symm x6_1) c1_5)
  have c2_6 : h6 b2 = some (oI X 2572 (fun _ => 0)) := by
    rw [eh6]
    exact hu_n1 n2 (hu_n1 (Ne.symm x6_2) c2_5)
  have c3_6 : h6 b3 = some (oI X 643 (fun _ => 0)) := by
    rw [eh6]
    exact hu_n1 n3 (hu_n1 (Ne.symm x6_3) c3_5)
  have c4_6 : h6 b4 = some (oI X 60 (fun _ => 0)) := by
    rw [eh6]
    exact hu_n1 n4 (hu_n1 (Ne.symm x6_4) c4_5)
  have c5_6 : h6 b5 = some (oI X 4 (fun _ => 0)) := by
    rw [eh6]
    exact hu_n1 n5 (hu_n1 (Ne.symm x6_5) c5_5)
  have fs6 : Fr h h6 (ua (ua (ua (ua (ua (ua (fun _ => a) 1 b1) 2 b2) 3 b3) 4 b4) 5 b5) 6 b6) 7 := by
    rw [eh6]
    exact fr6
  clear fr6 eh6
  have fr6 := fs6
  refine g_aload_n dX10_init_53 (by rfl) (by first | exact isRf_r | exact isRf_n | exact isRf_o | assumption) ?_
  refine g_iconst (v := 3) dX10_init_54 (by decide) ?_
  refine g_newI (N := 3) dX10_init_55 (by decide) (by decide) (Nat.le_of_ble_eq_true rfl) (Nat.le_of_ble_eq_true rfl) ?_
  intro b7 hn_b7
  have n7 := no_ne hn_b7 ma6
  have x7_1 := no_ne hn_b7 c1_6
  have x7_2 := no_ne hn_b7 c2_6
  have x7_3 := no_ne hn_b7 c3_6
  have x7_4 := no_ne hn_b7 c4_6
  have x7_5 := no_ne hn_b7 c5_6
  have x7_6 := no_ne hn_b7 c6_6
  refine g_putF (ty := (.array .int)) dX10_init_57 fX10_28 (by decide +kernel) (by rfl) (by rfl) rfl (by intro q hq; cases hq; rfl) (by first | exact ma0 | exact ma1 | exact ma2 | exact ma3 | exact ma4 | exact ma5 | exact ma6 | exact ma7 | exact hr_a (Ne.symm n1) ma7 | exact hu_n1 (Ne.symm (by assumption)) (by assumption)) (by exact Nat.le_of_ble_eq_true rfl) ?_
  have fr7 : Fr h _ (ua (ua (ua (ua (ua (ua (ua (fun _ => a) 1 b1) 2 b2) 3 b3) 4 b4) 5 b5) 6 b6) 7 b7) 8 := (fr6.new (b := b7) (e := oI X 3 (fun _ => 0)) hn_b7).put (j := 0) (a := a) (e := ob 10 [.ref b1, .ref b2, .int 0, .ref b3, .ref b4, .int 0, .ref b5, .int 0, .int 0, .ref b6, .int 0, .ref b7]) (by omega) rfl
  refine g_gen (fun h7 eh7 => ?_)
  have ma7 : h7 a = some (ob 10 [.ref b1, .ref b2, .int 0, .ref b3, .ref b4, .int 0, .ref b5, .int 0, .int 0, .ref b6, .int 0, .ref b7]) := by
    rw [eh7]
    exact hu_same
  have c7_7 : h7 b7 = some (oI X 3 (fun _ => 0)) := by
    rw [eh7]
    exact hu_n1 n7 hu_same
  have c1_7 : h7 b1 = some (oI X 643 (fun _ => 0)) := by
    rw [eh7]
    exact hu_n1 n1 (hu_n1 (Ne.symm x7_1) c1_6)
  have c2_7 : h7 b2 = some (oI X 2572 (fun _ => 0)) := by
    rw [eh7]
    exact hu_n1 n2 (hu_n1 (Ne.symm x7_2) c2_6)
  have c3_7 : h7 b3 = some (oI X 643 (fun _ => 0)) := by
    rw [eh7]
    exact hu_n1 n3 (hu_n1 (Ne.symm x7_3) c3_6)
  have c4_7 : h7 b4 = some (oI X 60 (fun _ => 0)) := by
    rw [eh7]
    exact hu_n1 n4 (hu_n1 (Ne.symm x7_4) c4_6)
  have c5_7 : h7 b5 = some (oI X 4 (fun _ => 0)) := by
    rw [eh7]
    exact hu_n1 n5 (hu_n1 (Ne.symm x7_5) c5_6)
  have c6_7 : h7 b6 = some (oI X 2 (fun _ => 0)) := by
    rw [eh7]
    exact hu_n1 n6 (hu_n1 (Ne.symm x7_6) c6_6)
  have fs7 : Fr h h7 (ua (ua (ua (ua (ua (ua (ua (fun _ => a) 1 b1) 2 b2) 3 b3) 4 b4) 5 b5) 6 b6) 7 b7) 8 := by
    rw [eh7]
    exact fr7
  clear fr7 eh7
  have fr7 := fs7
  have q1 : h7 b1 = some (oI X 643 (nr 643 zrow)) := by
    rw [nr_z]
    exact c1_7
  refine g_aload_n dX10_init_60 (by rfl) (by first | exact isRf_r | exact isRf_n | exact isRf_o | assumption) ?_
  refine g_getf dX10_init_61 fX10_7 (by first | exact ma0 | exact ma1 | exact ma2 | exact ma3 | exact ma4 | exact ma5 | exact ma6 | exact ma7 | exact hr_a (Ne.symm n1) ma7 | exact hu_n1 (Ne.symm (by assumption)) (by assumption)) (by rfl) ?_
  refine g_iconst (v := 0) dX10_init_64 (by decide) ?_
  refine g_bipush (v := 20) dX10_init_65 (by decide) ?_
  first | refine g_isH (0) dX10_init_67 (by first | rfl | exact lin3 | exact lin3a | exact linA | exact linB) (by omega) ?_ | refine g_isM (0) dX10_init_67 (by first | exact q1 | exact hr_n) (by first | rfl | exact lin3 | exact lin3a | exact linA | exact linB) (by omega) ?_
  refine g_aload_n dX10_init_68 (by rfl) (by first | exact isRf_r | exact isRf_n | exact isRf_o | assumption) ?_
  refine g_getf dX10_init_69 fX10_7 (by first | exact ma0 | exact ma1 | exact ma2 | exact ma3 | exact ma4 | exact ma5 | exact ma6 | exact ma7 | exact hr_a (Ne.symm n1) ma7 | exact hu_n1 (Ne.symm (by assumption)) (by assumption)) (by rfl) ?_
  refine g_iconst (v := 1) dX10_init_72 (by decide) ?_
  refine g_iconst (v := 5) dX10_init_73 (by decide) ?_
  first | refine g_isH (1) dX10_init_74 (by first | rfl | exact lin3 | exact lin3a | exact linA | exact linB) (by omega) ?_ | refine g_isM (1) dX10_init_74 (by first | exact q1 | exact hr_n) (by first | rfl | exact lin3 | exact lin3a | exact linA | exact linB) (by omega) ?_
  refine g_aload_n dX10_init_75 (by rfl) (by first | exact isRf_r | exact isRf_n | exact isRf_o | assumption) ?_
  refine g_getf dX10_init_76 fX10_7 (by first | exact ma0 | exact ma1 | exact ma2 | exact ma3 | exact ma4 | exact ma5 | exact ma6 | exact ma7 | exact hr_a (Ne.symm n1) ma7 | exact hu_n1 (Ne.symm (by assumption)) (by assumption)) (by rfl) ?_
  refine g_iconst (v := 2) dX10_init_79 (by decide) ?_
  refine g_sipush (v := 200) dX10_init_80 (by decide) ?_
  first | refine g_isH (2) dX10_init_83 (by first | rfl | exact lin3 | exact lin3a | exact linA | exact linB) (by omega) ?_ | refine g_isM (2) dX10_init_83 (by first | exact q1 | exact hr_n) (by first | rfl | exact lin3 | exact lin3a | exact linA | exact linB) (by omega) ?_
  refine g_aload_n dX10_init_84 (by rfl) (by first | exact isRf_r | exact isRf_n | exact isRf_o | assumption) ?_
  refine g_getf dX10_init_85 fX10_7 (by first | exact ma0 | exact ma1 | exact ma2 | exact ma3 | exact ma4 | exact ma5 | exact ma6 | exact ma7 | exact hr_a (Ne.symm n1) ma7 | exact hu_n1 (Ne.symm (by assumption)) (by assumption)) (by rfl) ?_
  refine g_iconst (v := 3) dX10_init_88 (by decide) ?_
  refine g_sipush (v := 8000) dX10_init_89 (by decide) ?_
  first | refine g_isH (3) dX10_init_92 (by first | rfl | exact lin3 | exact lin3a | exact linA | exact linB) (by omega) ?_ | refine g_isM (3) dX10_init_92 (by first | exact q1 | exact hr_n) (by first | rfl | exact lin3 | exact lin3a | exact linA | exact linB) (by omega) ?_
  refine g_aload_n dX10_init_93 (by rfl) (by first | exact isRf_r | exact isRf_n | exact isRf_o | assumption) ?_
  refine g_getf dX10_init_94 fX10_7 (by first | exact ma0 | exact ma1 | exact ma2 | exact ma3 | exact ma4 | exact ma5 | exact ma6 | exact ma7 | exact hr_a (Ne.symm n1) ma7 | exact hu_n1 (Ne.symm (by assumption)) (by assumption)) (by rfl) ?_
  refine g_iconst (v := 4) dX10_init_97 (by decide) ?_
  refine g_sipush (v := 150) dX10_init_98 (by decide) ?_
  first | refine g_isH (4) dX10_init_101 (by first | rfl | exact lin3 | exact lin3a | exact linA | exact linB) (by omega) ?_ | refine g_isM (4) dX10_init_101 (by first | exact q1 | exact hr_n) (by first | rfl | exact lin3 | exact lin3a | exact linA | exact linB) (by omega) ?_
  refine g_aload_n dX10_init_102 (by rfl) (by first | exact isRf_r | exact isRf_n | exact isRf_o | assumption) ?_
  refine g_getf dX10_init_103 fX10_7 (by first | exact ma0 | exact ma1 | exact ma2 | exact ma3 | exact ma4 | exact ma5 | exact ma6 | exact ma7 | exact hr_a (Ne.symm n1) ma7 | exact hu_n1 (Ne.symm (by assumption)) (by assumption)) (by rfl) ?_
  refine g_iconst (v := 5) dX10_init_106 (by decide) ?_
  refine g_bipush (v := 10) dX10_init_107 (by decide) ?_
  first | refine g_isH (5) dX10_init_109 (by first | rfl | exact lin3 | exact lin3a | exact linA | exact linB) (by omega) ?_ | refine g_isM (5) dX10_init_109 (by first | exact q1 | exact hr_n) (by first | rfl | exact lin3 | exact lin3a | exact linA | exact linB) (by omega) ?_
  refine g_aload_n dX10_init_110 (by rfl) (by first | exact isRf_r | exact isRf_n | exact isRf_o | assumption) ?_
  refine g_getf dX10_init_111 fX10_7 (by first | exact ma0 | exact ma1 | exact ma2 | exact ma3 | exact ma4 | exact ma5 | exact ma6 | exact ma7 | exact hr_a (Ne.symm n1) ma7 | exact hu_n1 (Ne.symm (by assumption)) (by assumption)) (by rfl) ?_
  refine g_bipush (v := 6) dX10_init_114 (by decide) ?_
  refine g_sipush (v := 2000) dX10_init_116 (by decide) ?_
  first | refine g_isH (6) dX10_init_119 (by first | rfl | exact lin3 | exact lin3a | exact linA | exact linB) (by omega) ?_ | refine g_isM (6) dX10_init_119 (by first | exact q1 | exact hr_n) (by first | rfl | exact lin3 | exact lin3a | exact linA | exact linB) (by omega) ?_
  refine g_vret dX10_init_120 rfl (Nat.le_of_ble_eq_true rfl) (Nat.le_of_ble_eq_true rfl) ?_
  rw [hr_e row0_e]
  refine ⟨rfl, ((ua (ua (ua (ua (ua (ua (ua (fun _ => a) 1 b1) 2 b2) 3 b3) 4 b4) 5 b5) 6 b6) 7 b7)), rfl, ⟨zrow, fr7.2.1, ⟨0, 0, 0, hr_a (Ne.symm n1) ma7⟩, hr_n, ⟨fun _ => 0, hr_a x2_1 c2_7, fun k j hk hj => absurd hk (by omega)⟩, ?_, ?_, ⟨zrow, ?_⟩, ⟨zrow, ?_⟩, zrow, ?_⟩, fun q hq => (hr_o (hq 1 (by omega))).trans (fr7.2.2.2 q (fun i hi => hq i (by omega))), fun i h0 h8 => fr7.1 i h0 h8⟩
  · rw [nr_z]
    exact hr_a x3_1 c3_7
  · rw [nr_z]
    exact hr_a x4_1 c4_7
  · rw [nr_z]
    exact hr_a x5_1 c5_7
  · rw [nr_z]
    exact hr_a x6_1 c6_7
  · rw [nr_z]
    exact hr_a x7_1 c7_7
