theorem g_gen {X : Cx} {own : String} {b : ByteArray} {mx : Nat} {rt : Option FieldType} {nm : String} {R : Room} {Qf : List Frame → Array Value → State → State → Prop} {c n pc : Nat} {L : List (Nat × Value)} {st : List Value} {h : Hp} (k : ∀ h1, h1 = h → G X own b mx rt nm R Qf c n pc L st h1) : G X own b mx rt nm R Qf c n pc L st h := k h rfl
def Rb (r : Nat → Int32) : Prop := (∀ l, l < 20 → bz (ltx r l 10) ∧ bz (ltx r l 11) ∧ bz (ltx r l 12)) ∧ ∀ o, o < 60 → bz (od r o 4)
def outA (A : Nat → Nat) (q : Nat) : Prop := ∀ i, i < 194 → q ≠ A i

set_option maxHeartbeats 4000000 in
set_option maxRecDepth 100000 in
theorem ct_X1_copyFrom (X : Cx) {h : Hp} {A B : Nat → Nat} {r t : Nat → Int32}  (hI : InjA A) (hD : Dj A B) (hb : Rb t) (hA : HouseAt X h A r) (hB : HouseAt X h B t) : Ct X mX1_copyFrom 3 0 0 [.ref (A 0), .ref (B 0)] h (fun u h1 => u = none ∧ HouseAt X h1 A t ∧ ∀ q, outA A q → h1 q = h q) := by
  obtain ⟨a0, a1, a2, a3, a4, a5, a6, av, al, ao⟩ := hA
  obtain ⟨b0, b1, b2, b3, b4, b5, b6, bv, bl, bo⟩ := hB
  unfold hobC at a0 b0
  have nB0_0 : B 0 ≠ A 0 := (hD 0 0 (by omega) (by omega)).symm
  have nA1_0 : A 1 ≠ A 0 := hI.ne (by omega) (by omega) (by omega)
  have nA2_0 : A 2 ≠ A 0 := hI.ne (by omega) (by omega) (by omega)
  have nA3_0 : A 3 ≠ A 0 := hI.ne (by omega) (by omega) (by omega)
  have nA4_0 : A 4 ≠ A 0 := hI.ne (by omega) (by omega) (by omega)
  have nA5_0 : A 5 ≠ A 0 := hI.ne (by omega) (by omega) (by omega)
  have nA6_0 : A 6 ≠ A 0 := hI.ne (by omega) (by omega) (by omega)
  have nA7_0 : A 7 ≠ A 0 := hI.ne (by omega) (by omega) (by omega)
  have nB1_0 : B 1 ≠ A 0 := (hD 0 1 (by omega) (by omega)).symm
  have nB2_0 : B 2 ≠ A 0 := (hD 0 2 (by omega) (by omega)).symm
  have nB3_0 : B 3 ≠ A 0 := (hD 0 3 (by omega) (by omega)).symm
  have nB4_0 : B 4 ≠ A 0 := (hD 0 4 (by omega) (by omega)).symm
  have nB5_0 : B 5 ≠ A 0 := (hD 0 5 (by omega) (by omega)).symm
  have nB6_0 : B 6 ≠ A 0 := (hD 0 6 (by omega) (by omega)).symm
  have nB7_0 : B 7 ≠ A 0 := (hD 0 7 (by omega) (by omega)).symm
  have nA5_4 : A 5 ≠ A 4 := hI.ne (by omega) (by omega) (by omega)
  have nB5_4 : B 5 ≠ A 4 := (hD 4 5 (by omega) (by omega)).symm
  have nA6_4 : A 6 ≠ A 4 := hI.ne (by omega) (by omega) (by omega)
  have nA7_4 : A 7 ≠ A 4 := hI.ne (by omega) (by omega) (by omega)
  have nB6_4 : B 6 ≠ A 4 := (hD 4 6 (by omega) (by omega)).symm
  have nB7_4 : B 7 ≠ A 4 := (hD 4 7 (by omega) (by omega)).symm
  have nA6_5 : A 6 ≠ A 5 := hI.ne (by omega) (by omega) (by omega)
  have nA7_5 : A 7 ≠ A 5 := hI.ne (by omega) (by omega) (by omega)
  have nB6_5 : B 6 ≠ A 5 := (hD 5 6 (by omega) (by omega)).symm
  have nB7_5 : B 7 ≠ A 5 := (hD 5 7 (by omega) (by omega)).symm
  have nB7_7 : B 7 ≠ A 7 := (hD 7 7 (by omega) (by omega)).symm
  have nB4_4 : B 4 ≠ A 4 := (hD 4 4 (by omega) (by omega)).symm
  have nB5_5 : B 5 ≠ A 5 := (hD 5 5 (by omega) (by omega)).symm
  have nA0_4 : A 0 ≠ A 4 := hI.ne (by omega) (by omega) (by omega)
  have nA0_5 : A 0 ≠ A 5 := hI.ne (by omega) (by omega) (by omega)
  have nA0_7 : A 0 ≠ A 7 := hI.ne (by omega) (by omega) (by omega)
  have nB0_4 : B 0 ≠ A 4 := (hD 4 0 (by omega) (by omega)).symm
  have nB0_5 : B 0 ≠ A 5 := (hD 5 0 (by omega) (by omega)).symm
  have nB0_7 : B 0 ≠ A 7 := (hD 7 0 (by omega) (by omega)).symm
  refine Ct.ofG vX1_copyFrom.1.2.2.1 (Nat.le_of_ble_eq_true rfl) ?_
  show G X RX1 cX1_copyFrom 2 none "copyFrom" (Rm 3 0 0) (Fm X (fun u h1 => u = none ∧ HouseAt X h1 A t ∧ ∀ q, outA A q → h1 q = h q) 0 0) 0 0 0 [(0, .ref (A 0)), (1, .ref (B 0))] [] h
  refine g_aload_n dX1_copyFrom_0 (by rfl) (by first | exact isRf_r | exact isRf_n | exact isRf_o | assumption) ?_
  refine g_aload_n dX1_copyFrom_1 (by rfl) (by first | exact isRf_r | exact isRf_n | exact isRf_o | assumption) ?_
  refine g_getf dX1_copyFrom_2 fX1_46 (by first | assumption | (repeat' (first | assumption | exact hu_same | exact Ne.symm (by assumption) | apply hu_n1))) (by rfl) ?_
  refine g_putf (ty := .int) dX1_copyFrom_5 fX1_46 (by decide +kernel) (by rfl) (by rfl) (by first | assumption | (repeat' (first | assumption | exact hu_same | exact Ne.symm (by assumption) | apply hu_n1))) (by exact Nat.le_of_ble_eq_true rfl) ?_
  refine g_aload_n dX1_copyFrom_8 (by rfl) (by first | exact isRf_r | exact isRf_n | exact isRf_o | assumption) ?_
  refine g_aload_n dX1_copyFrom_9 (by rfl) (by first | exact isRf_r | exact isRf_n | exact isRf_o | assumption) ?_
  refine g_getf dX1_copyFrom_10 fX1_50 (by first | assumption | (repeat' (first | assumption | exact hu_same | exact Ne.symm (by assumption) | apply hu_n1))) (by rfl) ?_
  refine g_putf (ty := .int) dX1_copyFrom_13 fX1_50 (by decide +kernel) (by rfl) (by rfl) (by first | assumption | (repeat' (first | assumption | exact hu_same | exact Ne.symm (by assumption) | apply hu_n1))) (by exact Nat.le_of_ble_eq_true rfl) ?_
  refine g_aload_n dX1_copyFrom_16 (by rfl) (by first | exact isRf_r | exact isRf_n | exact isRf_o | assumption) ?_
  refine g_aload_n dX1_copyFrom_17 (by rfl) (by first | exact isRf_r | exact isRf_n | exact isRf_o | assumption) ?_
  refine g_getf dX1_copyFrom_18 fX1_53 (by first | assumption | (repeat' (first | assumption | exact hu_same | exact Ne.symm (by assumption) | apply hu_n1))) (by rfl) ?_
  refine g_putf (ty := .int) dX1_copyFrom_21 fX1_53 (by decide +kernel) (by rfl) (by rfl) (by first | assumption | (repeat' (first | assumption | exact hu_same | exact Ne.symm (by assumption) | apply hu_n1))) (by exact Nat.le_of_ble_eq_true rfl) ?_
  refine g_aload_n dX1_copyFrom_24 (by rfl) (by first | exact isRf_r | exact isRf_n | exact isRf_o | assumption) ?_
  refine g_aload_n dX1_copyFrom_25 (by rfl) (by first | exact isRf_r | exact isRf_n | exact isRf_o | assumption) ?_
  refine g_getf dX1_copyFrom_26 fX1_56 (by first | assumption | (repeat' (first | assumption | exact hu_same | exact Ne.symm (by assumption) | apply hu_n1))) (by rfl) ?_
  refine g_putf (ty := .int) dX1_copyFrom_29 fX1_56 (by decide +kernel) (by rfl) (by rfl) (by first | assumption | (repeat' (first | assumption | exact hu_same | exact Ne.symm (by assumption) | apply hu_n1))) (by exact Nat.le_of_ble_eq_true rfl) ?_
  refine g_gen (fun h1 e1 => ?_)
  have f1 : ∀ q, q ≠ A 0 → h1 q = h q := fun q n => by rw [e1]; simp only [hu_ne n]
  have c0 : h1 (A 0) = some (ob 1 [.ref (A 1), .ref (A 2), .ref (A 3), .int (t 7), .int (t 8), .int (t 9), .int (t 10), .ref (A 4), .ref (A 5), .ref (A 6)]) := by rw [e1]; exact hu_same
  have d0 : h1 (B 0) = _ := (f1 _ nB0_0).trans b0
  have d1 : h1 (B 1) = _ := (f1 _ nB1_0).trans b1
  have d2 : h1 (B 2) = _ := (f1 _ nB2_0).trans b2
  have d3 : h1 (B 3) = _ := (f1 _ nB3_0).trans b3
  have d4 : h1 (B 4) = _ := (f1 _ nB4_0).trans b4
  have d5 : h1 (B 5) = _ := (f1 _ nB5_0).trans b5
  have c1 : h1 (A 1) = _ := (f1 _ nA1_0).trans a1
  have c2 : h1 (A 2) = _ := (f1 _ nA2_0).trans a2
  have c3 : h1 (A 3) = _ := (f1 _ nA3_0).trans a3
  have c4 : h1 (A 4) = _ := (f1 _ nA4_0).trans a4
  have c5 : h1 (A 5) = _ := (f1 _ nA5_0).trans a5
  obtain ⟨c6, c7⟩ := a6.kept (f1 _ nA6_0) (f1 _ nA7_0)
  obtain ⟨d6, d7⟩ := b6.kept (f1 _ nB6_0) (f1 _ nB7_0)
  refine g_aload_n dX1_copyFrom_32 (by rfl) (by first | exact isRf_r | exact isRf_n | exact isRf_o | assumption) ?_
  refine g_getf dX1_copyFrom_33 fX1_29 (by first | assumption | (repeat' (first | assumption | exact hu_same | exact Ne.symm (by assumption) | apply hu_n1))) (by rfl) ?_
  refine g_aload_n dX1_copyFrom_36 (by rfl) (by first | exact isRf_r | exact isRf_n | exact isRf_o | assumption) ?_
  refine g_getf dX1_copyFrom_37 fX1_29 (by first | assumption | (repeat' (first | assumption | exact hu_same | exact Ne.symm (by assumption) | apply hu_n1))) (by rfl) ?_
  refine g_cN2v dX1_copyFrom_40 lX1_59 vX9_copyRow (ct_X9_copyRow X (N := 4) (by omega) nB4_4 d4 c4) ⟨Nat.le_of_ble_eq_true rfl, Nat.le_of_ble_eq_true rfl⟩ (Nat.le_of_ble_eq_true rfl) ⟨Nat.le_of_ble_eq_true rfl, Nat.le_of_ble_eq_true rfl⟩ ?_
  refine g_aload_n dX1_copyFrom_43 (by rfl) (by first | exact isRf_r | exact isRf_n | exact isRf_o | assumption) ?_
  refine g_getf dX1_copyFrom_44 fX1_33 (by first | assumption | (repeat' (first | assumption | exact hu_same | exact Ne.symm (by assumption) | apply hu_n1))) (by rfl) ?_
  refine g_aload_n dX1_copyFrom_47 (by rfl) (by first | exact isRf_r | exact isRf_n | exact isRf_o | assumption) ?_
  refine g_getf dX1_copyFrom_48 fX1_33 (by first | assumption | (repeat' (first | assumption | exact hu_same | exact Ne.symm (by assumption) | apply hu_n1))) (by rfl) ?_
  refine g_cN2v dX1_copyFrom_51 lX1_59 vX9_copyRow (ct_X9_copyRow X (N := 4) (by omega) nB5_5 (by first | assumption | (repeat' (first | assumption | exact hu_same | exact Ne.symm (by assumption) | apply hu_n1))) (by first | assumption | (repeat' (first | assumption | exact hu_same | exact Ne.symm (by assumption) | apply hu_n1)))) ⟨Nat.le_of_ble_eq_true rfl, Nat.le_of_ble_eq_true rfl⟩ (Nat.le_of_ble_eq_true rfl) ⟨Nat.le_of_ble_eq_true rfl, Nat.le_of_ble_eq_true rfl⟩ ?_
  refine g_aload_n dX1_copyFrom_54 (by rfl) (by first | exact isRf_r | exact isRf_n | exact isRf_o | assumption) ?_
  refine g_getf dX1_copyFrom_55 fX1_39 (by first | assumption | (repeat' (first | assumption | exact hu_same | exact Ne.symm (by assumption) | apply hu_n1))) (by rfl) ?_
  refine g_aload_n dX1_copyFrom_58 (by rfl) (by first | exact isRf_r | exact isRf_n | exact isRf_o | assumption) ?_
  refine g_getf dX1_copyFrom_59 fX1_39 (by first | assumption | (repeat' (first | assumption | exact hu_same | exact Ne.symm (by assumption) | apply hu_n1))) (by rfl) ?_
  refine g_cV1v dX1_copyFrom_62 lX1_63 vX6_copyFrom (ct_X6_copyFrom X (s := A 6) (v := A 7) (s2 := B 6) (v2 := B 7) (r := r) (r2 := t) ⟨(by first | assumption | (repeat' (first | assumption | exact hu_same | exact Ne.symm (by assumption) | apply hu_n1))), (by first | assumption | (repeat' (first | assumption | exact hu_same | exact Ne.symm (by assumption) | apply hu_n1)))⟩ ⟨(by first | assumption | (repeat' (first | assumption | exact hu_same | exact Ne.symm (by assumption) | apply hu_n1))), (by first | assumption | (repeat' (first | assumption | exact hu_same | exact Ne.symm (by assumption) | apply hu_n1)))⟩ nB7_7) (by first | assumption | (repeat' (first | assumption | exact hu_same | exact Ne.symm (by assumption) | apply hu_n1))) rfl ⟨Nat.le_of_ble_eq_true rfl, Nat.le_of_ble_eq_true rfl⟩ (Nat.le_of_ble_eq_true rfl) ⟨Nat.le_of_ble_eq_true rfl, Nat.le_of_ble_eq_true rfl⟩ ?_
  refine g_gen (fun h2 e2 => ?_)
  have f2 : ∀ q, q ≠ A 4 → q ≠ A 5 → q ≠ A 7 → h2 q = h1 q := fun q n4 n5 n7 => by rw [e2]; simp only [hu_ne n4, hu_ne n5, hu_ne n7]
  have fa : ∀ i, i < 194 → i ≠ 0 → i ≠ 4 → i ≠ 5 → i ≠ 7 → h2 (A i) = h (A i) := fun i hi i0 i4 i5 i7 => (f2 _ (hI.ne hi (by omega) i4) (hI.ne hi (by omega) i5) (hI.ne hi (by omega) i7)).trans (f1 _ (hI.ne hi (by omega) i0))
  have fb : ∀ i, i < 194 → h2 (B i) = h (B i) := fun i hi => (f2 _ (hD _ _ (by omega) hi).symm (hD _ _ (by omega) hi).symm (hD _ _ (by omega) hi).symm).trans (f1 _ (hD _ _ (by omega) hi).symm)
  have g0 : h2 (A 0) = _ := (f2 _ nA0_4 nA0_5 nA0_7).trans c0
  have g4 : h2 (A 4) = some (oI X 4 (nr 4 (fun d => t (11 + d)))) := by rw [e2]; exact (by first | assumption | (repeat' (first | assumption | exact hu_same | exact Ne.symm (by assumption) | apply hu_n1)))
  have g5 : h2 (A 5) = some (oI X 4 (nr 4 (fun d => t (15 + d)))) := by rw [e2]; exact (by first | assumption | (repeat' (first | assumption | exact hu_same | exact Ne.symm (by assumption) | apply hu_n1)))
  have g7 : h2 (A 7) = some (oI X 7 (nr 7 t)) := by rw [e2]; exact (by first | assumption | (repeat' (first | assumption | exact hu_same | exact Ne.symm (by assumption) | apply hu_n1)))
  have g1 : h2 (A 1) = _ := (fa 1 (by omega) (by omega) (by omega) (by omega) (by omega)).trans a1
  have g2 : h2 (A 2) = _ := (fa 2 (by omega) (by omega) (by omega) (by omega) (by omega)).trans a2
  have g3 : h2 (A 3) = _ := (fa 3 (by omega) (by omega) (by omega) (by omega) (by omega)).trans a3
  have g6 : h2 (A 6) = some (ob 6 [.ref (A 7)]) := (fa 6 (by omega) (by omega) (by omega) (by omega) (by omega)).trans a6.1
  have q0 : h2 (B 0) = _ := (fb 0 (by omega)).trans b0
  have q1 : h2 (B 1) = _ := (fb 1 (by omega)).trans b1
  have q2 : h2 (B 2) = _ := (fb 2 (by omega)).trans b2
  have q3 : h2 (B 3) = _ := (fb 3 (by omega)).trans b3
  have gv : ∀ v, v < 6 → VatAt h2 (A (8 + v)) (vt r v) := fun v hv => (av v hv).kept (fa _ (by omega) (by omega) (by omega) (by omega) (by omega))
  have qv : ∀ v, v < 6 → VatAt h2 (B (8 + v)) (vt t v) := fun v hv => (bv v hv).kept (fb _ (by omega))
  refine g_aload_n dX1_copyFrom_65 (by rfl) (by first | exact isRf_r | exact isRf_n | exact isRf_o | assumption) ?_
  refine g_aload_n dX1_copyFrom_66 (by rfl) (by first | exact isRf_r | exact isRf_n | exact isRf_o | assumption) ?_
  refine g_getf dX1_copyFrom_67 fX1_11 (by first | assumption | (repeat' (first | assumption | exact hu_same | exact Ne.symm (by assumption) | apply hu_n1))) (by rfl) ?_
  refine g_cV1 dX1_copyFrom_70 lX1_67 vX1_copyVats (ct_X1_copyVats X hI hD g0 g1 q1 gv qv) (by first | assumption | (repeat' (first | assumption | exact hu_same | exact Ne.symm (by assumption) | apply hu_n1))) rfl ⟨Nat.le_of_ble_eq_true rfl, Nat.le_of_ble_eq_true rfl⟩ (Nat.le_of_ble_eq_true rfl) ⟨Nat.le_of_ble_eq_true rfl, Nat.le_of_ble_eq_true rfl⟩ ?_
  rintro _ h3 ⟨rfl, kv, f3⟩
  refine g_stk (st' := []) rfl ?_
  have fa3 : ∀ i, i < 194 → (i < 8 ∨ 13 < i) → h3 (A i) = h2 (A i) := fun i hi i2 => f3 _ (fun v hv => hI.ne hi (by omega) (by omega))
  have fb3 : ∀ i, i < 194 → h3 (B i) = h2 (B i) := fun i hi => f3 _ (fun v hv => (hD _ _ (by omega) hi).symm)
  have l0 : h3 (A 0) = _ := (fa3 0 (by omega) (by omega)).trans g0
  have l2 : h3 (A 2) = _ := (fa3 2 (by omega) (by omega)).trans g2
  have p0 : h3 (B 0) = _ := (fb3 0 (by omega)).trans q0
  have p2 : h3 (B 2) = _ := (fb3 2 (by omega)).trans q2
  have ll : ∀ l, l < 20 → LotAt X h3 (A (14 + 3 * l)) (A (15 + 3 * l)) (A (16 + 3 * l)) (ltx r l) := fun l hl => (al l hl).kept ((fa3 _ (by omega) (by omega)).trans (fa _ (by omega) (by omega) (by omega) (by omega) (by omega))) ((fa3 _ (by omega) (by omega)).trans (fa _ (by omega) (by omega) (by omega) (by omega) (by omega))) ((fa3 _ (by omega) (by omega)).trans (fa _ (by omega) (by omega) (by omega) (by omega) (by omega)))
  have pl : ∀ l, l < 20 → LotAt X h3 (B (14 + 3 * l)) (B (15 + 3 * l)) (B (16 + 3 * l)) (ltx t l) := fun l hl => (bl l hl).kept ((fb3 _ (by omega)).trans (fb _ (by omega))) ((fb3 _ (by omega)).trans (fb _ (by omega))) ((fb3 _ (by omega)).trans (fb _ (by omega)))
  refine g_aload_n dX1_copyFrom_73 (by rfl) (by first | exact isRf_r | exact isRf_n | exact isRf_o | assumption) ?_
  refine g_aload_n dX1_copyFrom_74 (by rfl) (by first | exact isRf_r | exact isRf_n | exact isRf_o | assumption) ?_
  refine g_getf dX1_copyFrom_75 fX1_19 (by first | assumption | (repeat' (first | assumption | exact hu_same | exact Ne.symm (by assumption) | apply hu_n1))) (by rfl) ?_
  refine g_cV1 dX1_copyFrom_78 lX1_71 vX1_copyLots (ct_X1_copyLots X hI hD l0 l2 p2 ll pl hb.1) (by first | assumption | (repeat' (first | assumption | exact hu_same | exact Ne.symm (by assumption) | apply hu_n1))) rfl ⟨Nat.le_of_ble_eq_true rfl, Nat.le_of_ble_eq_true rfl⟩ (Nat.le_of_ble_eq_true rfl) ⟨Nat.le_of_ble_eq_true rfl, Nat.le_of_ble_eq_true rfl⟩ ?_
  rintro _ h4 ⟨rfl, kl, f4⟩
  refine g_stk (st' := []) rfl ?_
  have fa4 : ∀ i, i < 194 → (i < 14 ∨ 73 < i) → h4 (A i) = h3 (A i) := fun i hi i2 => f4 _ (fun v hv => ⟨hI.ne hi (by omega) (by omega), hI.ne hi (by omega) (by omega), hI.ne hi (by omega) (by omega)⟩)
  have fb4 : ∀ i, i < 194 → h4 (B i) = h3 (B i) := fun i hi => f4 _ (fun v hv => ⟨(hD _ _ (by omega) hi).symm, (hD _ _ (by omega) hi).symm, (hD _ _ (by omega) hi).symm⟩)
  have u0 : h4 (A 0) = _ := (fa4 0 (by omega) (by omega)).trans l0
  have u3 : h4 (A 3) = _ := (fa4 3 (by omega) (by omega)).trans ((fa3 3 (by omega) (by omega)).trans g3)
  have w0 : h4 (B 0) = _ := (fb4 0 (by omega)).trans p0
  have w3 : h4 (B 3) = _ := (fb4 3 (by omega)).trans ((fb3 3 (by omega)).trans q3)
  have uo : ∀ o, o < 60 → OrdAt X h4 (A (74 + 2 * o)) (A (75 + 2 * o)) (od r o) := fun o hl => (ao o hl).kept ((fa4 _ (by omega) (by omega)).trans ((fa3 _ (by omega) (by omega)).trans (fa _ (by omega) (by omega) (by omega) (by omega) (by omega)))) ((fa4 _ (by omega) (by omega)).trans ((fa3 _ (by omega) (by omega)).trans (fa _ (by omega) (by omega) (by omega) (by omega) (by omega))))
  have wo : ∀ o, o < 60 → OrdAt X h4 (B (74 + 2 * o)) (B (75 + 2 * o)) (od t o) := fun o hl => (bo o hl).kept ((fb4 _ (by omega)).trans ((fb3 _ (by omega)).trans (fb _ (by omega)))) ((fb4 _ (by omega)).trans ((fb3 _ (by omega)).trans (fb _ (by omega))))
  refine g_aload_n dX1_copyFrom_81 (by rfl) (by first | exact isRf_r | exact isRf_n | exact isRf_o | assumption) ?_
  refine g_aload_n dX1_copyFrom_82 (by rfl) (by first | exact isRf_r | exact isRf_n | exact isRf_o | assumption) ?_
  refine g_getf dX1_copyFrom_83 fX1_25 (by first | assumption | (repeat' (first | assumption | exact hu_same | exact Ne.symm (by assumption) | apply hu_n1))) (by rfl) ?_
  refine g_cV1 dX1_copyFrom_86 lX1_75 vX1_copyOrders (ct_X1_copyOrders X hI hD u0 u3 w3 uo wo hb.2) (by first | assumption | (repeat' (first | assumption | exact hu_same | exact Ne.symm (by assumption) | apply hu_n1))) rfl ⟨Nat.le_of_ble_eq_true rfl, Nat.le_of_ble_eq_true rfl⟩ (Nat.le_of_ble_eq_true rfl) ⟨Nat.le_of_ble_eq_true rfl, Nat.le_of_ble_eq_true rfl⟩ ?_
  rintro _ h5 ⟨rfl, ko, f5⟩
  refine g_stk (st' := []) rfl ?_
  have fa5 : ∀ i, i < 74 → h5 (A i) = h4 (A i) := fun i hi => f5 _ (fun v hv => ⟨hI.ne (by omega) (by omega) (by omega), hI.ne (by omega) (by omega) (by omega)⟩)
  have e5 : ∀ i, i < 8 → h5 (A i) = h2 (A i) := fun i hi => (fa5 i (by omega)).trans ((fa4 i (by omega) (by omega)).trans (fa3 i (by omega) (by omega)))
  refine g_vret dX1_copyFrom_89 rfl (Nat.le_refl _) (Nat.le_refl _) ?_
  refine ⟨rfl, ⟨(e5 0 (by omega)).trans g0, (e5 1 (by omega)).trans g1, (e5 2 (by omega)).trans g2, (e5 3 (by omega)).trans g3, (e5 4 (by omega)).trans g4, (e5 5 (by omega)).trans g5, ⟨(e5 6 (by omega)).trans g6, (e5 7 (by omega)).trans g7⟩, ?_, ?_, ko⟩, ?_⟩
  · exact fun v hv => (kv v hv).kept ((fa5 _ (by omega)).trans (fa4 _ (by omega) (by omega)))
  · exact fun l hl => (kl l hl).kept (fa5 _ (by omega)) (fa5 _ (by omega)) (fa5 _ (by omega))
  · intro q hq
    exact (f5 q (fun v hv => ⟨hq _ (by omega), hq _ (by omega)⟩)).trans ((f4 q (fun v hv => ⟨hq _ (by omega), hq _ (by omega), hq _ (by omega)⟩)).trans ((f3 q (fun v hv => hq _ (by omega))).trans ((f2 q (hq _ (by omega)) (hq _ (by omega)) (hq _ (by omega))).trans (f1 q (hq _ (by omega))))))

theorem HouseAt.vat {X : Cx} {h h1 : Hp} {A : Nat → Nat} {r r2 : Nat → Int32} {v : Nat} {y : Nat → Int32} (hI : InjA A) (k : HouseAt X h A r) (hv : v < 6) (hy : VatAt h1 (A (8 + v)) y) (f : ∀ q, q ≠ A (8 + v) → h1 q = h q) (e1 : ∀ j, j < 4 → y j = r2 (19 + 4 * v + j)) (e2 : ∀ p, p < 643 → (p < 19 + 4 * v ∨ 23 + 4 * v ≤ p) → r p = r2 p) : HouseAt X h1 A r2 := by
  have n : ∀ i, i < 194 → i ≠ 8 + v → h1 (A i) = h (A i) := fun i hi hn => f _ (hI.ne hi (by omega) hn)
  obtain ⟨k0, k1, k2, k3, k4, k5, k6, kv, kl, ko⟩ := k
  refine ⟨?_, (n 1 (by omega) (by omega)).trans k1, (n 2 (by omega) (by omega)).trans k2, (n 3 (by omega) (by omega)).trans k3, ?_, ?_, (k6.kept (n _ (by omega) (by omega)) (n _ (by omega) (by omega))).ext (fun j hj => e2 _ (by omega) (by omega)), fun w hw => ?_, fun l hl => ((kl l hl).kept (n _ (by omega) (by omega)) (n _ (by omega) (by omega)) (n _ (by omega) (by omega))).ext (fun j hj => e2 _ (by omega) (by omega)), fun o ho => ((ko o ho).kept (n _ (by omega) (by omega)) (n _ (by omega) (by omega))).ext (fun j hj => e2 _ (by omega) (by omega))⟩
  · rw [n 0 (by omega) (by omega), k0]
    unfold hobC
    rw [e2 7 (by omega) (by omega), e2 8 (by omega) (by omega), e2 9 (by omega) (by omega), e2 10 (by omega) (by omega)]
  · rw [n 4 (by omega) (by omega), k4, nr_ext (fun j hj => e2 (11 + j) (by omega) (by omega))]
  · rw [n 5 (by omega) (by omega), k5, nr_ext (fun j hj => e2 (15 + j) (by omega) (by omega))]
  · by_cases z : w = v
    · subst z
      exact hy.ext e1
    · exact ((kv w hw).kept (n _ (by omega) (by omega))).ext (fun j hj => e2 _ (by omega) (by omega))
theorem HouseAt.lot {X : Cx} {h h1 : Hp} {A : Nat → Nat} {r r2 : Nat → Int32} {l : Nat} {x : Nat → Int32} (hI : InjA A) (k : HouseAt X h A r) (hl : l < 20) (hx : LotAt X h1 (A (14 + 3 * l)) (A (15 + 3 * l)) (A (16 + 3 * l)) x) (f : ∀ q, q ≠ A (14 + 3 * l) → q ≠ A (15 + 3 * l) → q ≠ A (16 + 3 * l) → h1 q = h q) (e1 : ∀ j, j < 15 → x j = r2 (43 + 15 * l + j)) (e2 : ∀ p, p < 643 → (p < 43 + 15 * l ∨ 58 + 15 * l ≤ p) → r p = r2 p) : HouseAt X h1 A r2 := by
  have n : ∀ i, i < 194 → (i < 14 + 3 * l ∨ 17 + 3 * l ≤ i) → h1 (A i) = h (A i) := fun i hi hn => f _ (hI.ne hi (by omega) (by omega)) (hI.ne hi (by omega) (by omega)) (hI.ne hi (by omega) (by omega))
  obtain ⟨k0, k1, k2, k3, k4, k5, k6, kv, kl, ko⟩ := k
  refine ⟨?_, (n 1 (by omega) (by omega)).trans k1, (n 2 (by omega) (by omega)).trans k2, (n 3 (by omega) (by omega)).trans k3, ?_, ?_, (k6.kept (n _ (by omega) (by omega)) (n _ (by omega) (by omega))).ext (fun j hj => e2 _ (by omega) (by omega)), fun w hw => ((kv w hw).kept (n _ (by omega) (by omega))).ext (fun j hj => e2 _ (by omega) (by omega)), fun w hw => ?_, fun o ho => ((ko o ho).kept (n _ (by omega) (by omega)) (n _ (by omega) (by omega))).ext (fun j hj => e2 _ (by omega) (by omega))⟩
  · rw [n 0 (by omega) (by omega), k0]
    unfold hobC
    rw [e2 7 (by omega) (by omega), e2 8 (by omega) (by omega), e2 9 (by omega) (by omega), e2 10 (by omega) (by omega)]
  · rw [n 4 (by omega) (by omega), k4, nr_ext (fun j hj => e2 (11 + j) (by omega) (by omega))]
  · rw [n 5 (by omega) (by omega), k5, nr_ext (fun j hj => e2 (15 + j) (by omega) (by omega))]
  · by_cases z : w = l
    · subst z
      exact hx.ext e1
    · exact ((kl w hw).kept (n _ (by omega) (by omega)) (n _ (by omega) (by omega)) (n _ (by omega) (by omega))).ext (fun j hj => e2 _ (by omega) (by omega))
theorem HouseAt.ord {X : Cx} {h h1 : Hp} {A : Nat → Nat} {r r2 : Nat → Int32} {o : Nat} {x : Nat → Int32} (hI : InjA A) (k : HouseAt X h A r) (ho : o < 60) (hx : OrdAt X h1 (A (74 + 2 * o)) (A (75 + 2 * o)) x) (f : ∀ q, q ≠ A (74 + 2 * o) → q ≠ A (75 + 2 * o) → h1 q = h q) (e1 : ∀ j, j < 5 → x j = r2 (343 + 5 * o + j)) (e2 : ∀ p, p < 643 → (p < 343 + 5 * o ∨ 348 + 5 * o ≤ p) → r p = r2 p) : HouseAt X h1 A r2 := by
  have n : ∀ i, i < 194 → (i < 74 + 2 * o ∨ 76 + 2 * o ≤ i) → h1 (A i) = h (A i) := fun i hi hn => f _ (hI.ne hi (by omega) (by omega)) (hI.ne hi (by omega) (by omega))
  obtain ⟨k0, k1, k2, k3, k4, k5, k6, kv, kl, ko⟩ := k
  refine ⟨?_, (n 1 (by omega) (by omega)).trans k1, (n 2 (by omega) (by omega)).trans k2, (n 3 (by omega) (by omega)).trans k3, ?_, ?_, (k6.kept (n _ (by omega) (by omega)) (n _ (by omega) (by omega))).ext (fun j hj => e2 _ (by omega) (by omega)), fun w hw => ((kv w hw).kept (n _ (by omega) (by omega))).ext (fun j hj => e2 _ (by omega) (by omega)), fun w hw => ((kl w hw).kept (n _ (by omega) (by omega)) (n _ (by omega) (by omega)) (n _ (by omega) (by omega))).ext (fun j hj => e2 _ (by omega) (by omega)), fun w hw => ?_⟩
  · rw [n 0 (by omega) (by omega), k0]
    unfold hobC
    rw [e2 7 (by omega) (by omega), e2 8 (by omega) (by omega), e2 9 (by omega) (by omega), e2 10 (by omega) (by omega)]
  · rw [n 4 (by omega) (by omega), k4, nr_ext (fun j hj => e2 (11 + j) (by omega) (by omega))]
  · rw [n 5 (by omega) (by omega), k5, nr_ext (fun j hj => e2 (15 + j) (by omega) (by omega))]
  · by_cases z : w = o
    · subst z
      exact hx.ext e1
    · exact ((ko w hw).kept (n _ (by omega) (by omega)) (n _ (by omega) (by omega))).ext (fun j hj => e2 _ (by omega) (by omega))
/-- the house's own numbers, its two rows of dye, its settings -/
theorem HouseAt.own {X : Cx} {h h1 : Hp} {A : Nat → Nat} {r r2 : Nat → Int32} (hI : InjA A) (k : HouseAt X h A r) (k0 : h1 (A 0) = some (ob 1 (hobC A r2))) (k4 : h1 (A 4) = some (oI X 4 (nr 4 (fun d => r2 (11 + d))))) (k5 : h1 (A 5) = some (oI X 4 (nr 4 (fun d => r2 (15 + d))))) (k7 : h1 (A 7) = some (oI X 7 (nr 7 r2))) (f : ∀ q, q ≠ A 0 → q ≠ A 4 → q ≠ A 5 → q ≠ A 7 → h1 q = h q) (e2 : ∀ p, p < 643 → 19 ≤ p → r p = r2 p) : HouseAt X h1 A r2 := by
  have n : ∀ i, i < 194 → i ≠ 0 → i ≠ 4 → i ≠ 5 → i ≠ 7 → h1 (A i) = h (A i) := fun i hi i0 i4 i5 i7 => f _ (hI.ne hi (by omega) i0) (hI.ne hi (by omega) i4) (hI.ne hi (by omega) i5) (hI.ne hi (by omega) i7)
  obtain ⟨-, k1, k2, k3, -, -, k6, kv, kl, ko⟩ := k
  exact ⟨k0, (n 1 (by omega) (by omega) (by omega) (by omega) (by omega)).trans k1, (n 2 (by omega) (by omega) (by omega) (by omega) (by omega)).trans k2, (n 3 (by omega) (by omega) (by omega) (by omega) (by omega)).trans k3, k4, k5, ⟨(n 6 (by omega) (by omega) (by omega) (by omega) (by omega)).trans k6.1, k7⟩, fun w hw => ((kv w hw).kept (n _ (by omega) (by omega) (by omega) (by omega) (by omega))).ext (fun j hj => e2 _ (by omega) (by omega)), fun l hl => ((kl l hl).kept (n _ (by omega) (by omega) (by omega) (by omega) (by omega)) (n _ (by omega) (by omega) (by omega) (by omega) (by omega)) (n _ (by omega) (by omega) (by omega) (by omega) (by omega))).ext (fun j hj => e2 _ (by omega) (by omega)), fun o ho => ((ko o ho).kept (n _ (by omega) (by omega) (by omega) (by omega) (by omega)) (n _ (by omega) (by omega) (by omega) (by omega) (by omega))).ext (fun j hj => e2 _ (by omega) (by omega))⟩
