def bz (x : Int32) : Prop := x = 0 ∨ x = 1
theorem lot_al {X : Cx} {h : Hp} {a af al : Nat} {x : Nat → Int32} (k : LotAt X h a af al x) : a ≠ af ∧ a ≠ al := ⟨ne_oo k.1 k.2.1, ne_oo k.1 k.2.2⟩
theorem ne_ob {h : Hp} {a b ci cj : Nat} {fs gs : List Value} (h1 : h a = some (ob ci fs)) (h2 : h b = some (ob cj gs)) (hc : ci ≠ cj) : a ≠ b := by
  intro e
  subst e
  rw [h1] at h2
  simp [ob] at h2
  exact hc h2.1
theorem ne_ii {X : Cx} {h : Hp} {a b n m : Nat} {f g : Nat → Int32} (h1 : h a = some (oI X n f)) (h2 : h b = some (oI X m g)) (hc : n ≠ m) : a ≠ b := by
  intro e
  subst e
  rw [h1] at h2
  simp [oI] at h2
  exact hc h2.1
theorem upd_s {f : Nat → Int32} {k : Nat} {x : Int32} : upd f k x k = x := by simp [upd]
theorem upd_n {f : Nat → Int32} {k j : Nat} {x : Int32} (h : j ≠ k) : upd f k x j = f j := by simp [upd, h]
theorem upd_self {f : Nat → Int32} {k : Nat} : upd f k (f k) = f := by
  funext j
  by_cases e : j = k
  · subst e
    exact upd_s
  · exact upd_n e
def shF (x : Nat → Int32) (j : Nat) : Int32 := (1000 * (x (2 + j) + x (6 + j)).toInt64 / (x 1).toInt64).toInt32
def depC (x : Nat → Int32) : Int32 := (1000 * (sumI (fun j => x (2 + j)) 4 + sumI (fun j => x (6 + j)) 4).toInt64 / (x 1).toInt64).toInt32
theorem sumI_nr {g : Nat → Int32} {n : Nat} : ∀ k, k ≤ n → sumI (nr n g) k = sumI g k
  | 0, _ => rfl
  | k + 1, h => by
    show sumI (nr n g) k + nr n g k = sumI g k + g k
    rw [sumI_nr k (by omega), nr_lt (by omega)]
def takF (r0 : Int32) (x : Nat → Int32) (g l : Int32) : Int32 := (g.toInt64 * (((x 0).toInt64 + 1) * (x 1).toInt64) / (((x 0).toInt64 + 1) * (x 1).toInt64 + r0.toInt64 * l.toInt64)).toInt32
def dist (a b : Int32) : Int32 := if a < b then b - a else a - b
def fit (x o r : Nat → Int32) : Prop := x 11 = 0 ∧ ∀ d, d < 4 → dist (shF x d) (o d) ≤ r 4
theorem fit_dec (x o r : Nat → Int32) : ∃ b : Bool, (b = true ↔ fit x o r) := by
  by_cases h : fit x o r
  · exact ⟨true, by simp [h]⟩
  · exact ⟨false, by simp [h]⟩
theorem clo1 {x : Int32} (h : bz x) (c : ¬ x = 1) : (1 : Int64) = x.toInt64 + 1 := by
  rcases h with rfl | rfl
  · decide
  · exact absurd rfl c
theorem clo2 {x : Int32} (c : x = 1) : (2 : Int64) = x.toInt64 + 1 := by
  subst c
  decide
theorem l_mul {a b : Int64} {A B : Int} (h1 : 0 ≤ a.toInt) (h2 : a.toInt ≤ A) (h3 : 0 ≤ b.toInt) (h4 : b.toInt ≤ B) (h5 : A * B < 9223372036854775808) : (a * b).toInt = a.toInt * b.toInt ∧ 0 ≤ (a * b).toInt ∧ (a * b).toInt ≤ A * B := by
  have p1 : 0 ≤ a.toInt * b.toInt := Int.mul_nonneg h1 h3
  have p2 : a.toInt * b.toInt ≤ A * B := Int.mul_le_mul h2 h4 h3 (by omega)
  have e : (a * b).toInt = a.toInt * b.toInt := by
    rw [Int64.toInt_mul]
    exact Int.bmod_eq_of_le (by omega) (by omega)
  exact ⟨e, by rw [e]; exact p1, by rw [e]; exact p2⟩
theorem l_add {a b : Int64} (h1 : -4611686018427387904 ≤ a.toInt) (h2 : a.toInt ≤ 4611686018427387000) (h3 : -4611686018427387904 ≤ b.toInt) (h4 : b.toInt ≤ 4611686018427387000) : (a + b).toInt = a.toInt + b.toInt := by
  rw [Int64.toInt_add]
  exact Int.bmod_eq_of_le (by omega) (by omega)
theorem bz_i {x : Int32} (h : bz x) : 0 ≤ x.toInt ∧ x.toInt ≤ 1 := by rcases h with rfl | rfl <;> decide
/-- a lot, a bath and a vat as the house has them -/
def Dok (r0 l : Int32) (x : Nat → Int32) : Prop := bz (x 0) ∧ 0 < (x 1).toInt ∧ (x 1).toInt ≤ 5000 ∧ 0 < r0.toInt ∧ r0.toInt ≤ 100 ∧ 0 < l.toInt ∧ l.toInt ≤ 1000
theorem Dok.all {r0 l : Int32} {x : Nat → Int32} (k : Dok r0 l x) : (((x 0).toInt64 + 1) * (x 1).toInt64).toInt = ((x 0).toInt + 1) * (x 1).toInt ∧ (((x 0).toInt64 + 1) * (x 1).toInt64 + r0.toInt64 * l.toInt64).toInt = ((x 0).toInt + 1) * (x 1).toInt + r0.toInt * l.toInt ∧ 0 < ((x 0).toInt + 1) * (x 1).toInt ∧ ((x 0).toInt + 1) * (x 1).toInt ≤ 10000 ∧ 0 < r0.toInt * l.toInt ∧ r0.toInt * l.toInt ≤ 100000 := by
  obtain ⟨k1, k2, k3, k4, k5, k6, k7⟩ := k
  have b1 := bz_i k1
  have e1 : ((x 0).toInt64 + 1).toInt = (x 0).toInt + 1 := by
    rw [l_add (by rw [Int32.toInt_toInt64]; omega) (by rw [Int32.toInt_toInt64]; omega) (by decide) (by decide), Int32.toInt_toInt64]
    rfl
  have e2 := l_mul (a := (x 0).toInt64 + 1) (b := (x 1).toInt64) (A := 2) (B := 5000) (by omega) (by omega) (by rw [Int32.toInt_toInt64]; omega) (by rw [Int32.toInt_toInt64]; omega) (by decide)
  have e3 := l_mul (a := r0.toInt64) (b := l.toInt64) (A := 100) (B := 1000) (by rw [Int32.toInt_toInt64]; omega) (by rw [Int32.toInt_toInt64]; omega) (by rw [Int32.toInt_toInt64]; omega) (by rw [Int32.toInt_toInt64]; omega) (by decide)
  have e4 := l_add (a := ((x 0).toInt64 + 1) * (x 1).toInt64) (b := r0.toInt64 * l.toInt64) (by omega) (by omega) (by omega) (by omega)
  have p1 : 0 < ((x 0).toInt + 1) * (x 1).toInt := Int.mul_pos (by omega) (by omega)
  have p2 : 0 < r0.toInt * l.toInt := Int.mul_pos (by omega) (by omega)
  simp only [Int32.toInt_toInt64] at e2 e3
  rw [e1] at e2
  refine ⟨e2.1, by rw [e4, e2.1, e3.1], p1, ?_, p2, ?_⟩
  · rw [← e2.1]; omega
  · rw [← e3.1]; omega
theorem Dok.pos {r0 l : Int32} {x : Nat → Int32} (k : Dok r0 l x) : ¬ lg_cmp (((x 0).toInt64 + 1) * (x 1).toInt64 + r0.toInt64 * l.toInt64) 0 ≤ 0 := by
  obtain ⟨-, h2, h3, -, h4, -⟩ := k.all
  rw [lg_cmp_le, Int64.le_iff_toInt_le, h2]
  have : (0 : Int64).toInt = 0 := rfl
  omega
theorem Dok.nz {r0 l : Int32} {x : Nat → Int32} (k : Dok r0 l x) : ¬ ((x 0).toInt64 + 1) * (x 1).toInt64 + r0.toInt64 * l.toInt64 = 0 := by
  obtain ⟨-, h2, h3, -, h4, -⟩ := k.all
  intro e
  rw [e] at h2
  have : (0 : Int64).toInt = 0 := rfl
  omega

set_option maxHeartbeats 4000000 in
set_option maxRecDepth 100000 in
theorem ct_X2_copyFrom (X : Cx) {h : Hp} {a af al b bf bl : Nat} {x z : Nat → Int32}  (hx : LotAt X h a af al x) (hz : LotAt X h b bf bl z) (hb0 : bz (z 10)) (hb1 : bz (z 11)) (hb2 : bz (z 12)) (n1 : b ≠ a) (n2 : bf ≠ af) (n3 : bl ≠ al) (n4 : bf ≠ al) (n5 : bl ≠ af) (n6 : af ≠ al) : Ct X mX2_copyFrom 1 0 0 [.ref a, .ref b] h (fun u h1 => u = none ∧ LotAt X h1 a af al z ∧ ∀ q, q ≠ a → q ≠ af → q ≠ al → h1 q = h q) := by
  have l0 := hx
  obtain ⟨l1, l2, l3⟩ := l0
  unfold lotC at l1
  unfold fixA at l2
  unfold looA at l3
  have k0 := hz
  obtain ⟨k1, k2, k3⟩ := k0
  unfold lotC at k1
  unfold fixA at k2
  unfold looA at k3
  have a1 := ne_oo l1 l2
  have a2 := ne_oo l1 l3
  have a3 := ne_oo l1 k2
  have a4 := ne_oo l1 k3
  have a5 := ne_oo k1 l2
  have a6 := ne_oo k1 l3
  refine Ct.ofG vX2_copyFrom.1.2.2.1 (Nat.le_of_ble_eq_true rfl) ?_
  show G X RX2 cX2_copyFrom 2 none "copyFrom" (Rm 1 0 0) (Fm X (fun u h1 => u = none ∧ LotAt X h1 a af al z ∧ ∀ q, q ≠ a → q ≠ af → q ≠ al → h1 q = h q) 0 0) 0 0 0 [(0, .ref a), (1, .ref b)] [] h
  refine g_aload_n dX2_copyFrom_0 (by rfl) (by first | exact isRf_r | exact isRf_n | exact isRf_o | assumption) ?_
  refine g_aload_n dX2_copyFrom_1 (by rfl) (by first | exact isRf_r | exact isRf_n | exact isRf_o | assumption) ?_
  refine g_getf dX2_copyFrom_2 fX2_22 (by first | assumption | (repeat' (first | assumption | exact hu_same | exact Ne.symm (by assumption) | apply hu_n1))) (by rfl) ?_
  refine g_putf (ty := .int) dX2_copyFrom_5 fX2_22 (by decide +kernel) (by rfl) (by rfl) (by first | assumption | (repeat' (first | assumption | exact hu_same | exact Ne.symm (by assumption) | apply hu_n1))) (by exact Nat.le_of_ble_eq_true rfl) ?_
  refine g_aload_n dX2_copyFrom_8 (by rfl) (by first | exact isRf_r | exact isRf_n | exact isRf_o | assumption) ?_
  refine g_aload_n dX2_copyFrom_9 (by rfl) (by first | exact isRf_r | exact isRf_n | exact isRf_o | assumption) ?_
  refine g_getf dX2_copyFrom_10 fX2_25 (by first | assumption | (repeat' (first | assumption | exact hu_same | exact Ne.symm (by assumption) | apply hu_n1))) (by rfl) ?_
  refine g_putf (ty := .int) dX2_copyFrom_13 fX2_25 (by decide +kernel) (by rfl) (by rfl) (by first | assumption | (repeat' (first | assumption | exact hu_same | exact Ne.symm (by assumption) | apply hu_n1))) (by exact Nat.le_of_ble_eq_true rfl) ?_
  refine g_aload_n dX2_copyFrom_16 (by rfl) (by first | exact isRf_r | exact isRf_n | exact isRf_o | assumption) ?_
  refine g_aload_n dX2_copyFrom_17 (by rfl) (by first | exact isRf_r | exact isRf_n | exact isRf_o | assumption) ?_
  refine g_getf dX2_copyFrom_18 fX2_28 (by first | assumption | (repeat' (first | assumption | exact hu_same | exact Ne.symm (by assumption) | apply hu_n1))) (by rfl) ?_
  refine g_putf (ty := .boolean) dX2_copyFrom_21 fX2_28 (by decide +kernel) (bz_n hb0) (bz_f hb0) (by first | assumption | (repeat' (first | assumption | exact hu_same | exact Ne.symm (by assumption) | apply hu_n1))) (by exact Nat.le_of_ble_eq_true rfl) ?_
  refine g_aload_n dX2_copyFrom_24 (by rfl) (by first | exact isRf_r | exact isRf_n | exact isRf_o | assumption) ?_
  refine g_aload_n dX2_copyFrom_25 (by rfl) (by first | exact isRf_r | exact isRf_n | exact isRf_o | assumption) ?_
  refine g_getf dX2_copyFrom_26 fX2_32 (by first | assumption | (repeat' (first | assumption | exact hu_same | exact Ne.symm (by assumption) | apply hu_n1))) (by rfl) ?_
  refine g_putf (ty := .boolean) dX2_copyFrom_29 fX2_32 (by decide +kernel) (bz_n hb1) (bz_f hb1) (by first | assumption | (repeat' (first | assumption | exact hu_same | exact Ne.symm (by assumption) | apply hu_n1))) (by exact Nat.le_of_ble_eq_true rfl) ?_
  refine g_aload_n dX2_copyFrom_32 (by rfl) (by first | exact isRf_r | exact isRf_n | exact isRf_o | assumption) ?_
  refine g_aload_n dX2_copyFrom_33 (by rfl) (by first | exact isRf_r | exact isRf_n | exact isRf_o | assumption) ?_
  refine g_getf dX2_copyFrom_34 fX2_35 (by first | assumption | (repeat' (first | assumption | exact hu_same | exact Ne.symm (by assumption) | apply hu_n1))) (by rfl) ?_
  refine g_putf (ty := .boolean) dX2_copyFrom_37 fX2_35 (by decide +kernel) (bz_n hb2) (bz_f hb2) (by first | assumption | (repeat' (first | assumption | exact hu_same | exact Ne.symm (by assumption) | apply hu_n1))) (by exact Nat.le_of_ble_eq_true rfl) ?_
  refine g_aload_n dX2_copyFrom_40 (by rfl) (by first | exact isRf_r | exact isRf_n | exact isRf_o | assumption) ?_
  refine g_aload_n dX2_copyFrom_41 (by rfl) (by first | exact isRf_r | exact isRf_n | exact isRf_o | assumption) ?_
  refine g_getf dX2_copyFrom_42 fX2_11 (by first | assumption | (repeat' (first | assumption | exact hu_same | exact Ne.symm (by assumption) | apply hu_n1))) (by rfl) ?_
  refine g_putf (ty := .int) dX2_copyFrom_45 fX2_11 (by decide +kernel) (by rfl) (by rfl) (by first | assumption | (repeat' (first | assumption | exact hu_same | exact Ne.symm (by assumption) | apply hu_n1))) (by exact Nat.le_of_ble_eq_true rfl) ?_
  refine g_aload_n dX2_copyFrom_48 (by rfl) (by first | exact isRf_r | exact isRf_n | exact isRf_o | assumption) ?_
  refine g_aload_n dX2_copyFrom_49 (by rfl) (by first | exact isRf_r | exact isRf_n | exact isRf_o | assumption) ?_
  refine g_getf dX2_copyFrom_50 fX2_38 (by first | assumption | (repeat' (first | assumption | exact hu_same | exact Ne.symm (by assumption) | apply hu_n1))) (by rfl) ?_
  refine g_putf (ty := .int) dX2_copyFrom_53 fX2_38 (by decide +kernel) (by rfl) (by rfl) (by first | assumption | (repeat' (first | assumption | exact hu_same | exact Ne.symm (by assumption) | apply hu_n1))) (by exact Nat.le_of_ble_eq_true rfl) ?_
  refine g_aload_n dX2_copyFrom_56 (by rfl) (by first | exact isRf_r | exact isRf_n | exact isRf_o | assumption) ?_
  refine g_getf dX2_copyFrom_57 fX2_15 (by first | assumption | (repeat' (first | assumption | exact hu_same | exact Ne.symm (by assumption) | apply hu_n1))) (by rfl) ?_
  refine g_aload_n dX2_copyFrom_60 (by rfl) (by first | exact isRf_r | exact isRf_n | exact isRf_o | assumption) ?_
  refine g_getf dX2_copyFrom_61 fX2_15 (by first | assumption | (repeat' (first | assumption | exact hu_same | exact Ne.symm (by assumption) | apply hu_n1))) (by rfl) ?_
  refine g_cN2v dX2_copyFrom_64 lX2_41 vX9_copyRow (ct_X9_copyRow X (N := 4) (by omega) n2 (by first | assumption | (repeat' (first | assumption | exact hu_same | exact Ne.symm (by assumption) | apply hu_n1))) (by first | assumption | (repeat' (first | assumption | exact hu_same | exact Ne.symm (by assumption) | apply hu_n1)))) ⟨Nat.le_of_ble_eq_true rfl, Nat.le_of_ble_eq_true rfl⟩ (Nat.le_of_ble_eq_true rfl) ⟨Nat.le_of_ble_eq_true rfl, Nat.le_of_ble_eq_true rfl⟩ ?_
  refine g_aload_n dX2_copyFrom_67 (by rfl) (by first | exact isRf_r | exact isRf_n | exact isRf_o | assumption) ?_
  refine g_getf dX2_copyFrom_68 fX2_19 (by first | assumption | (repeat' (first | assumption | exact hu_same | exact Ne.symm (by assumption) | apply hu_n1))) (by rfl) ?_
  refine g_aload_n dX2_copyFrom_71 (by rfl) (by first | exact isRf_r | exact isRf_n | exact isRf_o | assumption) ?_
  refine g_getf dX2_copyFrom_72 fX2_19 (by first | assumption | (repeat' (first | assumption | exact hu_same | exact Ne.symm (by assumption) | apply hu_n1))) (by rfl) ?_
  refine g_cN2v dX2_copyFrom_75 lX2_41 vX9_copyRow (ct_X9_copyRow X (N := 4) (by omega) n3 (by first | assumption | (repeat' (first | assumption | exact hu_same | exact Ne.symm (by assumption) | apply hu_n1))) (by first | assumption | (repeat' (first | assumption | exact hu_same | exact Ne.symm (by assumption) | apply hu_n1)))) ⟨Nat.le_of_ble_eq_true rfl, Nat.le_of_ble_eq_true rfl⟩ (Nat.le_of_ble_eq_true rfl) ⟨Nat.le_of_ble_eq_true rfl, Nat.le_of_ble_eq_true rfl⟩ ?_
  refine g_vret dX2_copyFrom_78 rfl (Nat.le_refl _) (Nat.le_refl _) ?_
  refine ⟨rfl, ⟨(by first | assumption | (repeat' (first | assumption | exact hu_same | exact Ne.symm (by assumption) | apply hu_n1))), (by first | assumption | (repeat' (first | assumption | exact hu_same | exact Ne.symm (by assumption) | apply hu_n1))), hu_same⟩, ?_⟩
  intro q q1 q2 q3
  simp only [hu_ne q1, hu_ne q2, hu_ne q3]

theorem sold_i {x : Int32} : (x - 1 = -1) ↔ x = 0 := by
  constructor
  · intro h
    have h2 := congrArg (fun z => z + 1) h
    simp only [Int32.sub_add_cancel] at h2
    rw [h2]
    decide
  · intro h
    subst h
    decide

set_option maxHeartbeats 4000000 in
set_option maxRecDepth 100000 in
theorem ct_X2_isSold (X : Cx) {h : Hp} {a af al : Nat} {x : Nat → Int32}  (hl : LotAt X h a af al x) : Ct X mX2_isSold 0 0 0 [.ref a] h (Ex (.int (bI (decide (¬ x 13 = 0)))) h) := by
  have l0 := hl
  obtain ⟨l1, l2, l3⟩ := l0
  unfold lotC at l1
  unfold fixA at l2
  unfold looA at l3
  refine Ct.ofG vX2_isSold.1.2.2.1 (Nat.le_of_ble_eq_true rfl) ?_
  show G X RX2 cX2_isSold 1 (some .boolean) "isSold" (Rm 0 0 0) (Fm X (Ex (.int (bI (decide (¬ x 13 = 0)))) h) 0 0) 0 0 0 [(0, .ref a)] [] h
  refine g_aload_n dX2_isSold_0 (by rfl) (by first | exact isRf_r | exact isRf_n | exact isRf_o | assumption) ?_
  refine g_getf dX2_isSold_1 fX2_11 (by first | assumption | (repeat' (first | assumption | exact hu_same | exact Ne.symm (by assumption) | apply hu_n1))) (by rfl) ?_
  refine g_iconst (v := (-1)) dX2_isSold_4 (by decide) ?_
  refine g_icmp_eq (tgt := 12) dX2_isSold_5 (by decide) (fun c1 => ?_) (fun c1 => ?_)
  · skip
    have c1 := sold_i.mp c1
    refine g_iconst (v := 0) dX2_isSold_12 (by decide) ?_
    refine g_zret dX2_isSold_13 rfl (by decide) (Nat.le_refl _) (Nat.le_refl _) ?_
    exact Ex.i (by first | exact bI_t c1 | exact bI_f (fun z => z c1)) rfl
  · skip
    have c1 : ¬ x 13 = 0 := fun z => c1 (sold_i.mpr z)
    refine g_iconst (v := 1) dX2_isSold_8 (by decide) ?_
    refine g_goto (tgt := 13) dX2_isSold_9 (by decide) ?_
    refine g_zret dX2_isSold_13 rfl (by decide) (Nat.le_refl _) (Nat.le_refl _) ?_
    exact Ex.i (by first | exact bI_t c1 | exact bI_f (fun z => z c1)) rfl

set_option maxHeartbeats 4000000 in
set_option maxRecDepth 100000 in
theorem ct_X2_grainsOf (X : Cx) {h : Hp} {a af al j : Nat} {x : Nat → Int32}  (hj : j < 4) (hl : LotAt X h a af al x) : Ct X mX2_grainsOf 0 0 0 [.ref a, .int (nI j)] h (Ex (.int (x (2 + j) + x (6 + j))) h) := by
  have l0 := hl
  obtain ⟨l1, l2, l3⟩ := l0
  unfold lotC at l1
  unfold fixA at l2
  unfold looA at l3
  refine Ct.ofG vX2_grainsOf.1.2.2.1 (Nat.le_of_ble_eq_true rfl) ?_
  show G X RX2 cX2_grainsOf 2 (some .int) "grainsOf" (Rm 0 0 0) (Fm X (Ex (.int (x (2 + j) + x (6 + j))) h) 0 0) 0 0 0 [(0, .ref a), (1, .int (nI j))] [] h
  refine g_iload_n dX2_grainsOf_0 (by rfl) ?_
  refine g_if_lt (tgt := 38) dX2_grainsOf_1 (by decide) (fun c1 => absurd c1 (c_neg (by omega))) (fun c1 => ?_)
  refine g_iload_n dX2_grainsOf_4 (by rfl) ?_
  refine g_aload_n dX2_grainsOf_5 (by rfl) (by first | exact isRf_r | exact isRf_n | exact isRf_o | assumption) ?_
  refine g_getf dX2_grainsOf_6 fX2_15 (by first | assumption | (repeat' (first | assumption | exact hu_same | exact Ne.symm (by assumption) | apply hu_n1))) (by rfl) ?_
  refine g_alenI dX2_grainsOf_9 (by first | assumption | (repeat' (first | assumption | exact hu_same | exact Ne.symm (by assumption) | apply hu_n1))) ?_
  refine g_icmp_ge (tgt := 38) dX2_grainsOf_10 (by decide) (fun c2 => absurd (c_ge (by omega) (by omega) c2) (by omega)) (fun c2 => ?_)
  refine g_iload_n dX2_grainsOf_13 (by rfl) ?_
  refine g_aload_n dX2_grainsOf_14 (by rfl) (by first | exact isRf_r | exact isRf_n | exact isRf_o | assumption) ?_
  refine g_getf dX2_grainsOf_15 fX2_19 (by first | assumption | (repeat' (first | assumption | exact hu_same | exact Ne.symm (by assumption) | apply hu_n1))) (by rfl) ?_
  refine g_alenI dX2_grainsOf_18 (by first | assumption | (repeat' (first | assumption | exact hu_same | exact Ne.symm (by assumption) | apply hu_n1))) ?_
  refine g_icmp_ge (tgt := 38) dX2_grainsOf_19 (by decide) (fun c3 => absurd (c_ge (by omega) (by omega) c3) (by omega)) (fun c3 => ?_)
  refine g_aload_n dX2_grainsOf_22 (by rfl) (by first | exact isRf_r | exact isRf_n | exact isRf_o | assumption) ?_
  refine g_getf dX2_grainsOf_23 fX2_15 (by first | assumption | (repeat' (first | assumption | exact hu_same | exact Ne.symm (by assumption) | apply hu_n1))) (by rfl) ?_
  refine g_iload_n dX2_grainsOf_26 (by rfl) ?_
  refine g_iaN dX2_grainsOf_27 (by first | assumption | (repeat' (first | assumption | exact hu_same | exact Ne.symm (by assumption) | apply hu_n1))) hj (by omega) (by rfl) ?_
  refine g_aload_n dX2_grainsOf_28 (by rfl) (by first | exact isRf_r | exact isRf_n | exact isRf_o | assumption) ?_
  refine g_getf dX2_grainsOf_29 fX2_19 (by first | assumption | (repeat' (first | assumption | exact hu_same | exact Ne.symm (by assumption) | apply hu_n1))) (by rfl) ?_
  refine g_iload_n dX2_grainsOf_32 (by rfl) ?_
  refine g_iaN dX2_grainsOf_33 (by first | assumption | (repeat' (first | assumption | exact hu_same | exact Ne.symm (by assumption) | apply hu_n1))) hj (by omega) (by rfl) ?_
  refine g_iadd dX2_grainsOf_34 ?_
  refine g_goto (tgt := 39) dX2_grainsOf_35 (by decide) ?_
  refine g_iret dX2_grainsOf_39 rfl (Nat.le_refl _) (Nat.le_refl _) ?_
  exact Ex.i (by rw [nr_lt hj, nr_lt hj]) rfl

set_option maxHeartbeats 4000000 in
set_option maxRecDepth 100000 in
theorem ct_X2_shadeOf (X : Cx) {h : Hp} {a af al j : Nat} {x : Nat → Int32}  (hj : j < 4) (hp : 0 < (x 1).toInt) (hl : LotAt X h a af al x) : Ct X mX2_shadeOf 1 0 0 [.ref a, .int (nI j)] h (Ex (.int (shF x j)) h) := by
  have l0 := hl
  obtain ⟨l1, l2, l3⟩ := l0
  unfold lotC at l1
  unfold fixA at l2
  unfold looA at l3
  refine Ct.ofG vX2_shadeOf.1.2.2.1 (Nat.le_of_ble_eq_true rfl) ?_
  show G X RX2 cX2_shadeOf 2 (some .int) "shadeOf" (Rm 1 0 0) (Fm X (Ex (.int (shF x j)) h) 0 0) 0 0 0 [(0, .ref a), (1, .int (nI j))] [] h
  refine g_aload_n dX2_shadeOf_0 (by rfl) (by first | exact isRf_r | exact isRf_n | exact isRf_o | assumption) ?_
  refine g_getf dX2_shadeOf_1 fX2_25 (by first | assumption | (repeat' (first | assumption | exact hu_same | exact Ne.symm (by assumption) | apply hu_n1))) (by rfl) ?_
  refine g_if_le (tgt := 27) dX2_shadeOf_4 (by decide) (fun c1 => absurd c1 (i_pos hp)) (fun c1 => ?_)
  refine g_ldc2 dX2_shadeOf_7 cX2_45 ?_
  refine g_aload_n dX2_shadeOf_10 (by rfl) (by first | exact isRf_r | exact isRf_n | exact isRf_o | assumption) ?_
  refine g_iload_n dX2_shadeOf_11 (by rfl) ?_
  refine g_cV1x dX2_shadeOf_12 lX2_47 vX2_grainsOf (ct_X2_grainsOf X hj hl) (by first | assumption | (repeat' (first | assumption | exact hu_same | exact Ne.symm (by assumption) | apply hu_n1))) rfl ⟨Nat.le_of_ble_eq_true rfl, Nat.le_of_ble_eq_true rfl⟩ (Nat.le_of_ble_eq_true rfl) ⟨Nat.le_of_ble_eq_true rfl, Nat.le_of_ble_eq_true rfl⟩ ?_
  refine g_i2l dX2_shadeOf_15 ?_
  refine g_lmul dX2_shadeOf_16 ?_
  refine g_aload_n dX2_shadeOf_17 (by rfl) (by first | exact isRf_r | exact isRf_n | exact isRf_o | assumption) ?_
  refine g_getf dX2_shadeOf_18 fX2_25 (by first | assumption | (repeat' (first | assumption | exact hu_same | exact Ne.symm (by assumption) | apply hu_n1))) (by rfl) ?_
  refine g_i2l dX2_shadeOf_21 ?_
  refine g_ldiv dX2_shadeOf_22 (l_nz hp) ?_
  refine g_l2i dX2_shadeOf_23 ?_
  refine g_goto (tgt := 28) dX2_shadeOf_24 (by decide) ?_
  refine g_iret dX2_shadeOf_28 rfl (Nat.le_refl _) (Nat.le_refl _) ?_
  exact ⟨rfl, rfl⟩

set_option maxHeartbeats 4000000 in
set_option maxRecDepth 100000 in
theorem ct_X2_depth (X : Cx) {h : Hp} {a af al : Nat} {x : Nat → Int32}  (hp : 0 < (x 1).toInt) (hl : LotAt X h a af al x) : Ct X mX2_depth 1 0 0 [.ref a] h (Ex (.int (depC x)) h) := by
  have l0 := hl
  obtain ⟨l1, l2, l3⟩ := l0
  unfold lotC at l1
  unfold fixA at l2
  unfold looA at l3
  refine Ct.ofG vX2_depth.1.2.2.1 (Nat.le_of_ble_eq_true rfl) ?_
  show G X RX2 cX2_depth 1 (some .int) "depth" (Rm 1 0 0) (Fm X (Ex (.int (depC x)) h) 0 0) 0 0 0 [(0, .ref a)] [] h
  refine g_aload_n dX2_depth_0 (by rfl) (by first | exact isRf_r | exact isRf_n | exact isRf_o | assumption) ?_
  refine g_getf dX2_depth_1 fX2_25 (by first | assumption | (repeat' (first | assumption | exact hu_same | exact Ne.symm (by assumption) | apply hu_n1))) (by rfl) ?_
  refine g_if_le (tgt := 37) dX2_depth_4 (by decide) (fun c1 => absurd c1 (i_pos hp)) (fun c1 => ?_)
  refine g_ldc2 dX2_depth_7 cX2_45 ?_
  refine g_aload_n dX2_depth_10 (by rfl) (by first | exact isRf_r | exact isRf_n | exact isRf_o | assumption) ?_
  refine g_getf dX2_depth_11 fX2_15 (by first | assumption | (repeat' (first | assumption | exact hu_same | exact Ne.symm (by assumption) | apply hu_n1))) (by rfl) ?_
  refine g_cN1x dX2_depth_14 lX2_51 vX9_sumOf (ct_X9_sumOf X (by omega) l2) ⟨Nat.le_of_ble_eq_true rfl, Nat.le_of_ble_eq_true rfl⟩ (Nat.le_of_ble_eq_true rfl) ⟨Nat.le_of_ble_eq_true rfl, Nat.le_of_ble_eq_true rfl⟩ ?_
  refine g_aload_n dX2_depth_17 (by rfl) (by first | exact isRf_r | exact isRf_n | exact isRf_o | assumption) ?_
  refine g_getf dX2_depth_18 fX2_19 (by first | assumption | (repeat' (first | assumption | exact hu_same | exact Ne.symm (by assumption) | apply hu_n1))) (by rfl) ?_
  refine g_cN1x dX2_depth_21 lX2_51 vX9_sumOf (ct_X9_sumOf X (by omega) l3) ⟨Nat.le_of_ble_eq_true rfl, Nat.le_of_ble_eq_true rfl⟩ (Nat.le_of_ble_eq_true rfl) ⟨Nat.le_of_ble_eq_true rfl, Nat.le_of_ble_eq_true rfl⟩ ?_
  refine g_iadd dX2_depth_24 ?_
  refine g_i2l dX2_depth_25 ?_
  refine g_lmul dX2_depth_26 ?_
  refine g_aload_n dX2_depth_27 (by rfl) (by first | exact isRf_r | exact isRf_n | exact isRf_o | assumption) ?_
  refine g_getf dX2_depth_28 fX2_25 (by first | assumption | (repeat' (first | assumption | exact hu_same | exact Ne.symm (by assumption) | apply hu_n1))) (by rfl) ?_
  refine g_i2l dX2_depth_31 ?_
  refine g_ldiv dX2_depth_32 (l_nz hp) ?_
  refine g_l2i dX2_depth_33 ?_
  refine g_goto (tgt := 38) dX2_depth_34 (by decide) ?_
  refine g_iret dX2_depth_38 rfl (Nat.le_refl _) (Nat.le_refl _) ?_
  exact Ex.i (by rw [sumI_nr 4 (by omega), sumI_nr 4 (by omega)]; rfl) rfl

set_option maxHeartbeats 4000000 in
set_option maxRecDepth 100000 in
theorem ct_X2_floatShade (X : Cx) {h : Hp} {a af al j : Nat} {x : Nat → Int32}  (hj : j < 4) (hp : 0 < (x 1).toInt) (hn : vf_n32 (FP.fdiv (FP.i2f (x (2 + j) + x (6 + j))) (FP.i2f (x 1)))) (hl : LotAt X h a af al x) : Ct X mX2_floatShade 1 0 0 [.ref a, .int (nI j)] h (Ex (.float (FP.fdiv (FP.i2f (x (2 + j) + x (6 + j))) (FP.i2f (x 1)))) h) := by
  have l0 := hl
  obtain ⟨l1, l2, l3⟩ := l0
  unfold lotC at l1
  unfold fixA at l2
  unfold looA at l3
  refine Ct.ofG vX2_floatShade.1.2.2.1 (Nat.le_of_ble_eq_true rfl) ?_
  show G X RX2 cX2_floatShade 2 (some .float) "floatShade" (Rm 1 0 0) (Fm X (Ex (.float (FP.fdiv (FP.i2f (x (2 + j) + x (6 + j))) (FP.i2f (x 1)))) h) 0 0) 0 0 0 [(0, .ref a), (1, .int (nI j))] [] h
  refine g_aload_n dX2_floatShade_0 (by rfl) (by first | exact isRf_r | exact isRf_n | exact isRf_o | assumption) ?_
  refine g_getf dX2_floatShade_1 fX2_25 (by first | assumption | (repeat' (first | assumption | exact hu_same | exact Ne.symm (by assumption) | apply hu_n1))) (by rfl) ?_
  refine g_if_le (tgt := 22) dX2_floatShade_4 (by decide) (fun c1 => absurd c1 (i_pos hp)) (fun c1 => ?_)
  refine g_aload_n dX2_floatShade_7 (by rfl) (by first | exact isRf_r | exact isRf_n | exact isRf_o | assumption) ?_
  refine g_iload_n dX2_floatShade_8 (by rfl) ?_
  refine g_cV1x dX2_floatShade_9 lX2_47 vX2_grainsOf (ct_X2_grainsOf X hj hl) (by first | assumption | (repeat' (first | assumption | exact hu_same | exact Ne.symm (by assumption) | apply hu_n1))) rfl ⟨Nat.le_of_ble_eq_true rfl, Nat.le_of_ble_eq_true rfl⟩ (Nat.le_of_ble_eq_true rfl) ⟨Nat.le_of_ble_eq_true rfl, Nat.le_of_ble_eq_true rfl⟩ ?_
  refine g_i2f dX2_floatShade_12 ?_
  refine g_aload_n dX2_floatShade_13 (by rfl) (by first | exact isRf_r | exact isRf_n | exact isRf_o | assumption) ?_
  refine g_getf dX2_floatShade_14 fX2_25 (by first | assumption | (repeat' (first | assumption | exact hu_same | exact Ne.symm (by assumption) | apply hu_n1))) (by rfl) ?_
  refine g_i2f dX2_floatShade_17 ?_
  refine g_fdiv dX2_floatShade_18 hn ?_
  refine g_goto (tgt := 23) dX2_floatShade_19 (by decide) ?_
  refine g_fret dX2_floatShade_23 rfl (Nat.le_refl _) (Nat.le_refl _) ?_
  exact ⟨rfl, rfl⟩

set_option maxHeartbeats 4000000 in
set_option maxRecDepth 100000 in
theorem ct_X2_grainsTaken (X : Cx) {h : Hp} {a af al s v : Nat} {g l : Int32} {x r : Nat → Int32}  (hk : Dok (r 0) l x) (hl : LotAt X h a af al x) (hs : SetAt X h s v r) : Ct X mX2_grainsTaken 1 0 0 [.ref a, .int g, .int l, .ref s] h (Ex (.int (takF (r 0) x g l)) h) := by
  have l0 := hl
  obtain ⟨l1, l2, l3⟩ := l0
  unfold lotC at l1
  unfold fixA at l2
  unfold looA at l3
  have hs0 := hs.1
  refine Ct.ofG vX2_grainsTaken.1.2.2.1 (Nat.le_of_ble_eq_true rfl) ?_
  show G X RX2 cX2_grainsTaken 8 (some .int) "grainsTaken" (Rm 1 0 0) (Fm X (Ex (.int (takF (r 0) x g l)) h) 0 0) 0 0 0 [(0, .ref a), (1, .int g), (2, .int l), (3, .ref s)] [] h
  have J15 : G X RX2 cX2_grainsTaken 8 (some .int) "grainsTaken" (Rm 1 0 0) (Fm X (Ex (.int (takF (r 0) x g l)) h) 0 0) 0 0 15 [(0, .ref a), (1, .int g), (2, .int l), (3, .ref s)] [.long ((x 0).toInt64 + 1)] h := by
    skip
    refine g_aload_n dX2_grainsTaken_15 (by rfl) (by first | exact isRf_r | exact isRf_n | exact isRf_o | assumption) ?_
    refine g_getf dX2_grainsTaken_16 fX2_25 (by first | assumption | (repeat' (first | assumption | exact hu_same | exact Ne.symm (by assumption) | apply hu_n1))) (by rfl) ?_
    refine g_i2l dX2_grainsTaken_19 ?_
    refine g_lmul dX2_grainsTaken_20 ?_
    refine g_lstore (L1 := [(0, _), (1, _), (2, _), (3, _), (4, _)]) dX2_grainsTaken_21 (by decide) (by rfl) ?_
    refine g_lload dX2_grainsTaken_23 (by rfl) ?_
    refine g_aload_n dX2_grainsTaken_25 (by rfl) (by first | exact isRf_r | exact isRf_n | exact isRf_o | assumption) ?_
    refine g_iconst (v := 0) dX2_grainsTaken_26 (by decide) ?_
    refine g_cV1x dX2_grainsTaken_27 lX2_59 vX6_valueOf (ct_X6_valueOf X (j := 0) (by omega) hs) (by first | assumption | (repeat' (first | assumption | exact hu_same | exact Ne.symm (by assumption) | apply hu_n1))) rfl ⟨Nat.le_of_ble_eq_true rfl, Nat.le_of_ble_eq_true rfl⟩ (Nat.le_of_ble_eq_true rfl) ⟨Nat.le_of_ble_eq_true rfl, Nat.le_of_ble_eq_true rfl⟩ ?_
    refine g_i2l dX2_grainsTaken_30 ?_
    refine g_iload_n dX2_grainsTaken_31 (by rfl) ?_
    refine g_i2l dX2_grainsTaken_32 ?_
    refine g_lmul dX2_grainsTaken_33 ?_
    refine g_ladd dX2_grainsTaken_34 ?_
    refine g_lstore (L1 := [(0, _), (1, _), (2, _), (3, _), (4, _), (6, _)]) dX2_grainsTaken_35 (by decide) (by rfl) ?_
    refine g_lload dX2_grainsTaken_37 (by rfl) ?_
    refine g_lconst (v := 0) dX2_grainsTaken_39 (by decide) ?_
    refine g_lcmp dX2_grainsTaken_40 ?_
    refine g_if_le (tgt := 56) dX2_grainsTaken_41 (by decide) (fun c1 => absurd c1 hk.pos) (fun c1 => ?_)
    refine g_iload_n dX2_grainsTaken_44 (by rfl) ?_
    refine g_i2l dX2_grainsTaken_45 ?_
    refine g_lload dX2_grainsTaken_46 (by rfl) ?_
    refine g_lmul dX2_grainsTaken_48 ?_
    refine g_lload dX2_grainsTaken_49 (by rfl) ?_
    refine g_ldiv dX2_grainsTaken_51 hk.nz ?_
    refine g_l2i dX2_grainsTaken_52 ?_
    refine g_goto (tgt := 57) dX2_grainsTaken_53 (by decide) ?_
    refine g_iret dX2_grainsTaken_57 rfl (Nat.le_refl _) (Nat.le_refl _) ?_
    exact ⟨rfl, rfl⟩
  refine g_aload_n dX2_grainsTaken_0 (by rfl) (by first | exact isRf_r | exact isRf_n | exact isRf_o | assumption) ?_
  refine g_getf dX2_grainsTaken_1 fX2_22 (by first | assumption | (repeat' (first | assumption | exact hu_same | exact Ne.symm (by assumption) | apply hu_n1))) (by rfl) ?_
  refine g_iconst (v := 1) dX2_grainsTaken_4 (by decide) ?_
  refine g_icmp_ne (tgt := 14) dX2_grainsTaken_5 (by decide) (fun c2 => ?_) (fun c2 => ?_)
  · skip
    refine g_lconst (v := 1) dX2_grainsTaken_14 (by decide) ?_
    refine g_stk (st' := [.long ((x 0).toInt64 + 1)]) (by first | rw [← clo1 hk.1 c2] | rw [← clo2 c2]) J15
  · skip
    refine g_ldc2 dX2_grainsTaken_8 cX2_55 ?_
    refine g_goto (tgt := 15) dX2_grainsTaken_11 (by decide) ?_
    refine g_stk (st' := [.long ((x 0).toInt64 + 1)]) (by first | rw [← clo1 hk.1 c2] | rw [← clo2 c2]) J15
