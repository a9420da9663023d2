/-! ## the model -/
def mdl (n1 n2 : Nat) (st : Int32) (n3 n4 : Nat) (le : Int32) (n5 : Nat) (at0 lt : Int32) (n6 : Nat) (fl : Int32) (n7 : Nat) : List Value := [.ref n1, .ref n2, .int st, .ref n3, .ref n4, .int le, .ref n5, .int at0, .int lt, .ref n6, .int fl, .ref n7]
/-- the model's object at a, its row at n1 -/
def MoAt (X : Cx) (h : Hp) (a n1 : Nat) (r : Nat → Int32) : Prop := (∃ n2 st n3 n4 le n5 at0 lt n6 fl n7, h a = some (ob 10 (mdl n1 n2 st n3 n4 le n5 at0 lt n6 fl n7))) ∧ h n1 = some (oI X 643 (nr 643 r))
theorem nI_sub1 {n : Nat} : nI n - 1 = nI n + Int32.ofInt (-1) := by
  rw [show Int32.ofInt (-1) = -1 by decide, ← Int32.sub_eq_add_neg]
theorem in_ok {n : Nat} {w : Int32} (hn : n ≤ 1000) : rngB 0 (nI n - 1) w = okB (nI n) w := by
  unfold rngB okB
  congr 1
  refine decide_eq_decide.mpr ?_
  have e : (nI n - 1).toInt = (n : Int) - 1 := by
    rw [Int32.toInt_sub, nI_toInt (by omega), show (1 : Int32).toInt = 1 by decide]
    exact Int.bmod_eq_of_le (by omega) (by omega)
  rw [i_le, i_lt, e, nI_toInt (by omega)]
  omega

set_option maxHeartbeats 4000000 in
set_option maxRecDepth 100000 in
theorem ct_X10_in (X : Cx) {h : Hp} {v lo hi : Int32}  : Ct X mX10_in 0 0 0 [.int v, .int lo, .int hi] h (Ex (.int (bI (rngB lo hi v))) h) := by
  refine Ct.ofG vX10_in.1.2.2.1 (Nat.le_of_ble_eq_true rfl) ?_
  show G X RX10 cX10_in 3 (some .boolean) "in" (Rm 0 0 0) (Fm X (Ex (.int (bI (rngB lo hi v))) h) 0 0) 0 0 0 [(0, .int v), (1, .int lo), (2, .int hi)] [] h
  refine g_iload_n dX10_in_0 (by rfl) ?_
  refine g_iload_n dX10_in_1 (by rfl) ?_
  refine g_icmp_lt (tgt := 14) dX10_in_2 (by decide) (fun c1 => ?_) (fun c1 => ?_)
  · skip
    have e : rngB lo hi v = false := rngB_f1 (i_nle c1)
    refine g_iconst (v := 0) dX10_in_14 (by decide) ?_
    refine g_zret dX10_in_15 rfl (by decide) (Nat.le_refl _) (Nat.le_refl _) ?_
    refine Ex.i ?_ rfl
    rw [e]
    rfl
  · skip
    have c5 := c1
    refine g_iload_n dX10_in_5 (by rfl) ?_
    refine g_iload_n dX10_in_6 (by rfl) ?_
    refine g_icmp_gt (tgt := 14) dX10_in_7 (by decide) (fun c2 => ?_) (fun c2 => ?_)
    · skip
      have e : rngB lo hi v = false := rngB_f2 (i_nle c2)
      refine g_iconst (v := 0) dX10_in_14 (by decide) ?_
      refine g_zret dX10_in_15 rfl (by decide) (Nat.le_refl _) (Nat.le_refl _) ?_
      refine Ex.i ?_ rfl
      rw [e]
      rfl
    · skip
      have e : rngB lo hi v = true := rngB_t (i_nlt c5) (i_nlt c2)
      refine g_iconst (v := 1) dX10_in_10 (by decide) ?_
      refine g_goto (tgt := 15) dX10_in_11 (by decide) ?_
      refine g_zret dX10_in_15 rfl (by decide) (Nat.le_refl _) (Nat.le_refl _) ?_
      refine Ex.i ?_ rfl
      rw [e]
      rfl

theorem nI_mul (a b : Nat) : nI a * nI b = nI (a * b) := (Int32.ofNat_mul a b).symm
theorem lin3 {c m i k : Nat} : Int32.ofNat c + Int32.ofNat m * nI i + nI k = nI (c + m * i + k) := by
  show nI c + nI m * nI i + nI k = _
  rw [nI_mul, nI_add, nI_add]


set_option maxHeartbeats 4000000 in
set_option maxRecDepth 100000 in
theorem ct_X10_isDye (X : Cx) {h : Hp} {v : Int32}  : Ct X mX10_isDye 1 0 0 [.int v] h (Ex (.int (bI (rngB 0 3 v))) h) := by
  refine Ct.ofG vX10_isDye.1.2.2.1 (Nat.le_of_ble_eq_true rfl) ?_
  show G X RX10 cX10_isDye 1 (some .boolean) "isDye" (Rm 1 0 0) (Fm X (Ex (.int (bI (rngB 0 3 v))) h) 0 0) 0 0 0 [(0, .int v)] [] h
  refine g_iload_n dX10_isDye_0 (by rfl) ?_
  refine g_iconst (v := 0) dX10_isDye_1 (by decide) ?_
  refine g_iconst (v := 3) dX10_isDye_2 (by decide) ?_
  refine g_cS3x dX10_isDye_3 lX10_31 rfl vX10_in (ct_X10_in X) ⟨Nat.le_of_ble_eq_true rfl, Nat.le_of_ble_eq_true rfl⟩ (Nat.le_of_ble_eq_true rfl) ⟨Nat.le_of_ble_eq_true rfl, Nat.le_of_ble_eq_true rfl⟩ ?_
  refine g_zret dX10_isDye_6 rfl (by first | decide | exact bI_nz _) (Nat.le_refl _) (Nat.le_refl _) ?_
  exact Ex.i rfl rfl

set_option maxHeartbeats 4000000 in
set_option maxRecDepth 100000 in
theorem ct_X10_isVat (X : Cx) {h : Hp} {a n1 : Nat} {r : Nat → Int32} {v : Int32} {n : Nat}  (hM : MoAt X h a n1 r) (hn : n ≤ 1000) (e : r 7 = nI n) : Ct X mX10_isVat 1 0 0 [.ref a, .int v] h (Ex (.int (bI (okB (nI n) v))) h) := by
  obtain ⟨⟨n2, st, n3, n4, le, n5, at0, lt, n6, fl, n7, m0⟩, m1⟩ := id hM
  unfold mdl at m0
  refine Ct.ofG vX10_isVat.1.2.2.1 (Nat.le_of_ble_eq_true rfl) ?_
  show G X RX10 cX10_isVat 2 (some .boolean) "isVat" (Rm 1 0 0) (Fm X (Ex (.int (bI (okB (nI n) v))) h) 0 0) 0 0 0 [(0, .ref a), (1, .int v)] [] h
  refine g_iload_n dX10_isVat_0 (by rfl) ?_
  refine g_iconst (v := 0) dX10_isVat_1 (by decide) ?_
  refine g_aload_n dX10_isVat_2 (by rfl) (by first | exact isRf_r | exact isRf_n | exact isRf_o | assumption) ?_
  refine g_getf dX10_isVat_3 fX10_7 (by first | assumption | (repeat' (first | assumption | exact hu_same | exact Ne.symm (by assumption) | apply hu_n1))) (by rfl) ?_
  refine g_bipush (v := 7) dX10_isVat_6 (by decide) ?_
  rw [show (7 : Int32) = nI 7 from rfl]
  refine g_iaN dX10_isVat_8 (by first | assumption | (repeat' (first | assumption | exact hu_same | exact Ne.symm (by assumption) | apply hu_n1))) (by omega) (by omega) (by rfl) ?_
  rw [nr_lt (show 7 < 643 by omega), e]
  refine g_iconst (v := 1) dX10_isVat_9 (by decide) ?_
  refine g_isub dX10_isVat_10 ?_
  refine g_cS3x dX10_isVat_11 lX10_31 rfl vX10_in (ct_X10_in X) ⟨Nat.le_of_ble_eq_true rfl, Nat.le_of_ble_eq_true rfl⟩ (Nat.le_of_ble_eq_true rfl) ⟨Nat.le_of_ble_eq_true rfl, Nat.le_of_ble_eq_true rfl⟩ ?_
  refine g_zret dX10_isVat_14 rfl (by first | decide | exact bI_nz _) (Nat.le_refl _) (Nat.le_refl _) ?_
  refine Ex.i ?_ rfl
  rw [← in_ok hn]

set_option maxHeartbeats 4000000 in
set_option maxRecDepth 100000 in
theorem ct_X10_isLot (X : Cx) {h : Hp} {a n1 : Nat} {r : Nat → Int32} {v : Int32} {n : Nat}  (hM : MoAt X h a n1 r) (hn : n ≤ 1000) (e : r 8 = nI n) : Ct X mX10_isLot 1 0 0 [.ref a, .int v] h (Ex (.int (bI (okB (nI n) v))) h) := by
  obtain ⟨⟨n2, st, n3, n4, le, n5, at0, lt, n6, fl, n7, m0⟩, m1⟩ := id hM
  unfold mdl at m0
  refine Ct.ofG vX10_isLot.1.2.2.1 (Nat.le_of_ble_eq_true rfl) ?_
  show G X RX10 cX10_isLot 2 (some .boolean) "isLot" (Rm 1 0 0) (Fm X (Ex (.int (bI (okB (nI n) v))) h) 0 0) 0 0 0 [(0, .ref a), (1, .int v)] [] h
  refine g_iload_n dX10_isLot_0 (by rfl) ?_
  refine g_iconst (v := 0) dX10_isLot_1 (by decide) ?_
  refine g_aload_n dX10_isLot_2 (by rfl) (by first | exact isRf_r | exact isRf_n | exact isRf_o | assumption) ?_
  refine g_getf dX10_isLot_3 fX10_7 (by first | assumption | (repeat' (first | assumption | exact hu_same | exact Ne.symm (by assumption) | apply hu_n1))) (by rfl) ?_
  refine g_bipush (v := 8) dX10_isLot_6 (by decide) ?_
  rw [show (8 : Int32) = nI 8 from rfl]
  refine g_iaN dX10_isLot_8 (by first | assumption | (repeat' (first | assumption | exact hu_same | exact Ne.symm (by assumption) | apply hu_n1))) (by omega) (by omega) (by rfl) ?_
  rw [nr_lt (show 8 < 643 by omega), e]
  refine g_iconst (v := 1) dX10_isLot_9 (by decide) ?_
  refine g_isub dX10_isLot_10 ?_
  refine g_cS3x dX10_isLot_11 lX10_31 rfl vX10_in (ct_X10_in X) ⟨Nat.le_of_ble_eq_true rfl, Nat.le_of_ble_eq_true rfl⟩ (Nat.le_of_ble_eq_true rfl) ⟨Nat.le_of_ble_eq_true rfl, Nat.le_of_ble_eq_true rfl⟩ ?_
  refine g_zret dX10_isLot_14 rfl (by first | decide | exact bI_nz _) (Nat.le_refl _) (Nat.le_refl _) ?_
  refine Ex.i ?_ rfl
  rw [← in_ok hn]

set_option maxHeartbeats 4000000 in
set_option maxRecDepth 100000 in
theorem ct_X10_isOrder (X : Cx) {h : Hp} {a n1 : Nat} {r : Nat → Int32} {v : Int32} {n : Nat}  (hM : MoAt X h a n1 r) (hn : n ≤ 1000) (e : r 9 = nI n) : Ct X mX10_isOrder 1 0 0 [.ref a, .int v] h (Ex (.int (bI (okB (nI n) v))) h) := by
  obtain ⟨⟨n2, st, n3, n4, le, n5, at0, lt, n6, fl, n7, m0⟩, m1⟩ := id hM
  unfold mdl at m0
  refine Ct.ofG vX10_isOrder.1.2.2.1 (Nat.le_of_ble_eq_true rfl) ?_
  show G X RX10 cX10_isOrder 2 (some .boolean) "isOrder" (Rm 1 0 0) (Fm X (Ex (.int (bI (okB (nI n) v))) h) 0 0) 0 0 0 [(0, .ref a), (1, .int v)] [] h
  refine g_iload_n dX10_isOrder_0 (by rfl) ?_
  refine g_iconst (v := 0) dX10_isOrder_1 (by decide) ?_
  refine g_aload_n dX10_isOrder_2 (by rfl) (by first | exact isRf_r | exact isRf_n | exact isRf_o | assumption) ?_
  refine g_getf dX10_isOrder_3 fX10_7 (by first | assumption | (repeat' (first | assumption | exact hu_same | exact Ne.symm (by assumption) | apply hu_n1))) (by rfl) ?_
  refine g_bipush (v := 9) dX10_isOrder_6 (by decide) ?_
  rw [show (9 : Int32) = nI 9 from rfl]
  refine g_iaN dX10_isOrder_8 (by first | assumption | (repeat' (first | assumption | exact hu_same | exact Ne.symm (by assumption) | apply hu_n1))) (by omega) (by omega) (by rfl) ?_
  rw [nr_lt (show 9 < 643 by omega), e]
  refine g_iconst (v := 1) dX10_isOrder_9 (by decide) ?_
  refine g_isub dX10_isOrder_10 ?_
  refine g_cS3x dX10_isOrder_11 lX10_31 rfl vX10_in (ct_X10_in X) ⟨Nat.le_of_ble_eq_true rfl, Nat.le_of_ble_eq_true rfl⟩ (Nat.le_of_ble_eq_true rfl) ⟨Nat.le_of_ble_eq_true rfl, Nat.le_of_ble_eq_true rfl⟩ ?_
  refine g_zret dX10_isOrder_14 rfl (by first | decide | exact bI_nz _) (Nat.le_refl _) (Nat.le_refl _) ?_
  refine Ex.i ?_ rfl
  rw [← in_ok hn]

set_option maxHeartbeats 4000000 in
set_option maxRecDepth 100000 in
theorem ct_X10_vatNumber (X : Cx) {h : Hp} {a n1 : Nat} {r : Nat → Int32} {i k : Nat}  (hM : MoAt X h a n1 r) (hk : 19 + 4 * i + k < 643) : Ct X mX10_vatNumber 0 0 0 [.ref a, .int (nI i), .int (nI k)] h (Ex (.int (r (19 + 4 * i + k))) h) := by
  obtain ⟨⟨n2, st, n3, n4, le, n5, at0, lt, n6, fl, n7, m0⟩, m1⟩ := id hM
  unfold mdl at m0
  refine Ct.ofG vX10_vatNumber.1.2.2.1 (Nat.le_of_ble_eq_true rfl) ?_
  show G X RX10 cX10_vatNumber 3 (some .int) "vatNumber" (Rm 0 0 0) (Fm X (Ex (.int (r (19 + 4 * i + k))) h) 0 0) 0 0 0 [(0, .ref a), (1, .int (nI i)), (2, .int (nI k))] [] h
  refine g_aload_n dX10_vatNumber_0 (by rfl) (by first | exact isRf_r | exact isRf_n | exact isRf_o | assumption) ?_
  refine g_getf dX10_vatNumber_1 fX10_7 (by first | assumption | (repeat' (first | assumption | exact hu_same | exact Ne.symm (by assumption) | apply hu_n1))) (by rfl) ?_
  refine g_bipush (v := 19) dX10_vatNumber_4 (by decide) ?_
  refine g_iconst (v := 4) dX10_vatNumber_6 (by decide) ?_
  refine g_iload_n dX10_vatNumber_7 (by rfl) ?_
  refine g_imul dX10_vatNumber_8 ?_
  refine g_iadd dX10_vatNumber_9 ?_
  refine g_iload_n dX10_vatNumber_10 (by rfl) ?_
  refine g_iadd dX10_vatNumber_11 ?_
  rw [show (19 : Int32) + 4 * nI i + nI k = nI (19 + 4 * i + k) from lin3]
  refine g_iaN dX10_vatNumber_12 (by first | assumption | (repeat' (first | assumption | exact hu_same | exact Ne.symm (by assumption) | apply hu_n1))) hk (by omega) (by rfl) ?_
  refine g_iret dX10_vatNumber_13 rfl (Nat.le_refl _) (Nat.le_refl _) ?_
  refine Ex.i ?_ rfl
  exact nr_lt hk

set_option maxHeartbeats 4000000 in
set_option maxRecDepth 100000 in
theorem ct_X10_lotNumber (X : Cx) {h : Hp} {a n1 : Nat} {r : Nat → Int32} {i k : Nat}  (hM : MoAt X h a n1 r) (hk : 43 + 15 * i + k < 643) : Ct X mX10_lotNumber 0 0 0 [.ref a, .int (nI i), .int (nI k)] h (Ex (.int (r (43 + 15 * i + k))) h) := by
  obtain ⟨⟨n2, st, n3, n4, le, n5, at0, lt, n6, fl, n7, m0⟩, m1⟩ := id hM
  unfold mdl at m0
  refine Ct.ofG vX10_lotNumber.1.2.2.1 (Nat.le_of_ble_eq_true rfl) ?_
  show G X RX10 cX10_lotNumber 3 (some .int) "lotNumber" (Rm 0 0 0) (Fm X (Ex (.int (r (43 + 15 * i + k))) h) 0 0) 0 0 0 [(0, .ref a), (1, .int (nI i)), (2, .int (nI k))] [] h
  refine g_aload_n dX10_lotNumber_0 (by rfl) (by first | exact isRf_r | exact isRf_n | exact isRf_o | assumption) ?_
  refine g_getf dX10_lotNumber_1 fX10_7 (by first | assumption | (repeat' (first | assumption | exact hu_same | exact Ne.symm (by assumption) | apply hu_n1))) (by rfl) ?_
  refine g_bipush (v := 43) dX10_lotNumber_4 (by decide) ?_
  refine g_bipush (v := 15) dX10_lotNumber_6 (by decide) ?_
  refine g_iload_n dX10_lotNumber_8 (by rfl) ?_
  refine g_imul dX10_lotNumber_9 ?_
  refine g_iadd dX10_lotNumber_10 ?_
  refine g_iload_n dX10_lotNumber_11 (by rfl) ?_
  refine g_iadd dX10_lotNumber_12 ?_
  rw [show (43 : Int32) + 15 * nI i + nI k = nI (43 + 15 * i + k) from lin3]
  refine g_iaN dX10_lotNumber_13 (by first | assumption | (repeat' (first | assumption | exact hu_same | exact Ne.symm (by assumption) | apply hu_n1))) hk (by omega) (by rfl) ?_
  refine g_iret dX10_lotNumber_14 rfl (Nat.le_refl _) (Nat.le_refl _) ?_
  refine Ex.i ?_ rfl
  exact nr_lt hk

set_option maxHeartbeats 4000000 in
set_option maxRecDepth 100000 in
theorem ct_X10_orderNumber (X : Cx) {h : Hp} {a n1 : Nat} {r : Nat → Int32} {i k : Nat}  (hM : MoAt X h a n1 r) (hk : 343 + 5 * i + k < 643) : Ct X mX10_orderNumber 0 0 0 [.ref a, .int (nI i), .int (nI k)] h (Ex (.int (r (343 + 5 * i + k))) h) := by
  obtain ⟨⟨n2, st, n3, n4, le, n5, at0, lt, n6, fl, n7, m0⟩, m1⟩ := id hM
  unfold mdl at m0
  refine Ct.ofG vX10_orderNumber.1.2.2.1 (Nat.le_of_ble_eq_true rfl) ?_
  show G X RX10 cX10_orderNumber 3 (some .int) "orderNumber" (Rm 0 0 0) (Fm X (Ex (.int (r (343 + 5 * i + k))) h) 0 0) 0 0 0 [(0, .ref a), (1, .int (nI i)), (2, .int (nI k))] [] h
  refine g_aload_n dX10_orderNumber_0 (by rfl) (by first | exact isRf_r | exact isRf_n | exact isRf_o | assumption) ?_
  refine g_getf dX10_orderNumber_1 fX10_7 (by first | assumption | (repeat' (first | assumption | exact hu_same | exact Ne.symm (by assumption) | apply hu_n1))) (by rfl) ?_
  refine g_sipush (v := 343) dX10_orderNumber_4 (by decide) ?_
  refine g_iconst (v := 5) dX10_orderNumber_7 (by decide) ?_
  refine g_iload_n dX10_orderNumber_8 (by rfl) ?_
  refine g_imul dX10_orderNumber_9 ?_
  refine g_iadd dX10_orderNumber_10 ?_
  refine g_iload_n dX10_orderNumber_11 (by rfl) ?_
  refine g_iadd dX10_orderNumber_12 ?_
  rw [show (343 : Int32) + 5 * nI i + nI k = nI (343 + 5 * i + k) from lin3]
  refine g_iaN dX10_orderNumber_13 (by first | assumption | (repeat' (first | assumption | exact hu_same | exact Ne.symm (by assumption) | apply hu_n1))) hk (by omega) (by rfl) ?_
  refine g_iret dX10_orderNumber_14 rfl (Nat.le_refl _) (Nat.le_refl _) ?_
  refine Ex.i ?_ rfl
  exact nr_lt hk
