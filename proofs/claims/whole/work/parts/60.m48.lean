set_option maxHeartbeats 4000000 in
set_option maxRecDepth 100000 in
theorem ct_X10_grains (X : Cx) {h : Hp} {a n1 : Nat} {r : Nat → Int32} {l d : Nat}  (hM : MoAt X h a n1 r) (hl : l < 20) (hd : d < 4) : Ct X mX10_grains 1 0 0 [.ref a, .int (nI l), .int (nI d)] h (Ex (.int (ltx r l (2 + d) + ltx r l (6 + d))) h) := by
  obtain ⟨⟨n2, st, n3, n4, le, n5, at0, lt, n6, fl, n7, m0⟩, m1⟩ := id hM
  unfold mdl at m0
  refine Ct.ofG vX10_grains.1.2.2.1 (Nat.le_of_ble_eq_true rfl) ?_
  show G X RX10 cX10_grains 3 (some .int) "grains" (Rm 1 0 0) (Fm X (Ex (.int (ltx r l (2 + d) + ltx r l (6 + d))) h) 0 0) 0 0 0 [(0, .ref a), (1, .int (nI l)), (2, .int (nI d))] [] h
  refine g_aload_n dX10_grains_0 (by rfl) (by first | exact isRf_r | exact isRf_n | exact isRf_o | assumption) ?_
  refine g_iload_n dX10_grains_1 (by rfl) ?_
  refine g_iconst (v := 2) dX10_grains_2 (by decide) ?_
  refine g_iload_n dX10_grains_3 (by rfl) ?_
  refine g_iadd dX10_grains_4 ?_
  rw [show (2 : Int32) + nI d = nI (2 + d) from nI_add 2 d]
  refine g_cV2x dX10_grains_5 lX10_35 vX10_lotNumber (ct_X10_lotNumber X (i := l) (k := 2 + d) hM (lt_cell hl (by omega))) (by first | assumption | (repeat' (first | assumption | exact hu_same | exact Ne.symm (by assumption) | apply hu_n1))) rfl ⟨Nat.le_of_ble_eq_true rfl, Nat.le_of_ble_eq_true rfl⟩ (Nat.le_of_ble_eq_true rfl) ⟨Nat.le_of_ble_eq_true rfl, Nat.le_of_ble_eq_true rfl⟩ ?_
  refine g_aload_n dX10_grains_8 (by rfl) (by first | exact isRf_r | exact isRf_n | exact isRf_o | assumption) ?_
  refine g_iload_n dX10_grains_9 (by rfl) ?_
  refine g_bipush (v := 6) dX10_grains_10 (by decide) ?_
  refine g_iload_n dX10_grains_12 (by rfl) ?_
  refine g_iadd dX10_grains_13 ?_
  rw [show (6 : Int32) + nI d = nI (6 + d) from nI_add 6 d]
  refine g_cV2x dX10_grains_14 lX10_35 vX10_lotNumber (ct_X10_lotNumber X (i := l) (k := 6 + d) hM (lt_cell hl (by omega))) (by first | assumption | (repeat' (first | assumption | exact hu_same | exact Ne.symm (by assumption) | apply hu_n1))) rfl ⟨Nat.le_of_ble_eq_true rfl, Nat.le_of_ble_eq_true rfl⟩ (Nat.le_of_ble_eq_true rfl) ⟨Nat.le_of_ble_eq_true rfl, Nat.le_of_ble_eq_true rfl⟩ ?_
  refine g_iadd dX10_grains_17 ?_
  refine g_iret dX10_grains_18 rfl (Nat.le_refl _) (Nat.le_refl _) ?_
  exact Ex.i rfl rfl

set_option maxHeartbeats 4000000 in
set_option maxRecDepth 100000 in
theorem ct_X10_shadeOf (X : Cx) {h : Hp} {a n1 : Nat} {r : Nat → Int32} {l d : Nat}  (hM : MoAt X h a n1 r) (hl : l < 20) (hd : d < 4) (hp : 0 < (ltx r l 1).toInt) : Ct X mX10_shadeOf 2 0 0 [.ref a, .int (nI l), .int (nI d)] h (Ex (.int (shF (ltx r l) d)) h) := by
  obtain ⟨⟨n2, st, n3, n4, le, n5, at0, lt, n6, fl, n7, m0⟩, m1⟩ := id hM
  unfold mdl at m0
  refine Ct.ofG vX10_shadeOf.1.2.2.1 (Nat.le_of_ble_eq_true rfl) ?_
  show G X RX10 cX10_shadeOf 3 (some .int) "shadeOf" (Rm 2 0 0) (Fm X (Ex (.int (shF (ltx r l) d)) h) 0 0) 0 0 0 [(0, .ref a), (1, .int (nI l)), (2, .int (nI d))] [] h
  refine g_ldc2 dX10_shadeOf_0 cX10_75 ?_
  refine g_aload_n dX10_shadeOf_3 (by rfl) (by first | exact isRf_r | exact isRf_n | exact isRf_o | assumption) ?_
  refine g_iload_n dX10_shadeOf_4 (by rfl) ?_
  refine g_iload_n dX10_shadeOf_5 (by rfl) ?_
  refine g_cV2x dX10_shadeOf_6 lX10_77 vX10_grains (ct_X10_grains X hM hl hd) (by first | assumption | (repeat' (first | assumption | exact hu_same | exact Ne.symm (by assumption) | apply hu_n1))) rfl ⟨Nat.le_of_ble_eq_true rfl, Nat.le_of_ble_eq_true rfl⟩ (Nat.le_of_ble_eq_true rfl) ⟨Nat.le_of_ble_eq_true rfl, Nat.le_of_ble_eq_true rfl⟩ ?_
  refine g_i2l dX10_shadeOf_9 ?_
  refine g_lmul dX10_shadeOf_10 ?_
  refine g_aload_n dX10_shadeOf_11 (by rfl) (by first | exact isRf_r | exact isRf_n | exact isRf_o | assumption) ?_
  refine g_iload_n dX10_shadeOf_12 (by rfl) ?_
  refine g_iconst (v := 1) dX10_shadeOf_13 (by decide) ?_
  refine g_cV2x dX10_shadeOf_14 lX10_35 vX10_lotNumber (ct_X10_lotNumber X (i := l) (k := 1) hM (lt_cell hl (by omega))) (by first | assumption | (repeat' (first | assumption | exact hu_same | exact Ne.symm (by assumption) | apply hu_n1))) rfl ⟨Nat.le_of_ble_eq_true rfl, Nat.le_of_ble_eq_true rfl⟩ (Nat.le_of_ble_eq_true rfl) ⟨Nat.le_of_ble_eq_true rfl, Nat.le_of_ble_eq_true rfl⟩ ?_
  refine g_i2l dX10_shadeOf_17 ?_
  refine g_ldiv dX10_shadeOf_18 (l_nz hp) ?_
  refine g_l2i dX10_shadeOf_19 ?_
  refine g_iret dX10_shadeOf_20 rfl (Nat.le_refl _) (Nat.le_refl _) ?_
  exact Ex.i rfl rfl

set_option maxHeartbeats 4000000 in
set_option maxRecDepth 100000 in
theorem ct_X10_exact (X : Cx) {h : Hp} {a n1 : Nat} {r : Nat → Int32} {l d : Nat}  (hM : MoAt X h a n1 r) (hl : l < 20) (hd : d < 4) (hn : vf_n32 (flS r l d)) : Ct X mX10_exact 2 0 0 [.ref a, .int (nI l), .int (nI d)] h (Ex (.float (flS r l d)) h) := by
  obtain ⟨⟨n2, st, n3, n4, le, n5, at0, lt, n6, fl, n7, m0⟩, m1⟩ := id hM
  unfold mdl at m0
  refine Ct.ofG vX10_exact.1.2.2.1 (Nat.le_of_ble_eq_true rfl) ?_
  show G X RX10 cX10_exact 3 (some .float) "exact" (Rm 2 0 0) (Fm X (Ex (.float (flS r l d)) h) 0 0) 0 0 0 [(0, .ref a), (1, .int (nI l)), (2, .int (nI d))] [] h
  refine g_aload_n dX10_exact_0 (by rfl) (by first | exact isRf_r | exact isRf_n | exact isRf_o | assumption) ?_
  refine g_iload_n dX10_exact_1 (by rfl) ?_
  refine g_iload_n dX10_exact_2 (by rfl) ?_
  refine g_cV2x dX10_exact_3 lX10_77 vX10_grains (ct_X10_grains X hM hl hd) (by first | assumption | (repeat' (first | assumption | exact hu_same | exact Ne.symm (by assumption) | apply hu_n1))) rfl ⟨Nat.le_of_ble_eq_true rfl, Nat.le_of_ble_eq_true rfl⟩ (Nat.le_of_ble_eq_true rfl) ⟨Nat.le_of_ble_eq_true rfl, Nat.le_of_ble_eq_true rfl⟩ ?_
  refine g_i2f dX10_exact_6 ?_
  refine g_aload_n dX10_exact_7 (by rfl) (by first | exact isRf_r | exact isRf_n | exact isRf_o | assumption) ?_
  refine g_iload_n dX10_exact_8 (by rfl) ?_
  refine g_iconst (v := 1) dX10_exact_9 (by decide) ?_
  refine g_cV2x dX10_exact_10 lX10_35 vX10_lotNumber (ct_X10_lotNumber X (i := l) (k := 1) hM (lt_cell hl (by omega))) (by first | assumption | (repeat' (first | assumption | exact hu_same | exact Ne.symm (by assumption) | apply hu_n1))) rfl ⟨Nat.le_of_ble_eq_true rfl, Nat.le_of_ble_eq_true rfl⟩ (Nat.le_of_ble_eq_true rfl) ⟨Nat.le_of_ble_eq_true rfl, Nat.le_of_ble_eq_true rfl⟩ ?_
  refine g_i2f dX10_exact_13 ?_
  refine g_fdiv dX10_exact_14 hn ?_
  refine g_fret dX10_exact_15 rfl (Nat.le_refl _) (Nat.le_refl _) ?_
  exact Ex.f rfl rfl
