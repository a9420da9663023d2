theorem lin2 {m i k : Nat} : Int32.ofNat m * nI i + nI k = nI (m * i + k) := by
  show nI m * nI i + nI k = _
  rw [nI_mul, nI_add]

set_option maxHeartbeats 4000000 in
set_option maxRecDepth 100000 in
theorem ct_X10_undo0 (X : Cx) {h : Hp} {a n1 n2 n3 n4 n5 n6 n7 : Nat} {st le at0 lt fl : Int32} {r s : Nat → Int32}  (h0 : h a = some (ob 10 (mdl n1 n2 0 n3 n4 le n5 at0 lt n6 fl n7))) : Ct X mX10_undo 0 0 0 [.ref a] h (Ex (.int (-2)) h) := by
  unfold mdl at h0
  refine Ct.ofG vX10_undo.1.2.2.1 (Nat.le_of_ble_eq_true rfl) ?_
  show G X RX10 cX10_undo 2 (some .int) "undo" (Rm 0 0 0) (Fm X (Ex (.int (-2)) h) 0 0) 0 0 0 [(0, .ref a)] [] h
  refine g_aload_n dX10_undo_0 (by rfl) (by first | exact isRf_r | exact isRf_n | exact isRf_o | assumption) ?_
  refine g_getf dX10_undo_1 fX10_39 (by first | assumption | (repeat' (first | assumption | exact hu_same | exact Ne.symm (by assumption) | apply hu_n1))) (by rfl) ?_
  refine g_if_ne (tgt := 10) dX10_undo_4 (by decide) (fun c1 => absurd rfl c1) (fun c1 => ?_)
  refine g_bipush (v := (-2)) dX10_undo_7 (by decide) ?_
  refine g_iret dX10_undo_9 rfl (Nat.le_refl _) (Nat.le_refl _) ?_
  exact Ex.i rfl rfl

set_option maxHeartbeats 4000000 in
set_option maxRecDepth 100000 in
theorem ct_X10_undoS (X : Cx) {h : Hp} {a n1 n2 n3 n4 n5 n6 n7 : Nat} {st le at0 lt fl : Int32} {r s : Nat → Int32} {g q : Nat → Int32} {k : Nat}  (h0 : h a = some (ob 10 (mdl n1 n2 (nI (k + 1)) n3 n4 le n5 at0 lt n6 fl n7))) (h1 : h n1 = some (oI X 643 (nr 643 r))) (h2 : h n2 = some (oI X 2572 g)) (hk : k < 4) (hg : ∀ j, j < 643 → g (643 * k + j) = q j) (d0 : a ≠ n1) (d1 : n1 ≠ n2) (d2 : a ≠ n2) : Ct X mX10_undo 0 0 0 [.ref a] h (Ex (.int (nI k)) (hu (hu h a (ob 10 (mdl n1 n2 (nI k) n3 n4 le n5 at0 lt n6 fl n7))) n1 (oI X 643 (nr 643 q)))) := by
  unfold mdl at h0 ⊢
  have d3 := Ne.symm d2
  refine Ct.ofG vX10_undo.1.2.2.1 (Nat.le_of_ble_eq_true rfl) ?_
  show G X RX10 cX10_undo 2 (some .int) "undo" (Rm 0 0 0) (Fm X (Ex (.int (nI k)) (hu (hu h a (ob 10 (mdl n1 n2 (nI k) n3 n4 le n5 at0 lt n6 fl n7))) n1 (oI X 643 (nr 643 q)))) 0 0) 0 0 0 [(0, .ref a)] [] h
  refine g_aload_n dX10_undo_0 (by rfl) (by first | exact isRf_r | exact isRf_n | exact isRf_o | assumption) ?_
  refine g_getf dX10_undo_1 fX10_39 (by first | assumption | (repeat' (first | assumption | exact hu_same | exact Ne.symm (by assumption) | apply hu_n1))) (by rfl) ?_
  refine g_if_ne (tgt := 10) dX10_undo_4 (by decide) (fun c1 => ?_) (fun c1 => absurd c1 (nI_ne0 (by omega) (by omega)))
  refine g_aload_n dX10_undo_10 (by rfl) (by first | exact isRf_r | exact isRf_n | exact isRf_o | assumption) ?_
  refine g_dup dX10_undo_11 (by rfl) ?_
  refine g_getf dX10_undo_12 fX10_39 (by first | assumption | (repeat' (first | assumption | exact hu_same | exact Ne.symm (by assumption) | apply hu_n1))) (by rfl) ?_
  refine g_iconst (v := 1) dX10_undo_15 (by decide) ?_
  refine g_isub dX10_undo_16 ?_
  rw [nI_pred]
  refine g_putf (ty := .int) dX10_undo_17 fX10_39 (by decide +kernel) (by rfl) (by rfl) (by first | assumption | (repeat' (first | assumption | exact hu_same | exact Ne.symm (by assumption) | apply hu_n1))) (by exact Nat.le_of_ble_eq_true rfl) ?_
  refine g_iconst (v := 0) dX10_undo_20 (by decide) ?_
  refine g_istore_n (L1 := [(0, _), (1, _)]) dX10_undo_21 (by decide) (by rfl) ?_
  have loop22 : ∀ i, i ≤ 643 → G X RX10 cX10_undo 2 (some .int) "undo" (Rm 0 0 0) (Fm X (Ex (.int (nI k)) (hu (hu h a (ob 10 (mdl n1 n2 (nI k) n3 n4 le n5 at0 lt n6 fl n7))) n1 (oI X 643 (nr 643 q)))) 0 0) 0 0 22 [(0, .ref a), (1, .int (nI i))] [] (hu (hu h a (ob 10 [.ref n1, .ref n2, .int (nI k), .ref n3, .ref n4, .int le, .ref n5, .int at0, .int lt, .ref n6, .int fl, .ref n7])) n1 (oI X 643 (cpy (nr 643 r) (nr 643 q) i))) := by
    refine up_ind 643 (fun i hi ih => ?_)
    refine g_iload_n dX10_undo_22 (by rfl) ?_
    refine g_sipush (v := 643) dX10_undo_23 (by decide) ?_
    refine g_icmp_ge (tgt := 56) dX10_undo_26 (by decide) (fun c2 => ?_) (fun c2 => ?_)
    · skip
      have hie : i = 643 := Nat.le_antisymm hi (c_ge (a := 643) (by omega) (by omega) c2)
      subst hie
      refine g_aload_n dX10_undo_56 (by rfl) (by first | exact isRf_r | exact isRf_n | exact isRf_o | assumption) ?_
      refine g_getf dX10_undo_57 fX10_39 (by first | assumption | (repeat' (first | assumption | exact hu_same | exact Ne.symm (by assumption) | apply hu_n1))) (by rfl) ?_
      refine g_iret dX10_undo_60 rfl (Nat.le_refl _) (Nat.le_refl _) ?_
      rw [cpy_all]
      exact ⟨rfl, rfl⟩
    · skip
      have hlt : i < 643 := c_nge (a := 643) (b := i) (by omega) (by omega) c2
      refine g_aload_n dX10_undo_29 (by rfl) (by first | exact isRf_r | exact isRf_n | exact isRf_o | assumption) ?_
      refine g_getf dX10_undo_30 fX10_7 (by first | assumption | (repeat' (first | assumption | exact hu_same | exact Ne.symm (by assumption) | apply hu_n1))) (by rfl) ?_
      refine g_iload_n dX10_undo_33 (by rfl) ?_
      refine g_aload_n dX10_undo_34 (by rfl) (by first | exact isRf_r | exact isRf_n | exact isRf_o | assumption) ?_
      refine g_getf dX10_undo_35 fX10_13 (by first | assumption | (repeat' (first | assumption | exact hu_same | exact Ne.symm (by assumption) | apply hu_n1))) (by rfl) ?_
      refine g_sipush (v := 643) dX10_undo_38 (by decide) ?_
      refine g_aload_n dX10_undo_41 (by rfl) (by first | exact isRf_r | exact isRf_n | exact isRf_o | assumption) ?_
      refine g_getf dX10_undo_42 fX10_39 (by first | assumption | (repeat' (first | assumption | exact hu_same | exact Ne.symm (by assumption) | apply hu_n1))) (by rfl) ?_
      refine g_imul dX10_undo_45 ?_
      refine g_iload_n dX10_undo_46 (by rfl) ?_
      refine g_iadd dX10_undo_47 ?_
      rw [show (643 : Int32) * nI k + nI i = nI (643 * k + i) from lin2]
      refine g_iaN dX10_undo_48 (by first | assumption | (repeat' (first | assumption | exact hu_same | exact Ne.symm (by assumption) | apply hu_n1))) (by omega) (by omega) (by rfl) ?_
      refine g_isN dX10_undo_49 (by first | assumption | (repeat' (first | assumption | exact hu_same | exact Ne.symm (by assumption) | apply hu_n1))) (by omega) (by omega) ?_
      refine g_iinc (v := nI (i + 1)) (L1 := [(0, _), (1, _)]) dX10_undo_50 (by rfl) (nI_1 i) (by decide) (by rfl) ?_
      refine g_goto (tgt := 22) dX10_undo_53 (by decide) ?_
      rw [hu_hu, hg i hlt, ← nr_lt (n := 643) (g := q) hlt, cpy_up]
      exact ih (by omega)
  have l2 := loop22 0 (by omega)
  rw [cpy_0, hu_id (hu_n1 (Ne.symm d0) h1)] at l2
  exact l2
