set_option maxHeartbeats 4000000 in
set_option maxRecDepth 100000 in
theorem ct_X10_inVats (X : Cx) {h : Hp} {a n1 : Nat} {r : Nat → Int32} {nv : Nat} {d : Int32}  (hM : MoAt X h a n1 r) (hnv : nv ≤ 6) (e7 : r 7 = nI nv) : Ct X mX10_inVats 1 0 0 [.ref a, .int d] h (Ex (.int (sumP (fun v => decide (vt r v 0 = d)) (fun v => vt r v 2) nv)) h) := by
  obtain ⟨⟨n2, st, n3, n4, le, n5, at0, lt, n6, fl, n7, m0⟩, m1⟩ := id hM
  unfold mdl at m0
  refine Ct.ofG vX10_inVats.1.2.2.1 (Nat.le_of_ble_eq_true rfl) ?_
  show G X RX10 cX10_inVats 4 (some .int) "inVats" (Rm 1 0 0) (Fm X (Ex (.int (sumP (fun v => decide (vt r v 0 = d)) (fun v => vt r v 2) nv)) h) 0 0) 0 0 0 [(0, .ref a), (1, .int d)] [] h
  refine g_iconst (v := 0) dX10_inVats_0 (by decide) ?_
  refine g_istore_n (L1 := [(0, _), (1, _), (2, _)]) dX10_inVats_1 (by decide) (by rfl) ?_
  refine g_iconst (v := 0) dX10_inVats_2 (by decide) ?_
  refine g_istore_n (L1 := [(0, _), (1, _), (2, _), (3, _)]) dX10_inVats_3 (by decide) (by rfl) ?_
  have loop4 : ∀ i, i ≤ nv → ∀ acc, acc = sumP (fun v => decide (vt r v 0 = d)) (fun v => vt r v 2) i → G X RX10 cX10_inVats 4 (some .int) "inVats" (Rm 1 0 0) (Fm X (Ex (.int (sumP (fun v => decide (vt r v 0 = d)) (fun v => vt r v 2) nv)) h) 0 0) 0 0 4 [(0, .ref a), (1, .int d), (2, .int acc), (3, .int (nI i))] [] h := by
    refine up_ind nv (fun i hi ih => ?_)
    intro acc eacc
    refine g_iload_n dX10_inVats_4 (by rfl) ?_
    refine g_aload_n dX10_inVats_5 (by rfl) (by first | exact isRf_r | exact isRf_n | exact isRf_o | assumption) ?_
    refine g_getf dX10_inVats_6 fX10_7 (by first | assumption | (repeat' (first | assumption | exact hu_same | exact Ne.symm (by assumption) | apply hu_n1))) (by rfl) ?_
    refine g_bipush (v := 7) dX10_inVats_9 (by decide) ?_
    rw [show (7 : Int32) = nI 7 from rfl]
    refine g_iaN dX10_inVats_11 (by first | assumption | (repeat' (first | assumption | exact hu_same | exact Ne.symm (by assumption) | apply hu_n1))) (by omega) (by omega) (by rfl) ?_
    rw [nr_lt (show 7 < 643 by omega), e7]
    refine g_icmp_ge (tgt := 44) dX10_inVats_12 (by decide) (fun c1 => ?_) (fun c1 => ?_)
    · skip
      have hie : i = nv := Nat.le_antisymm hi (c_ge (by omega) (by omega) c1)
      subst hie
      refine g_iload_n dX10_inVats_44 (by rfl) ?_
      refine g_iret dX10_inVats_45 rfl (Nat.le_refl _) (Nat.le_refl _) ?_
      exact Ex.i eacc rfl
    · skip
      have hlt : i < nv := c_nge (by omega) (by omega) c1
      refine g_iload_n dX10_inVats_15 (by rfl) ?_
      refine g_aload_n dX10_inVats_16 (by rfl) (by first | exact isRf_r | exact isRf_n | exact isRf_o | assumption) ?_
      refine g_iload_n dX10_inVats_17 (by rfl) ?_
      refine g_iconst (v := 0) dX10_inVats_18 (by decide) ?_
      refine g_cV2x dX10_inVats_19 lX10_57 vX10_vatNumber (ct_X10_vatNumber X (i := i) (k := 0) hM (by omega)) (by first | assumption | (repeat' (first | assumption | exact hu_same | exact Ne.symm (by assumption) | apply hu_n1))) rfl ⟨Nat.le_of_ble_eq_true rfl, Nat.le_of_ble_eq_true rfl⟩ (Nat.le_of_ble_eq_true rfl) ⟨Nat.le_of_ble_eq_true rfl, Nat.le_of_ble_eq_true rfl⟩ ?_
      refine g_iload_n dX10_inVats_22 (by rfl) ?_
      refine g_icmp_ne (tgt := 35) dX10_inVats_23 (by decide) (fun c2 => ?_) (fun c2 => ?_)
      · skip
        have hp : (fun v => decide (vt r v 0 = d)) i = false := decide_eq_false (show ¬ vt r i 0 = d from c2)
        refine g_iconst (v := 0) dX10_inVats_35 (by decide) ?_
        refine g_iadd dX10_inVats_36 ?_
        refine g_istore_n (L1 := [(0, _), (1, _), (2, _), (3, _)]) dX10_inVats_37 (by decide) (by rfl) ?_
        refine g_iinc (v := nI (i + 1)) (L1 := [(0, _), (1, _), (2, _), (3, _)]) dX10_inVats_38 (by rfl) (nI_1 i) (by decide) (by rfl) ?_
        refine g_goto (tgt := 4) dX10_inVats_41 (by decide) ?_
        refine ih hlt _ ?_
        first
          | (rw [sumI_f hp, eacc]; exact Int32.add_zero _)
          | (rw [sumI_t hp, eacc]; rfl)
      · skip
        have hp : (fun v => decide (vt r v 0 = d)) i = true := decide_eq_true (show vt r i 0 = d from by first | exact c2 | exact Classical.byContradiction c2)
        refine g_aload_n dX10_inVats_26 (by rfl) (by first | exact isRf_r | exact isRf_n | exact isRf_o | assumption) ?_
        refine g_iload_n dX10_inVats_27 (by rfl) ?_
        refine g_iconst (v := 2) dX10_inVats_28 (by decide) ?_
        refine g_cV2x dX10_inVats_29 lX10_57 vX10_vatNumber (ct_X10_vatNumber X (i := i) (k := 2) hM (by omega)) (by first | assumption | (repeat' (first | assumption | exact hu_same | exact Ne.symm (by assumption) | apply hu_n1))) rfl ⟨Nat.le_of_ble_eq_true rfl, Nat.le_of_ble_eq_true rfl⟩ (Nat.le_of_ble_eq_true rfl) ⟨Nat.le_of_ble_eq_true rfl, Nat.le_of_ble_eq_true rfl⟩ ?_
        refine g_goto (tgt := 36) dX10_inVats_32 (by decide) ?_
        refine g_iadd dX10_inVats_36 ?_
        refine g_istore_n (L1 := [(0, _), (1, _), (2, _), (3, _)]) dX10_inVats_37 (by decide) (by rfl) ?_
        refine g_iinc (v := nI (i + 1)) (L1 := [(0, _), (1, _), (2, _), (3, _)]) dX10_inVats_38 (by rfl) (nI_1 i) (by decide) (by rfl) ?_
        refine g_goto (tgt := 4) dX10_inVats_41 (by decide) ?_
        refine ih hlt _ ?_
        first
          | (rw [sumI_f hp, eacc]; exact Int32.add_zero _)
          | (rw [sumI_t hp, eacc]; rfl)
  exact loop4 0 (by omega) _ rfl
