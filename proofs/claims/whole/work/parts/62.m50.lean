set_option maxHeartbeats 4000000 in
set_option maxRecDepth 100000 in
theorem ct_X10_unserved (X : Cx) {h : Hp} {a n1 : Nat} {r : Nat → Int32} {no : Nat}  (hM : MoAt X h a n1 r) (hno : no ≤ 60) (e9 : r 9 = nI no) (hz : ∀ o, o < no → bz (od r o 4)) : Ct X mX10_unserved 1 0 0 [.ref a] h (Ex (.int (nI (cntN (fun o => decide (od r o 4 = 0)) no))) h) := by
  obtain ⟨⟨n2, st, n3, n4, le, n5, at0, lt, n6, fl, n7, m0⟩, m1⟩ := id hM
  unfold mdl at m0
  refine Ct.ofG vX10_unserved.1.2.2.1 (Nat.le_of_ble_eq_true rfl) ?_
  show G X RX10 cX10_unserved 3 (some .int) "unserved" (Rm 1 0 0) (Fm X (Ex (.int (nI (cntN (fun o => decide (od r o 4 = 0)) no))) h) 0 0) 0 0 0 [(0, .ref a)] [] h
  refine g_iconst (v := 0) dX10_unserved_0 (by decide) ?_
  refine g_istore_n (L1 := [(0, _), (1, _)]) dX10_unserved_1 (by decide) (by rfl) ?_
  refine g_iconst (v := 0) dX10_unserved_2 (by decide) ?_
  refine g_istore_n (L1 := [(0, _), (1, _), (2, _)]) dX10_unserved_3 (by decide) (by rfl) ?_
  have loop4 : ∀ i, i ≤ no → ∀ acc, acc = nI (cntN (fun o => decide (od r o 4 = 0)) i) → G X RX10 cX10_unserved 3 (some .int) "unserved" (Rm 1 0 0) (Fm X (Ex (.int (nI (cntN (fun o => decide (od r o 4 = 0)) no))) h) 0 0) 0 0 4 [(0, .ref a), (1, .int acc), (2, .int (nI i))] [] h := by
    refine up_ind no (fun i hi ih => ?_)
    intro acc eacc
    refine g_iload_n dX10_unserved_4 (by rfl) ?_
    refine g_aload_n dX10_unserved_5 (by rfl) (by first | exact isRf_r | exact isRf_n | exact isRf_o | assumption) ?_
    refine g_getf dX10_unserved_6 fX10_7 (by first | assumption | (repeat' (first | assumption | exact hu_same | exact Ne.symm (by assumption) | apply hu_n1))) (by rfl) ?_
    refine g_bipush (v := 9) dX10_unserved_9 (by decide) ?_
    rw [show (9 : Int32) = nI 9 from rfl]
    refine g_iaN dX10_unserved_11 (by first | assumption | (repeat' (first | assumption | exact hu_same | exact Ne.symm (by assumption) | apply hu_n1))) (by omega) (by omega) (by rfl) ?_
    rw [nr_lt (show 9 < 643 by omega), e9]
    refine g_icmp_ge (tgt := 32) dX10_unserved_12 (by decide) (fun c1 => ?_) (fun c1 => ?_)
    · skip
      have hie : i = no := Nat.le_antisymm hi (c_ge (by omega) (by omega) c1)
      subst hie
      refine g_iload_n dX10_unserved_32 (by rfl) ?_
      refine g_iret dX10_unserved_33 rfl (Nat.le_refl _) (Nat.le_refl _) ?_
      exact Ex.i eacc rfl
    · skip
      have hlt : i < no := c_nge (by omega) (by omega) c1
      refine g_iload_n dX10_unserved_15 (by rfl) ?_
      refine g_iconst (v := 1) dX10_unserved_16 (by decide) ?_
      refine g_aload_n dX10_unserved_17 (by rfl) (by first | exact isRf_r | exact isRf_n | exact isRf_o | assumption) ?_
      refine g_iload_n dX10_unserved_18 (by rfl) ?_
      refine g_iconst (v := 4) dX10_unserved_19 (by decide) ?_
      refine g_cV2x dX10_unserved_20 lX10_134 vX10_orderNumber (ct_X10_orderNumber X (i := i) (k := 4) hM (by omega)) (by first | assumption | (repeat' (first | assumption | exact hu_same | exact Ne.symm (by assumption) | apply hu_n1))) rfl ⟨Nat.le_of_ble_eq_true rfl, Nat.le_of_ble_eq_true rfl⟩ (Nat.le_of_ble_eq_true rfl) ⟨Nat.le_of_ble_eq_true rfl, Nat.le_of_ble_eq_true rfl⟩ ?_
      have eb : (1 : Int32) - r (343 + 5 * i + 4) = bI (decide (od r i 4 = 0)) := by
        have z := hz i hlt
        show (1 : Int32) - od r i 4 = _
        rcases z with z | z
        · rw [z, decide_eq_true rfl]
          decide
        · rw [z, decide_eq_false (by decide)]
          decide
      refine g_isub dX10_unserved_23 ?_
      rw [eb]
      refine g_iadd dX10_unserved_24 ?_
      refine g_istore_n (L1 := [(0, _), (1, _), (2, _)]) dX10_unserved_25 (by decide) (by rfl) ?_
      refine g_iinc (v := nI (i + 1)) (L1 := [(0, _), (1, _), (2, _)]) dX10_unserved_26 (by rfl) (nI_1 i) (by decide) (by rfl) ?_
      refine g_goto (tgt := 4) dX10_unserved_29 (by decide) ?_
      refine ih hlt _ ?_
      cases hp : (fun o => decide (od r o 4 = 0)) i with
      | false =>
        rw [cnt_f hp, show decide (od r i 4 = 0) = false from hp, eacc]
        exact Int32.add_zero _
      | true =>
        rw [cnt_t hp, show decide (od r i 4 = 0) = true from hp, eacc]
        rfl
  exact loop4 0 (by omega) _ rfl
