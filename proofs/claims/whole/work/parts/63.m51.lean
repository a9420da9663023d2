set_option maxHeartbeats 4000000 in
set_option maxRecDepth 100000 in
theorem ct_X10_hanging (X : Cx) {h : Hp} {a n1 : Nat} {r : Nat → Int32} {nl : Nat} {k : Int32}  (hM : MoAt X h a n1 r) (hnl : nl ≤ 20) (e8 : r 8 = nI nl) (hz : ∀ l, l < nl → LOk (ltx r l)) : Ct X mX10_hanging 2 0 0 [.ref a, .int k] h (Ex (.int (nI (cntN (rackB r k) nl))) h) := by
  obtain ⟨⟨n2, st, n3, n4, le, n5, at0, lt, n6, fl, n7, m0⟩, m1⟩ := id hM
  unfold mdl at m0
  refine Ct.ofG vX10_hanging.1.2.2.1 (Nat.le_of_ble_eq_true rfl) ?_
  show G X RX10 cX10_hanging 4 (some .int) "hanging" (Rm 2 0 0) (Fm X (Ex (.int (nI (cntN (rackB r k) nl))) h) 0 0) 0 0 0 [(0, .ref a), (1, .int k)] [] h
  refine g_iconst (v := 0) dX10_hanging_0 (by decide) ?_
  refine g_istore_n (L1 := [(0, _), (1, _), (2, _)]) dX10_hanging_1 (by decide) (by rfl) ?_
  refine g_iconst (v := 0) dX10_hanging_2 (by decide) ?_
  refine g_istore_n (L1 := [(0, _), (1, _), (2, _), (3, _)]) dX10_hanging_3 (by decide) (by rfl) ?_
  have loop4 : ∀ i, i ≤ nl → ∀ acc, acc = nI (cntN (rackB r k) i) → G X RX10 cX10_hanging 4 (some .int) "hanging" (Rm 2 0 0) (Fm X (Ex (.int (nI (cntN (rackB r k) nl))) h) 0 0) 0 0 4 [(0, .ref a), (1, .int k), (2, .int acc), (3, .int (nI i))] [] h := by
    refine up_ind nl (fun i hi ih => ?_)
    intro acc eacc
    refine g_iload_n dX10_hanging_4 (by rfl) ?_
    refine g_aload_n dX10_hanging_5 (by rfl) (by first | exact isRf_r | exact isRf_n | exact isRf_o | assumption) ?_
    refine g_getf dX10_hanging_6 fX10_7 (by first | assumption | (repeat' (first | assumption | exact hu_same | exact Ne.symm (by assumption) | apply hu_n1))) (by rfl) ?_
    refine g_bipush (v := 8) dX10_hanging_9 (by decide) ?_
    rw [show (8 : Int32) = nI 8 from rfl]
    refine g_iaN dX10_hanging_11 (by first | assumption | (repeat' (first | assumption | exact hu_same | exact Ne.symm (by assumption) | apply hu_n1))) (by omega) (by omega) (by rfl) ?_
    rw [nr_lt (show 8 < 643 by omega), e8]
    refine g_icmp_ge (tgt := 47) dX10_hanging_12 (by decide) (fun c1 => ?_) (fun c1 => ?_)
    · skip
      have hie : i = nl := Nat.le_antisymm hi (c_ge (by omega) (by omega) c1)
      subst hie
      refine g_iload_n dX10_hanging_47 (by rfl) ?_
      refine g_iret dX10_hanging_48 rfl (Nat.le_refl _) (Nat.le_refl _) ?_
      exact Ex.i eacc rfl
    · skip
      have hlt : i < nl := c_nge (by omega) (by omega) c1
      refine g_iload_n dX10_hanging_15 (by rfl) ?_
      refine g_aload_n dX10_hanging_16 (by rfl) (by first | exact isRf_r | exact isRf_n | exact isRf_o | assumption) ?_
      refine g_iload_n dX10_hanging_17 (by rfl) ?_
      refine g_cV1x dX10_hanging_18 lX10_100 vX10_hangs (ct_X10_hangs X (l := i) hM (by omega) (hz i hlt).b10) (by first | assumption | (repeat' (first | assumption | exact hu_same | exact Ne.symm (by assumption) | apply hu_n1))) rfl ⟨Nat.le_of_ble_eq_true rfl, Nat.le_of_ble_eq_true rfl⟩ (Nat.le_of_ble_eq_true rfl) ⟨Nat.le_of_ble_eq_true rfl, Nat.le_of_ble_eq_true rfl⟩ ?_
      refine g_if_eq (tgt := 38) dX10_hanging_21 (by decide) (fun c2 => ?_) (fun c2 => ?_)
      · skip
        have hp : rackB r k i = false := by
          show (hangs r i && decide _) = false
          rw [bI_0 c2]
          rfl
        refine g_iconst (v := 0) dX10_hanging_38 (by decide) ?_
        refine g_iadd dX10_hanging_39 ?_
        refine g_istore_n (L1 := [(0, _), (1, _), (2, _), (3, _)]) dX10_hanging_40 (by decide) (by rfl) ?_
        refine g_iinc (v := nI (i + 1)) (L1 := [(0, _), (1, _), (2, _), (3, _)]) dX10_hanging_41 (by rfl) (nI_1 i) (by decide) (by rfl) ?_
        refine g_goto (tgt := 4) dX10_hanging_44 (by decide) ?_
        refine ih hlt _ ?_
        first
          | (rw [cnt_f hp, eacc]; exact Int32.add_zero _)
          | (rw [cnt_t hp, eacc])
      · skip
        have hh : hangs r i = true := bI_1 c2
        refine g_aload_n dX10_hanging_24 (by rfl) (by first | exact isRf_r | exact isRf_n | exact isRf_o | assumption) ?_
        refine g_iload_n dX10_hanging_25 (by rfl) ?_
        refine g_iconst (v := 0) dX10_hanging_26 (by decide) ?_
        refine g_cV2x dX10_hanging_27 lX10_35 vX10_lotNumber (ct_X10_lotNumber X (i := i) (k := 0) hM (by omega)) (by first | assumption | (repeat' (first | assumption | exact hu_same | exact Ne.symm (by assumption) | apply hu_n1))) rfl ⟨Nat.le_of_ble_eq_true rfl, Nat.le_of_ble_eq_true rfl⟩ (Nat.le_of_ble_eq_true rfl) ⟨Nat.le_of_ble_eq_true rfl, Nat.le_of_ble_eq_true rfl⟩ ?_
        refine g_iload_n dX10_hanging_30 (by rfl) ?_
        refine g_icmp_ne (tgt := 38) dX10_hanging_31 (by decide) (fun c3 => ?_) (fun c3 => ?_)
        · skip
          have hp : rackB r k i = false := by
            show (hangs r i && decide (ltx r i 0 = k)) = false
            rw [hh, decide_eq_false (show ¬ ltx r i 0 = k from c3)]
            rfl
          refine g_iconst (v := 0) dX10_hanging_38 (by decide) ?_
          refine g_iadd dX10_hanging_39 ?_
          refine g_istore_n (L1 := [(0, _), (1, _), (2, _), (3, _)]) dX10_hanging_40 (by decide) (by rfl) ?_
          refine g_iinc (v := nI (i + 1)) (L1 := [(0, _), (1, _), (2, _), (3, _)]) dX10_hanging_41 (by rfl) (nI_1 i) (by decide) (by rfl) ?_
          refine g_goto (tgt := 4) dX10_hanging_44 (by decide) ?_
          refine ih hlt _ ?_
          first
            | (rw [cnt_f hp, eacc]; exact Int32.add_zero _)
            | (rw [cnt_t hp, eacc])
        · skip
          have hp : rackB r k i = true := by
            show (hangs r i && decide (ltx r i 0 = k)) = true
            rw [hh, decide_eq_true (show ltx r i 0 = k from by first | exact c3 | exact Classical.byContradiction c3)]
            rfl
          refine g_iconst (v := 1) dX10_hanging_34 (by decide) ?_
          refine g_goto (tgt := 39) dX10_hanging_35 (by decide) ?_
          refine g_iadd dX10_hanging_39 ?_
          refine g_istore_n (L1 := [(0, _), (1, _), (2, _), (3, _)]) dX10_hanging_40 (by decide) (by rfl) ?_
          refine g_iinc (v := nI (i + 1)) (L1 := [(0, _), (1, _), (2, _), (3, _)]) dX10_hanging_41 (by rfl) (nI_1 i) (by decide) (by rfl) ?_
          refine g_goto (tgt := 4) dX10_hanging_44 (by decide) ?_
          refine ih hlt _ ?_
          first
            | (rw [cnt_f hp, eacc]; exact Int32.add_zero _)
            | (rw [cnt_t hp, eacc])
  exact loop4 0 (by omega) _ rfl
