theorem lt_cell {l k : Nat} (h : l < 20) (hk : k < 15) : 43 + 15 * l + k < 643 := by omega
theorem sold_pos {r : Nat → Int32} {l : Nat} (h : 0 ≤ (ltx r l 13).toInt) : (¬ r (43 + 15 * l + 13) ≤ 0) ↔ sold r l = true := by
  unfold sold
  rw [decide_eq_true_iff]
  show (¬ ltx r l 13 ≤ 0) ↔ ¬ ltx r l 13 = 0
  rw [i_le, z_toInt]
  refine ⟨fun c e => c (by rw [e, z_toInt]; omega), fun c z => c ?_⟩
  exact Int32.toInt_inj.mp (by rw [z_toInt]; omega)

set_option maxHeartbeats 4000000 in
set_option maxRecDepth 100000 in
theorem ct_X10_isSold (X : Cx) {h : Hp} {a n1 : Nat} {r : Nat → Int32} {l : Nat}  (hM : MoAt X h a n1 r) (hl : l < 20) (hx : 0 ≤ (ltx r l 13).toInt) : Ct X mX10_isSold 1 0 0 [.ref a, .int (nI l)] h (Ex (.int (bI (sold r l))) h) := by
  obtain ⟨⟨n2, st, n3, n4, le, n5, at0, lt, n6, fl, n7, m0⟩, m1⟩ := id hM
  unfold mdl at m0
  refine Ct.ofG vX10_isSold.1.2.2.1 (Nat.le_of_ble_eq_true rfl) ?_
  show G X RX10 cX10_isSold 2 (some .boolean) "isSold" (Rm 1 0 0) (Fm X (Ex (.int (bI (sold r l))) h) 0 0) 0 0 0 [(0, .ref a), (1, .int (nI l))] [] h
  refine g_aload_n dX10_isSold_0 (by rfl) (by first | exact isRf_r | exact isRf_n | exact isRf_o | assumption) ?_
  refine g_iload_n dX10_isSold_1 (by rfl) ?_
  refine g_bipush (v := 13) dX10_isSold_2 (by decide) ?_
  refine g_cV2x dX10_isSold_4 lX10_35 vX10_lotNumber (ct_X10_lotNumber X (k := 13) hM (lt_cell hl (by omega))) (by first | assumption | (repeat' (first | assumption | exact hu_same | exact Ne.symm (by assumption) | apply hu_n1))) rfl ⟨Nat.le_of_ble_eq_true rfl, Nat.le_of_ble_eq_true rfl⟩ (Nat.le_of_ble_eq_true rfl) ⟨Nat.le_of_ble_eq_true rfl, Nat.le_of_ble_eq_true rfl⟩ ?_
  refine g_if_le (tgt := 14) dX10_isSold_7 (by decide) (fun c1 => ?_) (fun c1 => ?_)
  · skip
    have e : sold r l = false := by
      cases z : sold r l with
      | false => rfl
      | true => exact absurd c1 ((sold_pos hx).mpr z)
    refine g_iconst (v := 0) dX10_isSold_14 (by decide) ?_
    refine g_zret dX10_isSold_15 rfl (by decide) (Nat.le_refl _) (Nat.le_refl _) ?_
    refine Ex.i ?_ rfl
    rw [e]
    rfl
  · skip
    have e : sold r l = true := (sold_pos hx).mp c1
    refine g_iconst (v := 1) dX10_isSold_10 (by decide) ?_
    refine g_goto (tgt := 15) dX10_isSold_11 (by decide) ?_
    refine g_zret dX10_isSold_15 rfl (by decide) (Nat.le_refl _) (Nat.le_refl _) ?_
    refine Ex.i ?_ rfl
    rw [e]
    rfl

set_option maxHeartbeats 4000000 in
set_option maxRecDepth 100000 in
theorem ct_X10_hangs (X : Cx) {h : Hp} {a n1 : Nat} {r : Nat → Int32} {l : Nat}  (hM : MoAt X h a n1 r) (hl : l < 20) (hx : bz (ltx r l 10)) : Ct X mX10_hangs 1 0 0 [.ref a, .int (nI l)] h (Ex (.int (bI (hangs r l))) h) := by
  obtain ⟨⟨n2, st, n3, n4, le, n5, at0, lt, n6, fl, n7, m0⟩, m1⟩ := id hM
  unfold mdl at m0
  refine Ct.ofG vX10_hangs.1.2.2.1 (Nat.le_of_ble_eq_true rfl) ?_
  show G X RX10 cX10_hangs 2 (some .boolean) "hangs" (Rm 1 0 0) (Fm X (Ex (.int (bI (hangs r l))) h) 0 0) 0 0 0 [(0, .ref a), (1, .int (nI l))] [] h
  refine g_aload_n dX10_hangs_0 (by rfl) (by first | exact isRf_r | exact isRf_n | exact isRf_o | assumption) ?_
  refine g_iload_n dX10_hangs_1 (by rfl) ?_
  refine g_bipush (v := 10) dX10_hangs_2 (by decide) ?_
  refine g_cV2x dX10_hangs_4 lX10_35 vX10_lotNumber (ct_X10_lotNumber X (k := 10) hM (lt_cell hl (by omega))) (by first | assumption | (repeat' (first | assumption | exact hu_same | exact Ne.symm (by assumption) | apply hu_n1))) rfl ⟨Nat.le_of_ble_eq_true rfl, Nat.le_of_ble_eq_true rfl⟩ (Nat.le_of_ble_eq_true rfl) ⟨Nat.le_of_ble_eq_true rfl, Nat.le_of_ble_eq_true rfl⟩ ?_
  refine g_iconst (v := 1) dX10_hangs_7 (by decide) ?_
  refine g_icmp_ne (tgt := 15) dX10_hangs_8 (by decide) (fun c1 => ?_) (fun c1 => ?_)
  · skip
    have e : hangs r l = false := by
      rcases hx with z | z
      · exact decide_eq_false (fun y => y z)
      · exact absurd z c1
    refine g_iconst (v := 0) dX10_hangs_15 (by decide) ?_
    refine g_zret dX10_hangs_16 rfl (by decide) (Nat.le_refl _) (Nat.le_refl _) ?_
    refine Ex.i ?_ rfl
    rw [e]
    rfl
  · skip
    have e : hangs r l = true := by
      have z : ltx r l 10 = 1 := by
        first
          | exact c1
          | exact Classical.byContradiction c1
      exact decide_eq_true (fun y => by rw [z] at y; cases y)
    refine g_iconst (v := 1) dX10_hangs_11 (by decide) ?_
    refine g_goto (tgt := 16) dX10_hangs_12 (by decide) ?_
    refine g_zret dX10_hangs_16 rfl (by decide) (Nat.le_refl _) (Nat.le_refl _) ?_
    refine Ex.i ?_ rfl
    rw [e]
    rfl
