def cntW (w : Nat) (x : Nat → Int32) : Bool := match w with
  | 2 => decide (x 13 = 0)
  | 3 => decide (¬ x 10 = 0)
  | 4 => decide (x 13 = 0) && decide (¬ x 11 = 0)
  | 5 => decide (¬ x 12 = 0)
  | _ => decide (¬ x 13 = 0)
theorem bz_b {x : Int32} (h : bz x) : x = bI (decide (¬ x = 0)) := by rcases h with rfl | rfl <;> decide
theorem nn {x : Int32} (h : ¬ ¬ x = 0) : x = 0 := Classical.byContradiction h

set_option maxHeartbeats 4000000 in
set_option maxRecDepth 100000 in
theorem ct_X1_isCounted2 (X : Cx) {h : Hp} {a af al : Nat} {x : Nat → Int32}  (b0 : bz (x 10)) (b1 : bz (x 12)) (hl : LotAt X h a af al x) : Ct X mX1_isCounted 1 0 0 [.ref a, .int (nI 2)] h (Ex (.int (bI (cntW 2 x))) h) := by
  have l0 := hl
  obtain ⟨l1, l2, l3⟩ := l0
  unfold lotC at l1
  unfold fixA at l2
  unfold looA at l3
  refine Ct.ofG vX1_isCounted.1.2.2.1 (Nat.le_of_ble_eq_true rfl) ?_
  show G X RX1 cX1_isCounted 2 (some .boolean) "isCounted" (Rm 1 0 0) (Fm X (Ex (.int (bI (cntW 2 x))) h) 0 0) 0 0 0 [(0, .ref a), (1, .int (nI 2))] [] h
  refine g_iload_n dX1_isCounted_0 (by rfl) ?_
  refine g_tableIn (tgt := 36) (off := 35) dX1_isCounted_1 (by decide) (by decide) (by decide) (by decide) ?_
  refine g_aload_n dX1_isCounted_36 (by rfl) (by first | exact isRf_r | exact isRf_n | exact isRf_o | assumption) ?_
  refine g_cV0x dX1_isCounted_37 lX1_128 vX2_isSold (ct_X2_isSold X hl) (by first | assumption | (repeat' (first | assumption | exact hu_same | exact Ne.symm (by assumption) | apply hu_n1))) rfl ⟨Nat.le_of_ble_eq_true rfl, Nat.le_of_ble_eq_true rfl⟩ (Nat.le_of_ble_eq_true rfl) ⟨Nat.le_of_ble_eq_true rfl, Nat.le_of_ble_eq_true rfl⟩ ?_
  refine g_if_ne (tgt := 47) dX1_isCounted_40 (by decide) (fun c1 => ?_) (fun c1 => ?_)
  · skip
    refine g_iconst (v := 0) dX1_isCounted_47 (by decide) ?_
    refine g_zret dX1_isCounted_48 rfl (by decide) (Nat.le_refl _) (Nat.le_refl _) ?_
    exact Ex.i (by first | (have z := bI_d1 _ c1; simp [cntW, z, bI]) | (have z := nn (bI_d0 _ c1); simp [cntW, z, bI])) rfl
  · skip
    refine g_iconst (v := 1) dX1_isCounted_43 (by decide) ?_
    refine g_goto (tgt := 48) dX1_isCounted_44 (by decide) ?_
    refine g_zret dX1_isCounted_48 rfl (by decide) (Nat.le_refl _) (Nat.le_refl _) ?_
    exact Ex.i (by first | (have z := bI_d1 _ c1; simp [cntW, z, bI]) | (have z := nn (bI_d0 _ c1); simp [cntW, z, bI])) rfl

set_option maxHeartbeats 4000000 in
set_option maxRecDepth 100000 in
theorem ct_X1_isCounted3 (X : Cx) {h : Hp} {a af al : Nat} {x : Nat → Int32}  (b0 : bz (x 10)) (b1 : bz (x 12)) (hl : LotAt X h a af al x) : Ct X mX1_isCounted 1 0 0 [.ref a, .int (nI 3)] h (Ex (.int (bI (cntW 3 x))) h) := by
  have l0 := hl
  obtain ⟨l1, l2, l3⟩ := l0
  unfold lotC at l1
  unfold fixA at l2
  unfold looA at l3
  refine Ct.ofG vX1_isCounted.1.2.2.1 (Nat.le_of_ble_eq_true rfl) ?_
  show G X RX1 cX1_isCounted 2 (some .boolean) "isCounted" (Rm 1 0 0) (Fm X (Ex (.int (bI (cntW 3 x))) h) 0 0) 0 0 0 [(0, .ref a), (1, .int (nI 3))] [] h
  refine g_iload_n dX1_isCounted_0 (by rfl) ?_
  refine g_tableIn (tgt := 49) (off := 48) dX1_isCounted_1 (by decide) (by decide) (by decide) (by decide) ?_
  refine g_aload_n dX1_isCounted_49 (by rfl) (by first | exact isRf_r | exact isRf_n | exact isRf_o | assumption) ?_
  refine g_getf dX1_isCounted_50 fX1_132 (by first | assumption | (repeat' (first | assumption | exact hu_same | exact Ne.symm (by assumption) | apply hu_n1))) (by rfl) ?_
  refine g_zret dX1_isCounted_53 rfl (bz_n b0) (Nat.le_refl _) (Nat.le_refl _) ?_
  exact Ex.i (bz_b b0) rfl

set_option maxHeartbeats 4000000 in
set_option maxRecDepth 100000 in
theorem ct_X1_isCounted4 (X : Cx) {h : Hp} {a af al : Nat} {x : Nat → Int32}  (b0 : bz (x 10)) (b1 : bz (x 12)) (hl : LotAt X h a af al x) : Ct X mX1_isCounted 1 0 0 [.ref a, .int (nI 4)] h (Ex (.int (bI (cntW 4 x))) h) := by
  have l0 := hl
  obtain ⟨l1, l2, l3⟩ := l0
  unfold lotC at l1
  unfold fixA at l2
  unfold looA at l3
  refine Ct.ofG vX1_isCounted.1.2.2.1 (Nat.le_of_ble_eq_true rfl) ?_
  show G X RX1 cX1_isCounted 2 (some .boolean) "isCounted" (Rm 1 0 0) (Fm X (Ex (.int (bI (cntW 4 x))) h) 0 0) 0 0 0 [(0, .ref a), (1, .int (nI 4))] [] h
  refine g_iload_n dX1_isCounted_0 (by rfl) ?_
  refine g_tableIn (tgt := 54) (off := 53) dX1_isCounted_1 (by decide) (by decide) (by decide) (by decide) ?_
  refine g_aload_n dX1_isCounted_54 (by rfl) (by first | exact isRf_r | exact isRf_n | exact isRf_o | assumption) ?_
  refine g_cV0x dX1_isCounted_55 lX1_128 vX2_isSold (ct_X2_isSold X hl) (by first | assumption | (repeat' (first | assumption | exact hu_same | exact Ne.symm (by assumption) | apply hu_n1))) rfl ⟨Nat.le_of_ble_eq_true rfl, Nat.le_of_ble_eq_true rfl⟩ (Nat.le_of_ble_eq_true rfl) ⟨Nat.le_of_ble_eq_true rfl, Nat.le_of_ble_eq_true rfl⟩ ?_
  refine g_if_ne (tgt := 72) dX1_isCounted_58 (by decide) (fun c1 => ?_) (fun c1 => ?_)
  · skip
    refine g_iconst (v := 0) dX1_isCounted_72 (by decide) ?_
    refine g_zret dX1_isCounted_73 rfl (by decide) (Nat.le_refl _) (Nat.le_refl _) ?_
    exact Ex.i (by first | (have z := bI_d1 _ c1; simp [cntW, z, bI]) | (have z := nn (bI_d0 _ c1); simp [cntW, z, c2, bI])) rfl
  · skip
    refine g_aload_n dX1_isCounted_61 (by rfl) (by first | exact isRf_r | exact isRf_n | exact isRf_o | assumption) ?_
    refine g_getf dX1_isCounted_62 fX1_216 (by first | assumption | (repeat' (first | assumption | exact hu_same | exact Ne.symm (by assumption) | apply hu_n1))) (by rfl) ?_
    refine g_if_eq (tgt := 72) dX1_isCounted_65 (by decide) (fun c2 => ?_) (fun c2 => ?_)
    · skip
      refine g_iconst (v := 0) dX1_isCounted_72 (by decide) ?_
      refine g_zret dX1_isCounted_73 rfl (by decide) (Nat.le_refl _) (Nat.le_refl _) ?_
      exact Ex.i (by first | (have z := bI_d1 _ c1; simp [cntW, z, bI]) | (have z := nn (bI_d0 _ c1); simp [cntW, z, c2, bI])) rfl
    · skip
      refine g_iconst (v := 1) dX1_isCounted_68 (by decide) ?_
      refine g_goto (tgt := 73) dX1_isCounted_69 (by decide) ?_
      refine g_zret dX1_isCounted_73 rfl (by decide) (Nat.le_refl _) (Nat.le_refl _) ?_
      exact Ex.i (by first | (have z := bI_d1 _ c1; simp [cntW, z, bI]) | (have z := nn (bI_d0 _ c1); simp [cntW, z, c2, bI])) rfl

set_option maxHeartbeats 4000000 in
set_option maxRecDepth 100000 in
theorem ct_X1_isCounted5 (X : Cx) {h : Hp} {a af al : Nat} {x : Nat → Int32}  (b0 : bz (x 10)) (b1 : bz (x 12)) (hl : LotAt X h a af al x) : Ct X mX1_isCounted 1 0 0 [.ref a, .int (nI 5)] h (Ex (.int (bI (cntW 5 x))) h) := by
  have l0 := hl
  obtain ⟨l1, l2, l3⟩ := l0
  unfold lotC at l1
  unfold fixA at l2
  unfold looA at l3
  refine Ct.ofG vX1_isCounted.1.2.2.1 (Nat.le_of_ble_eq_true rfl) ?_
  show G X RX1 cX1_isCounted 2 (some .boolean) "isCounted" (Rm 1 0 0) (Fm X (Ex (.int (bI (cntW 5 x))) h) 0 0) 0 0 0 [(0, .ref a), (1, .int (nI 5))] [] h
  refine g_iload_n dX1_isCounted_0 (by rfl) ?_
  refine g_tableIn (tgt := 74) (off := 73) dX1_isCounted_1 (by decide) (by decide) (by decide) (by decide) ?_
  refine g_aload_n dX1_isCounted_74 (by rfl) (by first | exact isRf_r | exact isRf_n | exact isRf_o | assumption) ?_
  refine g_getf dX1_isCounted_75 fX1_219 (by first | assumption | (repeat' (first | assumption | exact hu_same | exact Ne.symm (by assumption) | apply hu_n1))) (by rfl) ?_
  refine g_zret dX1_isCounted_78 rfl (bz_n b1) (Nat.le_refl _) (Nat.le_refl _) ?_
  exact Ex.i (bz_b b1) rfl

set_option maxHeartbeats 4000000 in
set_option maxRecDepth 100000 in
theorem ct_X1_isCounted6 (X : Cx) {h : Hp} {a af al : Nat} {x : Nat → Int32}  (b0 : bz (x 10)) (b1 : bz (x 12)) (hl : LotAt X h a af al x) : Ct X mX1_isCounted 1 0 0 [.ref a, .int (nI 6)] h (Ex (.int (bI (cntW 6 x))) h) := by
  have l0 := hl
  obtain ⟨l1, l2, l3⟩ := l0
  unfold lotC at l1
  unfold fixA at l2
  unfold looA at l3
  refine Ct.ofG vX1_isCounted.1.2.2.1 (Nat.le_of_ble_eq_true rfl) ?_
  show G X RX1 cX1_isCounted 2 (some .boolean) "isCounted" (Rm 1 0 0) (Fm X (Ex (.int (bI (cntW 6 x))) h) 0 0) 0 0 0 [(0, .ref a), (1, .int (nI 6))] [] h
  refine g_iload_n dX1_isCounted_0 (by rfl) ?_
  refine g_tableIn (tgt := 79) (off := 78) dX1_isCounted_1 (by decide) (by decide) (by decide) (by decide) ?_
  refine g_aload_n dX1_isCounted_79 (by rfl) (by first | exact isRf_r | exact isRf_n | exact isRf_o | assumption) ?_
  refine g_cV0x dX1_isCounted_80 lX1_128 vX2_isSold (ct_X2_isSold X hl) (by first | assumption | (repeat' (first | assumption | exact hu_same | exact Ne.symm (by assumption) | apply hu_n1))) rfl ⟨Nat.le_of_ble_eq_true rfl, Nat.le_of_ble_eq_true rfl⟩ (Nat.le_of_ble_eq_true rfl) ⟨Nat.le_of_ble_eq_true rfl, Nat.le_of_ble_eq_true rfl⟩ ?_
  refine g_zret dX1_isCounted_83 rfl (bI_nz _) (Nat.le_refl _) (Nat.le_refl _) ?_
  exact ⟨rfl, rfl⟩

theorem ct_X1_isCounted (X : Cx) {h : Hp} {a af al w : Nat} {x : Nat → Int32} (hw : 2 ≤ w ∧ w ≤ 6) (b0 : bz (x 10)) (b1 : bz (x 12)) (hl : LotAt X h a af al x) : Ct X mX1_isCounted 1 0 0 [.ref a, .int (nI w)] h (Ex (.int (bI (cntW w x))) h) := by
  rcases (show w = 2 ∨ w = 3 ∨ w = 4 ∨ w = 5 ∨ w = 6 by omega) with rfl | rfl | rfl | rfl | rfl
  · exact ct_X1_isCounted2 X b0 b1 hl
  · exact ct_X1_isCounted3 X b0 b1 hl
  · exact ct_X1_isCounted4 X b0 b1 hl
  · exact ct_X1_isCounted5 X b0 b1 hl
  · exact ct_X1_isCounted6 X b0 b1 hl
theorem LOk.b10 {x : Nat → Int32} (k : LOk x) : bz (x 10) := by
  obtain ⟨-, -, -, -, b, -⟩ := k
  exact b
theorem LOk.b12 {x : Nat → Int32} (k : LOk x) : bz (x 12) := by
  obtain ⟨-, -, -, -, -, -, b, -⟩ := k
  exact b

set_option maxHeartbeats 4000000 in
set_option maxRecDepth 100000 in
theorem ct_X1_lotsCounted (X : Cx) {h : Hp} {A : Nat → Nat} {r : Nat → Int32} {nl w : Nat}  (hw : 2 ≤ w ∧ w ≤ 6) (hnl : nl ≤ 20) (e8 : r 8 = nI nl) (hlok : ∀ l, l < nl → LOk (ltx r l)) (hA : HouseAt X h A r) : Ct X mX1_lotsCounted 2 0 0 [.ref (A 0), .int (nI w)] h (Ex (.int (nI (cntN (fun l => cntW w (ltx r l)) nl))) h) := by
  have hA0 := hA
  obtain ⟨a0, a1, a2, a3, a4, a5, a6, av, al, ao⟩ := hA0
  unfold hobC at a0
  rw [e8] at a0
  refine Ct.ofG vX1_lotsCounted.1.2.2.1 (Nat.le_of_ble_eq_true rfl) ?_
  show G X RX1 cX1_lotsCounted 5 (some .int) "lotsCounted" (Rm 2 0 0) (Fm X (Ex (.int (nI (cntN (fun l => cntW w (ltx r l)) nl))) h) 0 0) 0 0 0 [(0, .ref (A 0)), (1, .int (nI w))] [] h
  refine g_iconst (v := 0) dX1_lotsCounted_0 (by decide) ?_
  refine g_istore_n (L1 := [(0, _), (1, _), (2, _)]) dX1_lotsCounted_1 (by decide) (by rfl) ?_
  refine g_iconst (v := 0) dX1_lotsCounted_2 (by decide) ?_
  refine g_istore_n (L1 := [(0, _), (1, _), (2, _), (3, _)]) dX1_lotsCounted_3 (by decide) (by rfl) ?_
  have loop4 : ∀ j, j ≤ nl → ∀ acc, acc = nI (cntN (fun l => cntW w (ltx r l)) j) → G X RX1 cX1_lotsCounted 5 (some .int) "lotsCounted" (Rm 2 0 0) (Fm X (Ex (.int (nI (cntN (fun l => cntW w (ltx r l)) nl))) h) 0 0) 0 0 4 [(0, .ref (A 0)), (1, .int (nI w)), (2, .int acc), (3, .int (nI j))] [] h := by
    refine up_ind nl (fun j hj ih => ?_)
    intro acc eacc
    refine g_iload_n dX1_lotsCounted_4 (by rfl) ?_
    refine g_aload_n dX1_lotsCounted_5 (by rfl) (by first | exact isRf_r | exact isRf_n | exact isRf_o | assumption) ?_
    refine g_getf dX1_lotsCounted_6 fX1_50 (by first | assumption | (repeat' (first | assumption | exact hu_same | exact Ne.symm (by assumption) | apply hu_n1))) (by rfl) ?_
    refine g_icmp_ge (tgt := 42) dX1_lotsCounted_9 (by decide) (fun c1 => ?_) (fun c1 => ?_)
    · skip
      have hje : j = nl := Nat.le_antisymm hj (c_ge (a := nl) (by omega) (by omega) c1)
      subst hje
      refine g_iload_n dX1_lotsCounted_42 (by rfl) ?_
      refine g_iret dX1_lotsCounted_43 rfl (Nat.le_refl _) (Nat.le_refl _) ?_
      exact ⟨by rw [eacc], rfl⟩
    · skip
      have hlt : j < nl := c_nge (a := nl) (b := j) (by omega) (by omega) c1
      refine g_aload_n dX1_lotsCounted_12 (by rfl) (by first | exact isRf_r | exact isRf_n | exact isRf_o | assumption) ?_
      refine g_iload_n dX1_lotsCounted_13 (by rfl) ?_
      refine g_cV1x dX1_lotsCounted_14 lX1_118 vX1_findLot (ct_findLot X (by omega) a0 a2 hlt (laR_j (by omega))) (by first | assumption | (repeat' (first | assumption | exact hu_same | exact Ne.symm (by assumption) | apply hu_n1))) rfl ⟨Nat.le_of_ble_eq_true rfl, Nat.le_of_ble_eq_true rfl⟩ (Nat.le_of_ble_eq_true rfl) ⟨Nat.le_of_ble_eq_true rfl, Nat.le_of_ble_eq_true rfl⟩ ?_
      obtain ⟨l1, l2, l3⟩ := al j (by omega)
      unfold lotC at l1
      refine g_astore (L1 := [(0, _), (1, _), (2, _), (3, _), (4, _)]) dX1_lotsCounted_17 (by first | exact isRf_r | exact isRf_n | exact isRf_o | assumption) (by decide) (by rfl) ?_
      refine g_aload dX1_lotsCounted_19 (by rfl) (by first | exact isRf_r | exact isRf_n | exact isRf_o | assumption) ?_
      refine g_ifnull (tgt := 36) dX1_lotsCounted_21 (by decide) (by first | exact isRf_r | exact isRf_n | exact isRf_o | assumption) (fun c2 => nomatch c2) (fun c2 => ?_)
      refine g_aload dX1_lotsCounted_24 (by rfl) (by first | exact isRf_r | exact isRf_n | exact isRf_o | assumption) ?_
      refine g_iload_n dX1_lotsCounted_26 (by rfl) ?_
      refine g_cS2x dX1_lotsCounted_27 lX1_212 rfl vX1_isCounted (ct_X1_isCounted X hw (hlok j hlt).b10 (hlok j hlt).b12 (al j (by omega))) ⟨Nat.le_of_ble_eq_true rfl, Nat.le_of_ble_eq_true rfl⟩ (Nat.le_of_ble_eq_true rfl) ⟨Nat.le_of_ble_eq_true rfl, Nat.le_of_ble_eq_true rfl⟩ ?_
      refine g_if_eq (tgt := 36) dX1_lotsCounted_30 (by decide) (fun c3 => ?_) (fun c3 => ?_)
      · skip
        have hp : (fun l => cntW w (ltx r l)) j = false := bI_0 c3
        refine g_iinc (v := nI (j + 1)) (L1 := [(0, _), (1, _), (2, _), (3, _), (4, _)]) dX1_lotsCounted_36 (by rfl) (nI_1 j) (by decide) (by rfl) ?_
        refine g_goto (tgt := 4) dX1_lotsCounted_39 (by decide) ?_
        refine g_pick [0, 1, 2, 3] rfl ?_
        refine ih hlt _ ?_
        first
          | rw [eacc, cnt_f hp]
          | (rw [cnt_t hp, eacc]; rfl)
      · skip
        have hp : (fun l => cntW w (ltx r l)) j = true := bI_1 c3
        refine g_iinc (L1 := [(0, _), (1, _), (2, _), (3, _), (4, _)]) dX1_lotsCounted_33 (by rfl) (by rfl) (by decide) (by rfl) ?_
        refine g_iinc (v := nI (j + 1)) (L1 := [(0, _), (1, _), (2, _), (3, _), (4, _)]) dX1_lotsCounted_36 (by rfl) (nI_1 j) (by decide) (by rfl) ?_
        refine g_goto (tgt := 4) dX1_lotsCounted_39 (by decide) ?_
        refine g_pick [0, 1, 2, 3] rfl ?_
        refine ih hlt _ ?_
        first
          | rw [eacc, cnt_f hp]
          | (rw [cnt_t hp, eacc]; rfl)
  exact loop4 0 (by omega) _ rfl

set_option maxHeartbeats 4000000 in
set_option maxRecDepth 100000 in
theorem ct_X1_grainsInVats (X : Cx) {h : Hp} {A : Nat → Nat} {r : Nat → Int32} {nv : Nat} {d : Int32}  (hnv : nv ≤ 6) (e7 : r 7 = nI nv) (hA : HouseAt X h A r) : Ct X mX1_grainsInVats 1 0 0 [.ref (A 0), .int d] h (Ex (.int (sumP (fun v => decide (vt r v 0 = d)) (fun v => vt r v 2) nv)) h) := by
  have hA0 := hA
  obtain ⟨a0, a1, a2, a3, a4, a5, a6, av, al, ao⟩ := hA0
  unfold hobC at a0
  rw [e7] at a0
  refine Ct.ofG vX1_grainsInVats.1.2.2.1 (Nat.le_of_ble_eq_true rfl) ?_
  show G X RX1 cX1_grainsInVats 5 (some .int) "grainsInVats" (Rm 1 0 0) (Fm X (Ex (.int (sumP (fun v => decide (vt r v 0 = d)) (fun v => vt r v 2) nv)) h) 0 0) 0 0 0 [(0, .ref (A 0)), (1, .int d)] [] h
  refine g_iconst (v := 0) dX1_grainsInVats_0 (by decide) ?_
  refine g_istore_n (L1 := [(0, _), (1, _), (2, _)]) dX1_grainsInVats_1 (by decide) (by rfl) ?_
  refine g_iconst (v := 0) dX1_grainsInVats_2 (by decide) ?_
  refine g_istore_n (L1 := [(0, _), (1, _), (2, _), (3, _)]) dX1_grainsInVats_3 (by decide) (by rfl) ?_
  have loop4 : ∀ j, j ≤ nv → ∀ acc, acc = sumP (fun v => decide (vt r v 0 = d)) (fun v => vt r v 2) j → G X RX1 cX1_grainsInVats 5 (some .int) "grainsInVats" (Rm 1 0 0) (Fm X (Ex (.int (sumP (fun v => decide (vt r v 0 = d)) (fun v => vt r v 2) nv)) h) 0 0) 0 0 4 [(0, .ref (A 0)), (1, .int d), (2, .int acc), (3, .int (nI j))] [] h := by
    refine up_ind nv (fun j hj ih => ?_)
    intro acc eacc
    refine g_iload_n dX1_grainsInVats_4 (by rfl) ?_
    refine g_aload_n dX1_grainsInVats_5 (by rfl) (by first | exact isRf_r | exact isRf_n | exact isRf_o | assumption) ?_
    refine g_getf dX1_grainsInVats_6 fX1_46 (by first | assumption | (repeat' (first | assumption | exact hu_same | exact Ne.symm (by assumption) | apply hu_n1))) (by rfl) ?_
    refine g_icmp_ge (tgt := 47) dX1_grainsInVats_9 (by decide) (fun c1 => ?_) (fun c1 => ?_)
    · skip
      have hje : j = nv := Nat.le_antisymm hj (c_ge (a := nv) (by omega) (by omega) c1)
      subst hje
      refine g_iload_n dX1_grainsInVats_47 (by rfl) ?_
      refine g_iret dX1_grainsInVats_48 rfl (Nat.le_refl _) (Nat.le_refl _) ?_
      exact ⟨by rw [eacc], rfl⟩
    · skip
      have hlt : j < nv := c_nge (a := nv) (b := j) (by omega) (by omega) c1
      refine g_aload_n dX1_grainsInVats_12 (by rfl) (by first | exact isRf_r | exact isRf_n | exact isRf_o | assumption) ?_
      refine g_iload_n dX1_grainsInVats_13 (by rfl) ?_
      refine g_cV1x dX1_grainsInVats_14 lX1_92 vX1_findVat (ct_findVat X (by omega) a0 a1 hlt (vaR_j (by omega))) (by first | assumption | (repeat' (first | assumption | exact hu_same | exact Ne.symm (by assumption) | apply hu_n1))) rfl ⟨Nat.le_of_ble_eq_true rfl, Nat.le_of_ble_eq_true rfl⟩ (Nat.le_of_ble_eq_true rfl) ⟨Nat.le_of_ble_eq_true rfl, Nat.le_of_ble_eq_true rfl⟩ ?_
      have avj := av j (by omega)
      unfold VatAt at avj
      refine g_astore (L1 := [(0, _), (1, _), (2, _), (3, _), (4, _)]) dX1_grainsInVats_17 (by first | exact isRf_r | exact isRf_n | exact isRf_o | assumption) (by decide) (by rfl) ?_
      refine g_aload dX1_grainsInVats_19 (by rfl) (by first | exact isRf_r | exact isRf_n | exact isRf_o | assumption) ?_
      refine g_ifnull (tgt := 41) dX1_grainsInVats_21 (by decide) (by first | exact isRf_r | exact isRf_n | exact isRf_o | assumption) (fun c2 => nomatch c2) (fun c2 => ?_)
      refine g_aload dX1_grainsInVats_24 (by rfl) (by first | exact isRf_r | exact isRf_n | exact isRf_o | assumption) ?_
      refine g_getf dX1_grainsInVats_26 fX1_96 (by first | assumption | (repeat' (first | assumption | exact hu_same | exact Ne.symm (by assumption) | apply hu_n1))) (by rfl) ?_
      refine g_iload_n dX1_grainsInVats_29 (by rfl) ?_
      refine g_icmp_ne (tgt := 41) dX1_grainsInVats_30 (by decide) (fun c3 => ?_) (fun c3 => ?_)
      · skip
        have hp : (fun v => decide (vt r v 0 = d)) j = false := decide_eq_false c3
        refine g_iinc (v := nI (j + 1)) (L1 := [(0, _), (1, _), (2, _), (3, _), (4, _)]) dX1_grainsInVats_41 (by rfl) (nI_1 j) (by decide) (by rfl) ?_
        refine g_goto (tgt := 4) dX1_grainsInVats_44 (by decide) ?_
        refine g_pick [0, 1, 2, 3] rfl ?_
        refine ih hlt _ ?_
        first
          | rw [sumI_f hp, eacc]
          | rw [sumI_t hp, eacc]
      · skip
        have hp : (fun v => decide (vt r v 0 = d)) j = true := decide_eq_true c3
        refine g_iload_n dX1_grainsInVats_33 (by rfl) ?_
        refine g_aload dX1_grainsInVats_34 (by rfl) (by first | exact isRf_r | exact isRf_n | exact isRf_o | assumption) ?_
        refine g_getf dX1_grainsInVats_36 fX1_112 (by first | assumption | (repeat' (first | assumption | exact hu_same | exact Ne.symm (by assumption) | apply hu_n1))) (by rfl) ?_
        refine g_iadd dX1_grainsInVats_39 ?_
        refine g_istore_n (L1 := [(0, _), (1, _), (2, _), (3, _), (4, _)]) dX1_grainsInVats_40 (by decide) (by rfl) ?_
        refine g_iinc (v := nI (j + 1)) (L1 := [(0, _), (1, _), (2, _), (3, _), (4, _)]) dX1_grainsInVats_41 (by rfl) (nI_1 j) (by decide) (by rfl) ?_
        refine g_goto (tgt := 4) dX1_grainsInVats_44 (by decide) ?_
        refine g_pick [0, 1, 2, 3] rfl ?_
        refine ih hlt _ ?_
        first
          | rw [sumI_f hp, eacc]
          | rw [sumI_t hp, eacc]
  exact loop4 0 (by omega) _ rfl

set_option maxHeartbeats 4000000 in
set_option maxRecDepth 100000 in
theorem ct_X1_fixedInHouse (X : Cx) {h : Hp} {A : Nat → Nat} {r : Nat → Int32} {nl d : Nat}  (hd : d < 4) (hnl : nl ≤ 20) (e8 : r 8 = nI nl) (hlok : ∀ l, l < nl → LOk (ltx r l)) (hA : HouseAt X h A r) : Ct X mX1_fixedInHouse 1 0 0 [.ref (A 0), .int (nI d)] h (Ex (.int (sumP (fun l => !sold r l) (fun l => ltx r l (2 + d)) nl)) h) := by
  have hA0 := hA
  obtain ⟨a0, a1, a2, a3, a4, a5, a6, av, al, ao⟩ := hA0
  unfold hobC at a0
  rw [e8] at a0
  refine Ct.ofG vX1_fixedInHouse.1.2.2.1 (Nat.le_of_ble_eq_true rfl) ?_
  show G X RX1 cX1_fixedInHouse 5 (some .int) "fixedInHouse" (Rm 1 0 0) (Fm X (Ex (.int (sumP (fun l => !sold r l) (fun l => ltx r l (2 + d)) nl)) h) 0 0) 0 0 0 [(0, .ref (A 0)), (1, .int (nI d))] [] h
  refine g_iconst (v := 0) dX1_fixedInHouse_0 (by decide) ?_
  refine g_istore_n (L1 := [(0, _), (1, _), (2, _)]) dX1_fixedInHouse_1 (by decide) (by rfl) ?_
  refine g_iconst (v := 0) dX1_fixedInHouse_2 (by decide) ?_
  refine g_istore_n (L1 := [(0, _), (1, _), (2, _), (3, _)]) dX1_fixedInHouse_3 (by decide) (by rfl) ?_
  have loop4 : ∀ j, j ≤ nl → ∀ acc, acc = sumP (fun l => !sold r l) (fun l => ltx r l (2 + d)) j → G X RX1 cX1_fixedInHouse 5 (some .int) "fixedInHouse" (Rm 1 0 0) (Fm X (Ex (.int (sumP (fun l => !sold r l) (fun l => ltx r l (2 + d)) nl)) h) 0 0) 0 0 4 [(0, .ref (A 0)), (1, .int (nI d)), (2, .int acc), (3, .int (nI j))] [] h := by
    refine up_ind nl (fun j hj ih => ?_)
    intro acc eacc
    refine g_iload_n dX1_fixedInHouse_4 (by rfl) ?_
    refine g_aload_n dX1_fixedInHouse_5 (by rfl) (by first | exact isRf_r | exact isRf_n | exact isRf_o | assumption) ?_
    refine g_getf dX1_fixedInHouse_6 fX1_50 (by first | assumption | (repeat' (first | assumption | exact hu_same | exact Ne.symm (by assumption) | apply hu_n1))) (by rfl) ?_
    refine g_icmp_ge (tgt := 50) dX1_fixedInHouse_9 (by decide) (fun c1 => ?_) (fun c1 => ?_)
    · skip
      have hje : j = nl := Nat.le_antisymm hj (c_ge (a := nl) (by omega) (by omega) c1)
      subst hje
      refine g_iload_n dX1_fixedInHouse_50 (by rfl) ?_
      refine g_iret dX1_fixedInHouse_51 rfl (Nat.le_refl _) (Nat.le_refl _) ?_
      exact ⟨by rw [eacc], rfl⟩
    · skip
      have hlt : j < nl := c_nge (a := nl) (b := j) (by omega) (by omega) c1
      refine g_aload_n dX1_fixedInHouse_12 (by rfl) (by first | exact isRf_r | exact isRf_n | exact isRf_o | assumption) ?_
      refine g_iload_n dX1_fixedInHouse_13 (by rfl) ?_
      refine g_cV1x dX1_fixedInHouse_14 lX1_118 vX1_findLot (ct_findLot X (by omega) a0 a2 hlt (laR_j (by omega))) (by first | assumption | (repeat' (first | assumption | exact hu_same | exact Ne.symm (by assumption) | apply hu_n1))) rfl ⟨Nat.le_of_ble_eq_true rfl, Nat.le_of_ble_eq_true rfl⟩ (Nat.le_of_ble_eq_true rfl) ⟨Nat.le_of_ble_eq_true rfl, Nat.le_of_ble_eq_true rfl⟩ ?_
      obtain ⟨l1, l2, l3⟩ := al j (by omega)
      unfold lotC at l1
      refine g_astore (L1 := [(0, _), (1, _), (2, _), (3, _), (4, _)]) dX1_fixedInHouse_17 (by first | exact isRf_r | exact isRf_n | exact isRf_o | assumption) (by decide) (by rfl) ?_
      refine g_aload dX1_fixedInHouse_19 (by rfl) (by first | exact isRf_r | exact isRf_n | exact isRf_o | assumption) ?_
      refine g_ifnull (tgt := 44) dX1_fixedInHouse_21 (by decide) (by first | exact isRf_r | exact isRf_n | exact isRf_o | assumption) (fun c2 => nomatch c2) (fun c2 => ?_)
      refine g_aload dX1_fixedInHouse_24 (by rfl) (by first | exact isRf_r | exact isRf_n | exact isRf_o | assumption) ?_
      refine g_cV0x dX1_fixedInHouse_26 lX1_128 vX2_isSold (ct_X2_isSold X (al j (by omega))) (by first | assumption | (repeat' (first | assumption | exact hu_same | exact Ne.symm (by assumption) | apply hu_n1))) rfl ⟨Nat.le_of_ble_eq_true rfl, Nat.le_of_ble_eq_true rfl⟩ (Nat.le_of_ble_eq_true rfl) ⟨Nat.le_of_ble_eq_true rfl, Nat.le_of_ble_eq_true rfl⟩ ?_
      refine g_if_ne (tgt := 44) dX1_fixedInHouse_29 (by decide) (fun c3 => ?_) (fun c3 => ?_)
      · skip
        have zz := bI_d1 _ c3
        have hp : (fun l => !sold r l) j = false := by simp [sold, zz]
        refine g_iinc (v := nI (j + 1)) (L1 := [(0, _), (1, _), (2, _), (3, _), (4, _)]) dX1_fixedInHouse_44 (by rfl) (nI_1 j) (by decide) (by rfl) ?_
        refine g_goto (tgt := 4) dX1_fixedInHouse_47 (by decide) ?_
        refine g_pick [0, 1, 2, 3] rfl ?_
        refine ih hlt _ ?_
        first
          | rw [sumI_f hp, eacc]
          | rw [sumI_t hp, eacc]
      · skip
        have hs := bI_d0 _ c3
        have hs2 : ltx r j 13 = 0 := Classical.byContradiction (fun q => hs q)
        have hp : (fun l => !sold r l) j = true := by simp [sold, hs2]
        refine g_iload_n dX1_fixedInHouse_32 (by rfl) ?_
        refine g_aload dX1_fixedInHouse_33 (by rfl) (by first | exact isRf_r | exact isRf_n | exact isRf_o | assumption) ?_
        refine g_getf dX1_fixedInHouse_35 fX1_222 (by first | assumption | (repeat' (first | assumption | exact hu_same | exact Ne.symm (by assumption) | apply hu_n1))) (by rfl) ?_
        refine g_iload_n dX1_fixedInHouse_38 (by rfl) ?_
        refine g_cN2x dX1_fixedInHouse_39 lX1_103 vX9_cellAt (ct_X9_cellAtI X hd (by omega) l2) ⟨Nat.le_of_ble_eq_true rfl, Nat.le_of_ble_eq_true rfl⟩ (Nat.le_of_ble_eq_true rfl) ⟨Nat.le_of_ble_eq_true rfl, Nat.le_of_ble_eq_true rfl⟩ ?_
        rw [nr_lt hd]
        refine g_iadd dX1_fixedInHouse_42 ?_
        refine g_istore_n (L1 := [(0, _), (1, _), (2, _), (3, _), (4, _)]) dX1_fixedInHouse_43 (by decide) (by rfl) ?_
        refine g_iinc (v := nI (j + 1)) (L1 := [(0, _), (1, _), (2, _), (3, _), (4, _)]) dX1_fixedInHouse_44 (by rfl) (nI_1 j) (by decide) (by rfl) ?_
        refine g_goto (tgt := 4) dX1_fixedInHouse_47 (by decide) ?_
        refine g_pick [0, 1, 2, 3] rfl ?_
        refine ih hlt _ ?_
        first
          | rw [sumI_f hp, eacc]
          | rw [sumI_t hp, eacc]
  exact loop4 0 (by omega) _ rfl

set_option maxHeartbeats 4000000 in
set_option maxRecDepth 100000 in
theorem ct_X1_looseInHouse (X : Cx) {h : Hp} {A : Nat → Nat} {r : Nat → Int32} {nl d : Nat}  (hd : d < 4) (hnl : nl ≤ 20) (e8 : r 8 = nI nl) (hlok : ∀ l, l < nl → LOk (ltx r l)) (hA : HouseAt X h A r) : Ct X mX1_looseInHouse 1 0 0 [.ref (A 0), .int (nI d)] h (Ex (.int (sumP (fun l => !sold r l) (fun l => ltx r l (6 + d)) nl)) h) := by
  have hA0 := hA
  obtain ⟨a0, a1, a2, a3, a4, a5, a6, av, al, ao⟩ := hA0
  unfold hobC at a0
  rw [e8] at a0
  refine Ct.ofG vX1_looseInHouse.1.2.2.1 (Nat.le_of_ble_eq_true rfl) ?_
  show G X RX1 cX1_looseInHouse 5 (some .int) "looseInHouse" (Rm 1 0 0) (Fm X (Ex (.int (sumP (fun l => !sold r l) (fun l => ltx r l (6 + d)) nl)) h) 0 0) 0 0 0 [(0, .ref (A 0)), (1, .int (nI d))] [] h
  refine g_iconst (v := 0) dX1_looseInHouse_0 (by decide) ?_
  refine g_istore_n (L1 := [(0, _), (1, _), (2, _)]) dX1_looseInHouse_1 (by decide) (by rfl) ?_
  refine g_iconst (v := 0) dX1_looseInHouse_2 (by decide) ?_
  refine g_istore_n (L1 := [(0, _), (1, _), (2, _), (3, _)]) dX1_looseInHouse_3 (by decide) (by rfl) ?_
  have loop4 : ∀ j, j ≤ nl → ∀ acc, acc = sumP (fun l => !sold r l) (fun l => ltx r l (6 + d)) j → G X RX1 cX1_looseInHouse 5 (some .int) "looseInHouse" (Rm 1 0 0) (Fm X (Ex (.int (sumP (fun l => !sold r l) (fun l => ltx r l (6 + d)) nl)) h) 0 0) 0 0 4 [(0, .ref (A 0)), (1, .int (nI d)), (2, .int acc), (3, .int (nI j))] [] h := by
    refine up_ind nl (fun j hj ih => ?_)
    intro acc eacc
    refine g_iload_n dX1_looseInHouse_4 (by rfl) ?_
    refine g_aload_n dX1_looseInHouse_5 (by rfl) (by first | exact isRf_r | exact isRf_n | exact isRf_o | assumption) ?_
    refine g_getf dX1_looseInHouse_6 fX1_50 (by first | assumption | (repeat' (first | assumption | exact hu_same | exact Ne.symm (by assumption) | apply hu_n1))) (by rfl) ?_
    refine g_icmp_ge (tgt := 50) dX1_looseInHouse_9 (by decide) (fun c1 => ?_) (fun c1 => ?_)
    · skip
      have hje : j = nl := Nat.le_antisymm hj (c_ge (a := nl) (by omega) (by omega) c1)
      subst hje
      refine g_iload_n dX1_looseInHouse_50 (by rfl) ?_
      refine g_iret dX1_looseInHouse_51 rfl (Nat.le_refl _) (Nat.le_refl _) ?_
      exact ⟨by rw [eacc], rfl⟩
    · skip
      have hlt : j < nl := c_nge (a := nl) (b := j) (by omega) (by omega) c1
      refine g_aload_n dX1_looseInHouse_12 (by rfl) (by first | exact isRf_r | exact isRf_n | exact isRf_o | assumption) ?_
      refine g_iload_n dX1_looseInHouse_13 (by rfl) ?_
      refine g_cV1x dX1_looseInHouse_14 lX1_118 vX1_findLot (ct_findLot X (by omega) a0 a2 hlt (laR_j (by omega))) (by first | assumption | (repeat' (first | assumption | exact hu_same | exact Ne.symm (by assumption) | apply hu_n1))) rfl ⟨Nat.le_of_ble_eq_true rfl, Nat.le_of_ble_eq_true rfl⟩ (Nat.le_of_ble_eq_true rfl) ⟨Nat.le_of_ble_eq_true rfl, Nat.le_of_ble_eq_true rfl⟩ ?_
      obtain ⟨l1, l2, l3⟩ := al j (by omega)
      unfold lotC at l1
      refine g_astore (L1 := [(0, _), (1, _), (2, _), (3, _), (4, _)]) dX1_looseInHouse_17 (by first | exact isRf_r | exact isRf_n | exact isRf_o | assumption) (by decide) (by rfl) ?_
      refine g_aload dX1_looseInHouse_19 (by rfl) (by first | exact isRf_r | exact isRf_n | exact isRf_o | assumption) ?_
      refine g_ifnull (tgt := 44) dX1_looseInHouse_21 (by decide) (by first | exact isRf_r | exact isRf_n | exact isRf_o | assumption) (fun c2 => nomatch c2) (fun c2 => ?_)
      refine g_aload dX1_looseInHouse_24 (by rfl) (by first | exact isRf_r | exact isRf_n | exact isRf_o | assumption) ?_
      refine g_cV0x dX1_looseInHouse_26 lX1_128 vX2_isSold (ct_X2_isSold X (al j (by omega))) (by first | assumption | (repeat' (first | assumption | exact hu_same | exact Ne.symm (by assumption) | apply hu_n1))) rfl ⟨Nat.le_of_ble_eq_true rfl, Nat.le_of_ble_eq_true rfl⟩ (Nat.le_of_ble_eq_true rfl) ⟨Nat.le_of_ble_eq_true rfl, Nat.le_of_ble_eq_true rfl⟩ ?_
      refine g_if_ne (tgt := 44) dX1_looseInHouse_29 (by decide) (fun c3 => ?_) (fun c3 => ?_)
      · skip
        have zz := bI_d1 _ c3
        have hp : (fun l => !sold r l) j = false := by simp [sold, zz]
        refine g_iinc (v := nI (j + 1)) (L1 := [(0, _), (1, _), (2, _), (3, _), (4, _)]) dX1_looseInHouse_44 (by rfl) (nI_1 j) (by decide) (by rfl) ?_
        refine g_goto (tgt := 4) dX1_looseInHouse_47 (by decide) ?_
        refine g_pick [0, 1, 2, 3] rfl ?_
        refine ih hlt _ ?_
        first
          | rw [sumI_f hp, eacc]
          | rw [sumI_t hp, eacc]
      · skip
        have hs := bI_d0 _ c3
        have hs2 : ltx r j 13 = 0 := Classical.byContradiction (fun q => hs q)
        have hp : (fun l => !sold r l) j = true := by simp [sold, hs2]
        refine g_iload_n dX1_looseInHouse_32 (by rfl) ?_
        refine g_aload dX1_looseInHouse_33 (by rfl) (by first | exact isRf_r | exact isRf_n | exact isRf_o | assumption) ?_
        refine g_getf dX1_looseInHouse_35 fX1_140 (by first | assumption | (repeat' (first | assumption | exact hu_same | exact Ne.symm (by assumption) | apply hu_n1))) (by rfl) ?_
        refine g_iload_n dX1_looseInHouse_38 (by rfl) ?_
        refine g_cN2x dX1_looseInHouse_39 lX1_103 vX9_cellAt (ct_X9_cellAtI X hd (by omega) l3) ⟨Nat.le_of_ble_eq_true rfl, Nat.le_of_ble_eq_true rfl⟩ (Nat.le_of_ble_eq_true rfl) ⟨Nat.le_of_ble_eq_true rfl, Nat.le_of_ble_eq_true rfl⟩ ?_
        rw [nr_lt hd]
        refine g_iadd dX1_looseInHouse_42 ?_
        refine g_istore_n (L1 := [(0, _), (1, _), (2, _), (3, _), (4, _)]) dX1_looseInHouse_43 (by decide) (by rfl) ?_
        refine g_iinc (v := nI (j + 1)) (L1 := [(0, _), (1, _), (2, _), (3, _), (4, _)]) dX1_looseInHouse_44 (by rfl) (nI_1 j) (by decide) (by rfl) ?_
        refine g_goto (tgt := 4) dX1_looseInHouse_47 (by decide) ?_
        refine g_pick [0, 1, 2, 3] rfl ?_
        refine ih hlt _ ?_
        first
          | rw [sumI_f hp, eacc]
          | rw [sumI_t hp, eacc]
  exact loop4 0 (by omega) _ rfl

set_option maxHeartbeats 4000000 in
set_option maxRecDepth 100000 in
theorem ct_X1_grainsSold (X : Cx) {h : Hp} {A : Nat → Nat} {r : Nat → Int32} {nl d : Nat}  (hd : d < 4) (hnl : nl ≤ 20) (e8 : r 8 = nI nl) (hlok : ∀ l, l < nl → LOk (ltx r l)) (hA : HouseAt X h A r) : Ct X mX1_grainsSold 1 0 0 [.ref (A 0), .int (nI d)] h (Ex (.int (sumP (fun l => sold r l) (fun l => ltx r l (2 + d) + ltx r l (6 + d)) nl)) h) := by
  have hA0 := hA
  obtain ⟨a0, a1, a2, a3, a4, a5, a6, av, al, ao⟩ := hA0
  unfold hobC at a0
  rw [e8] at a0
  refine Ct.ofG vX1_grainsSold.1.2.2.1 (Nat.le_of_ble_eq_true rfl) ?_
  show G X RX1 cX1_grainsSold 5 (some .int) "grainsSold" (Rm 1 0 0) (Fm X (Ex (.int (sumP (fun l => sold r l) (fun l => ltx r l (2 + d) + ltx r l (6 + d)) nl)) h) 0 0) 0 0 0 [(0, .ref (A 0)), (1, .int (nI d))] [] h
  refine g_iconst (v := 0) dX1_grainsSold_0 (by decide) ?_
  refine g_istore_n (L1 := [(0, _), (1, _), (2, _)]) dX1_grainsSold_1 (by decide) (by rfl) ?_
  refine g_iconst (v := 0) dX1_grainsSold_2 (by decide) ?_
  refine g_istore_n (L1 := [(0, _), (1, _), (2, _), (3, _)]) dX1_grainsSold_3 (by decide) (by rfl) ?_
  have loop4 : ∀ j, j ≤ nl → ∀ acc, acc = sumP (fun l => sold r l) (fun l => ltx r l (2 + d) + ltx r l (6 + d)) j → G X RX1 cX1_grainsSold 5 (some .int) "grainsSold" (Rm 1 0 0) (Fm X (Ex (.int (sumP (fun l => sold r l) (fun l => ltx r l (2 + d) + ltx r l (6 + d)) nl)) h) 0 0) 0 0 4 [(0, .ref (A 0)), (1, .int (nI d)), (2, .int acc), (3, .int (nI j))] [] h := by
    refine up_ind nl (fun j hj ih => ?_)
    intro acc eacc
    refine g_iload_n dX1_grainsSold_4 (by rfl) ?_
    refine g_aload_n dX1_grainsSold_5 (by rfl) (by first | exact isRf_r | exact isRf_n | exact isRf_o | assumption) ?_
    refine g_getf dX1_grainsSold_6 fX1_50 (by first | assumption | (repeat' (first | assumption | exact hu_same | exact Ne.symm (by assumption) | apply hu_n1))) (by rfl) ?_
    refine g_icmp_ge (tgt := 47) dX1_grainsSold_9 (by decide) (fun c1 => ?_) (fun c1 => ?_)
    · skip
      have hje : j = nl := Nat.le_antisymm hj (c_ge (a := nl) (by omega) (by omega) c1)
      subst hje
      refine g_iload_n dX1_grainsSold_47 (by rfl) ?_
      refine g_iret dX1_grainsSold_48 rfl (Nat.le_refl _) (Nat.le_refl _) ?_
      exact ⟨by rw [eacc], rfl⟩
    · skip
      have hlt : j < nl := c_nge (a := nl) (b := j) (by omega) (by omega) c1
      refine g_aload_n dX1_grainsSold_12 (by rfl) (by first | exact isRf_r | exact isRf_n | exact isRf_o | assumption) ?_
      refine g_iload_n dX1_grainsSold_13 (by rfl) ?_
      refine g_cV1x dX1_grainsSold_14 lX1_118 vX1_findLot (ct_findLot X (by omega) a0 a2 hlt (laR_j (by omega))) (by first | assumption | (repeat' (first | assumption | exact hu_same | exact Ne.symm (by assumption) | apply hu_n1))) rfl ⟨Nat.le_of_ble_eq_true rfl, Nat.le_of_ble_eq_true rfl⟩ (Nat.le_of_ble_eq_true rfl) ⟨Nat.le_of_ble_eq_true rfl, Nat.le_of_ble_eq_true rfl⟩ ?_
      obtain ⟨l1, l2, l3⟩ := al j (by omega)
      unfold lotC at l1
      refine g_astore (L1 := [(0, _), (1, _), (2, _), (3, _), (4, _)]) dX1_grainsSold_17 (by first | exact isRf_r | exact isRf_n | exact isRf_o | assumption) (by decide) (by rfl) ?_
      refine g_aload dX1_grainsSold_19 (by rfl) (by first | exact isRf_r | exact isRf_n | exact isRf_o | assumption) ?_
      refine g_ifnull (tgt := 41) dX1_grainsSold_21 (by decide) (by first | exact isRf_r | exact isRf_n | exact isRf_o | assumption) (fun c2 => nomatch c2) (fun c2 => ?_)
      refine g_aload dX1_grainsSold_24 (by rfl) (by first | exact isRf_r | exact isRf_n | exact isRf_o | assumption) ?_
      refine g_cV0x dX1_grainsSold_26 lX1_128 vX2_isSold (ct_X2_isSold X (al j (by omega))) (by first | assumption | (repeat' (first | assumption | exact hu_same | exact Ne.symm (by assumption) | apply hu_n1))) rfl ⟨Nat.le_of_ble_eq_true rfl, Nat.le_of_ble_eq_true rfl⟩ (Nat.le_of_ble_eq_true rfl) ⟨Nat.le_of_ble_eq_true rfl, Nat.le_of_ble_eq_true rfl⟩ ?_
      refine g_if_eq (tgt := 41) dX1_grainsSold_29 (by decide) (fun c3 => ?_) (fun c3 => ?_)
      · skip
        have hs := bI_d0 _ c3
        have hs2 : ltx r j 13 = 0 := Classical.byContradiction (fun q => hs q)
        have hp : (fun l => sold r l) j = false := by simp [sold, hs2]
        refine g_iinc (v := nI (j + 1)) (L1 := [(0, _), (1, _), (2, _), (3, _), (4, _)]) dX1_grainsSold_41 (by rfl) (nI_1 j) (by decide) (by rfl) ?_
        refine g_goto (tgt := 4) dX1_grainsSold_44 (by decide) ?_
        refine g_pick [0, 1, 2, 3] rfl ?_
        refine ih hlt _ ?_
        first
          | rw [sumI_f hp, eacc]
          | rw [sumI_t hp, eacc]
      · skip
        have zz := bI_d1 _ c3
        have hp : (fun l => sold r l) j = true := by simp [sold, zz]
        refine g_iload_n dX1_grainsSold_32 (by rfl) ?_
        refine g_aload dX1_grainsSold_33 (by rfl) (by first | exact isRf_r | exact isRf_n | exact isRf_o | assumption) ?_
        refine g_iload_n dX1_grainsSold_35 (by rfl) ?_
        refine g_cV1x dX1_grainsSold_36 lX1_225 vX2_grainsOf (ct_X2_grainsOf X hd (al j (by omega))) (by first | assumption | (repeat' (first | assumption | exact hu_same | exact Ne.symm (by assumption) | apply hu_n1))) rfl ⟨Nat.le_of_ble_eq_true rfl, Nat.le_of_ble_eq_true rfl⟩ (Nat.le_of_ble_eq_true rfl) ⟨Nat.le_of_ble_eq_true rfl, Nat.le_of_ble_eq_true rfl⟩ ?_
        refine g_iadd dX1_grainsSold_39 ?_
        refine g_istore_n (L1 := [(0, _), (1, _), (2, _), (3, _), (4, _)]) dX1_grainsSold_40 (by decide) (by rfl) ?_
        refine g_iinc (v := nI (j + 1)) (L1 := [(0, _), (1, _), (2, _), (3, _), (4, _)]) dX1_grainsSold_41 (by rfl) (nI_1 j) (by decide) (by rfl) ?_
        refine g_goto (tgt := 4) dX1_grainsSold_44 (by decide) ?_
        refine g_pick [0, 1, 2, 3] rfl ?_
        refine ih hlt _ ?_
        first
          | rw [sumI_f hp, eacc]
          | rw [sumI_t hp, eacc]
  exact loop4 0 (by omega) _ rfl

noncomputable def aheadB (y z : Nat → Int32) : Bool := @decide (ahead y z) (Classical.propDecidable _)
theorem aheadB_i {y z : Nat → Int32} : aheadB y z = true ↔ ahead y z := by
  unfold aheadB
  exact @decide_eq_true_iff _ (Classical.propDecidable _)
noncomputable def avB (r : Nat → Int32) (n i : Nat) : Bool := cond (decide (i = n)) false (cond (decide (i < n)) (aheadB (vt r i) (vt r n)) (!aheadB (vt r n) (vt r i)))
theorem VOk.pos {y : Nat → Int32} (k : VOk y) : 0 < (y 1).toInt := by
  obtain ⟨-, k1, -⟩ := k
  omega

set_option maxHeartbeats 4000000 in
set_option maxRecDepth 100000 in
theorem ct_X1_vatsAheadOf (X : Cx) {h : Hp} {A : Nat → Nat} {r : Nat → Int32} {nv n : Nat}  (hn : n < nv) (hnv : nv ≤ 6) (e7 : r 7 = nI nv) (hvok : ∀ v, v < nv → VOk (vt r v)) (hA : HouseAt X h A r) : Ct X mX1_vatsAheadOf 2 0 0 [.ref (A 0), .int (nI n)] h (Ex (.int (nI (cntN (avB r n) nv))) h) := by
  have hA0 := hA
  obtain ⟨a0, a1, a2, a3, a4, a5, a6, av, al, ao⟩ := hA0
  unfold hobC at a0
  rw [e7] at a0
  have avn := av n (by omega)
  have avn0 := avn
  unfold VatAt at avn0
  refine Ct.ofG vX1_vatsAheadOf.1.2.2.1 (Nat.le_of_ble_eq_true rfl) ?_
  show G X RX1 cX1_vatsAheadOf 6 (some .int) "vatsAheadOf" (Rm 2 0 0) (Fm X (Ex (.int (nI (cntN (avB r n) nv))) h) 0 0) 0 0 0 [(0, .ref (A 0)), (1, .int (nI n))] [] h
  refine g_aload_n dX1_vatsAheadOf_0 (by rfl) (by first | exact isRf_r | exact isRf_n | exact isRf_o | assumption) ?_
  refine g_iload_n dX1_vatsAheadOf_1 (by rfl) ?_
  refine g_cV1x dX1_vatsAheadOf_2 lX1_92 vX1_findVat (ct_findVat X (by omega) a0 a1 hn (vaR_j (by omega))) (by first | assumption | (repeat' (first | assumption | exact hu_same | exact Ne.symm (by assumption) | apply hu_n1))) rfl ⟨Nat.le_of_ble_eq_true rfl, Nat.le_of_ble_eq_true rfl⟩ (Nat.le_of_ble_eq_true rfl) ⟨Nat.le_of_ble_eq_true rfl, Nat.le_of_ble_eq_true rfl⟩ ?_
  refine g_astore_n (L1 := [(0, _), (1, _), (2, _)]) dX1_vatsAheadOf_5 (by first | exact isRf_r | exact isRf_n | exact isRf_o | assumption) (by decide) (by rfl) ?_
  refine g_iconst (v := 0) dX1_vatsAheadOf_6 (by decide) ?_
  refine g_istore_n (L1 := [(0, _), (1, _), (2, _), (3, _)]) dX1_vatsAheadOf_7 (by decide) (by rfl) ?_
  refine g_iconst (v := 0) dX1_vatsAheadOf_8 (by decide) ?_
  refine g_istore (L1 := [(0, _), (1, _), (2, _), (3, _), (4, _)]) dX1_vatsAheadOf_9 (by decide) (by rfl) ?_
  have loop11 : ∀ j, j ≤ nv → ∀ acc, acc = nI (cntN (avB r n) j) → G X RX1 cX1_vatsAheadOf 6 (some .int) "vatsAheadOf" (Rm 2 0 0) (Fm X (Ex (.int (nI (cntN (avB r n) nv))) h) 0 0) 0 0 11 [(0, .ref (A 0)), (1, .int (nI n)), (2, .ref (A (8 + n))), (3, .int acc), (4, .int (nI j))] [] h := by
    refine up_ind nv (fun j hj ih => ?_)
    intro acc eacc
    refine g_iload dX1_vatsAheadOf_11 (by rfl) ?_
    refine g_aload_n dX1_vatsAheadOf_13 (by rfl) (by first | exact isRf_r | exact isRf_n | exact isRf_o | assumption) ?_
    refine g_getf dX1_vatsAheadOf_14 fX1_46 (by first | assumption | (repeat' (first | assumption | exact hu_same | exact Ne.symm (by assumption) | apply hu_n1))) (by rfl) ?_
    refine g_icmp_ge (tgt := 82) dX1_vatsAheadOf_17 (by decide) (fun c1 => ?_) (fun c1 => ?_)
    · skip
      have hje : j = nv := Nat.le_antisymm hj (c_ge (a := nv) (by omega) (by omega) c1)
      subst hje
      refine g_iload_n dX1_vatsAheadOf_82 (by rfl) ?_
      refine g_iret dX1_vatsAheadOf_83 rfl (Nat.le_refl _) (Nat.le_refl _) ?_
      exact ⟨by rw [eacc], rfl⟩
    · skip
      have hlt : j < nv := c_nge (a := nv) (b := j) (by omega) (by omega) c1
      refine g_aload_n dX1_vatsAheadOf_20 (by rfl) (by first | exact isRf_r | exact isRf_n | exact isRf_o | assumption) ?_
      refine g_ifnull (tgt := 82) dX1_vatsAheadOf_21 (by decide) (by first | exact isRf_r | exact isRf_n | exact isRf_o | assumption) (fun c2 => nomatch c2) (fun c2 => ?_)
      refine g_aload_n dX1_vatsAheadOf_24 (by rfl) (by first | exact isRf_r | exact isRf_n | exact isRf_o | assumption) ?_
      refine g_iload dX1_vatsAheadOf_25 (by rfl) ?_
      refine g_cV1x dX1_vatsAheadOf_27 lX1_92 vX1_findVat (ct_findVat X (by omega) a0 a1 hlt (vaR_j (by omega))) (by first | assumption | (repeat' (first | assumption | exact hu_same | exact Ne.symm (by assumption) | apply hu_n1))) rfl ⟨Nat.le_of_ble_eq_true rfl, Nat.le_of_ble_eq_true rfl⟩ (Nat.le_of_ble_eq_true rfl) ⟨Nat.le_of_ble_eq_true rfl, Nat.le_of_ble_eq_true rfl⟩ ?_
      have avj := av j (by omega)
      have avj0 := avj
      unfold VatAt at avj0
      refine g_astore (L1 := [(0, _), (1, _), (2, _), (3, _), (4, _), (5, _)]) dX1_vatsAheadOf_30 (by first | exact isRf_r | exact isRf_n | exact isRf_o | assumption) (by decide) (by rfl) ?_
      refine g_aload dX1_vatsAheadOf_32 (by rfl) (by first | exact isRf_r | exact isRf_n | exact isRf_o | assumption) ?_
      refine g_ifnull (tgt := 76) dX1_vatsAheadOf_34 (by decide) (by first | exact isRf_r | exact isRf_n | exact isRf_o | assumption) (fun c3 => nomatch c3) (fun c3 => ?_)
      refine g_iload dX1_vatsAheadOf_37 (by rfl) ?_
      refine g_iload_n dX1_vatsAheadOf_39 (by rfl) ?_
      refine g_icmp_ne (tgt := 46) dX1_vatsAheadOf_40 (by decide) (fun c4 => ?_) (fun c4 => ?_)
      · skip
        have hne : ¬ j = n := fun z => c4 (by rw [z])
        refine g_iload dX1_vatsAheadOf_46 (by rfl) ?_
        refine g_iload_n dX1_vatsAheadOf_48 (by rfl) ?_
        refine g_icmp_ge (tgt := 64) dX1_vatsAheadOf_49 (by decide) (fun c5 => ?_) (fun c5 => ?_)
        · skip
          have hjn : ¬ j < n := Nat.not_lt.mpr (c_ge (by omega) (by omega) c5)
          refine g_aload_n dX1_vatsAheadOf_64 (by rfl) (by first | exact isRf_r | exact isRf_n | exact isRf_o | assumption) ?_
          refine g_aload dX1_vatsAheadOf_65 (by rfl) (by first | exact isRf_r | exact isRf_n | exact isRf_o | assumption) ?_
          refine g_cV1x dX1_vatsAheadOf_67 lX1_198 vX8_isAheadOfLater (ct_X8_isAheadOfLater X aheadB_i (hvok n hn).pos (hvok j hlt).pos avn avj) (by first | assumption | (repeat' (first | assumption | exact hu_same | exact Ne.symm (by assumption) | apply hu_n1))) rfl ⟨Nat.le_of_ble_eq_true rfl, Nat.le_of_ble_eq_true rfl⟩ (Nat.le_of_ble_eq_true rfl) ⟨Nat.le_of_ble_eq_true rfl, Nat.le_of_ble_eq_true rfl⟩ ?_
          refine g_if_ne (tgt := 76) dX1_vatsAheadOf_70 (by decide) (fun c6 => ?_) (fun c6 => ?_)
          · skip
            have hp : avB r n j = false := by simp [avB, hne, hjn, bI_1 c6]
            refine g_iinc (v := nI (j + 1)) (L1 := [(0, _), (1, _), (2, _), (3, _), (4, _), (5, _)]) dX1_vatsAheadOf_76 (by rfl) (nI_1 j) (by decide) (by rfl) ?_
            refine g_goto (tgt := 11) dX1_vatsAheadOf_79 (by decide) ?_
            refine g_pick [0, 1, 2, 3, 4] rfl ?_
            refine ih hlt _ ?_
            first
              | rw [eacc, cnt_f hp]
              | (rw [cnt_t hp, eacc]; rfl)
          · skip
            have hp : avB r n j = true := by simp [avB, hne, hjn, bI_0 c6]
            refine g_iinc (L1 := [(0, _), (1, _), (2, _), (3, _), (4, _), (5, _)]) dX1_vatsAheadOf_73 (by rfl) (by rfl) (by decide) (by rfl) ?_
            refine g_iinc (v := nI (j + 1)) (L1 := [(0, _), (1, _), (2, _), (3, _), (4, _), (5, _)]) dX1_vatsAheadOf_76 (by rfl) (nI_1 j) (by decide) (by rfl) ?_
            refine g_goto (tgt := 11) dX1_vatsAheadOf_79 (by decide) ?_
            refine g_pick [0, 1, 2, 3, 4] rfl ?_
            refine ih hlt _ ?_
            first
              | rw [eacc, cnt_f hp]
              | (rw [cnt_t hp, eacc]; rfl)
        · skip
          have hjn : j < n := c_nge (by omega) (by omega) c5
          refine g_aload dX1_vatsAheadOf_52 (by rfl) (by first | exact isRf_r | exact isRf_n | exact isRf_o | assumption) ?_
          refine g_aload_n dX1_vatsAheadOf_54 (by rfl) (by first | exact isRf_r | exact isRf_n | exact isRf_o | assumption) ?_
          refine g_cV1x dX1_vatsAheadOf_55 lX1_198 vX8_isAheadOfLater (ct_X8_isAheadOfLater X aheadB_i (hvok j hlt).pos (hvok n hn).pos avj avn) (by first | assumption | (repeat' (first | assumption | exact hu_same | exact Ne.symm (by assumption) | apply hu_n1))) rfl ⟨Nat.le_of_ble_eq_true rfl, Nat.le_of_ble_eq_true rfl⟩ (Nat.le_of_ble_eq_true rfl) ⟨Nat.le_of_ble_eq_true rfl, Nat.le_of_ble_eq_true rfl⟩ ?_
          refine g_if_eq (tgt := 76) dX1_vatsAheadOf_58 (by decide) (fun c7 => ?_) (fun c7 => ?_)
          · skip
            have hp : avB r n j = false := by simp [avB, hne, hjn, bI_0 c7]
            refine g_iinc (v := nI (j + 1)) (L1 := [(0, _), (1, _), (2, _), (3, _), (4, _), (5, _)]) dX1_vatsAheadOf_76 (by rfl) (nI_1 j) (by decide) (by rfl) ?_
            refine g_goto (tgt := 11) dX1_vatsAheadOf_79 (by decide) ?_
            refine g_pick [0, 1, 2, 3, 4] rfl ?_
            refine ih hlt _ ?_
            first
              | rw [eacc, cnt_f hp]
              | (rw [cnt_t hp, eacc]; rfl)
          · skip
            have hp : avB r n j = true := by simp [avB, hne, hjn, bI_1 c7]
            refine g_goto (tgt := 73) dX1_vatsAheadOf_61 (by decide) ?_
            refine g_iinc (L1 := [(0, _), (1, _), (2, _), (3, _), (4, _), (5, _)]) dX1_vatsAheadOf_73 (by rfl) (by rfl) (by decide) (by rfl) ?_
            refine g_iinc (v := nI (j + 1)) (L1 := [(0, _), (1, _), (2, _), (3, _), (4, _), (5, _)]) dX1_vatsAheadOf_76 (by rfl) (nI_1 j) (by decide) (by rfl) ?_
            refine g_goto (tgt := 11) dX1_vatsAheadOf_79 (by decide) ?_
            refine g_pick [0, 1, 2, 3, 4] rfl ?_
            refine ih hlt _ ?_
            first
              | rw [eacc, cnt_f hp]
              | (rw [cnt_t hp, eacc]; rfl)
      · skip
        have hp : avB r n j = false := by
          have z := (nI_eq (by omega) (by omega)).mp c4
          subst z
          simp [avB]
        refine g_goto (tgt := 76) dX1_vatsAheadOf_43 (by decide) ?_
        refine g_iinc (v := nI (j + 1)) (L1 := [(0, _), (1, _), (2, _), (3, _), (4, _), (5, _)]) dX1_vatsAheadOf_76 (by rfl) (nI_1 j) (by decide) (by rfl) ?_
        refine g_goto (tgt := 11) dX1_vatsAheadOf_79 (by decide) ?_
        refine g_pick [0, 1, 2, 3, 4] rfl ?_
        refine ih hlt _ ?_
        first
          | rw [eacc, cnt_f hp]
          | (rw [cnt_t hp, eacc]; rfl)
  exact loop11 0 (by omega) _ rfl
