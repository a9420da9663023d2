theorem c_eq {a b : Nat} (ha : a < 2 ^ 31) (hb : b < 2 ^ 31) (c : nI a = nI b) : a = b := by
  have z := congrArg Int32.toInt c
  rw [nI_toInt ha, nI_toInt hb] at z
  omega

set_option maxHeartbeats 4000000 in
set_option maxRecDepth 100000 in
theorem ct_X10_lot (X : Cx) {h : Hp} {M : Nat → Nat} {r : Nat → Int32} {n tn : Nat} {rows : Nat → Nat → Int32} {tg : Nat → Int32} {c w : Int32}  (hn : n ≤ 4) (hO : Ok r) (hD : MdAt X h M r n rows tn tg) : Ct X mX10_lot 1 0 0 [.ref (M 0), .int c, .int w] h (fun u h1 => u = some (.int (F_lot r c w).1) ∧ MdTo X h h1 M (F_lot r c w).2 (sysN (F_lot r c w).1 n) (sysR (F_lot r c w).1 n r rows) tn tg) := by
  obtain ⟨s0, hS⟩ := id hD
  have hM := hS.mo
  obtain ⟨⟨n2, st, n3, n4, le, n5, at0, lt, n6, fl, n7, m0⟩, m1⟩ := id hM
  unfold mdl at m0
  have dA := hM.ne
  obtain ⟨nv, nl, no, hnv, hnl, hno, e7, e8, e9, hset, hvok, hvz, hlok, hlz, hok, hoz, hw⟩ := id hO
  refine Ct.ofG vX10_lot.1.2.2.1 (Nat.le_of_ble_eq_true rfl) ?_
  show G X RX10 cX10_lot 5 (some .int) "lot" (Rm 1 0 0) (Fm X (fun u h1 => u = some (.int (F_lot r c w).1) ∧ MdTo X h h1 M (F_lot r c w).2 (sysN (F_lot r c w).1 n) (sysR (F_lot r c w).1 n r rows) tn tg) 0 0) 0 0 0 [(0, .ref (M 0)), (1, .int c), (2, .int w)] [] h
  refine g_iload_n dX10_lot_0 (by rfl) ?_
  refine g_iconst (v := 0) dX10_lot_1 (by decide) ?_
  refine g_iconst (v := 1) dX10_lot_2 (by decide) ?_
  refine g_cS3x dX10_lot_3 lX10_31 rfl vX10_in (ct_X10_in X) ⟨Nat.le_of_ble_eq_true rfl, Nat.le_of_ble_eq_true rfl⟩ (Nat.le_of_ble_eq_true rfl) ⟨Nat.le_of_ble_eq_true rfl, Nat.le_of_ble_eq_true rfl⟩ ?_
  refine g_if_eq (tgt := 21) dX10_lot_6 (by decide) (fun c1 => ?_) (fun c1 => ?_)
  · skip
    have eF : F_lot r c w = (-1, r) := by
      unfold F_lot
      rw [show rngB 0 1 c = false from bI_0 c1]
      rfl
    refine g_iconst (v := (-1)) dX10_lot_21 (by decide) ?_
    refine g_iret dX10_lot_22 rfl (Nat.le_refl _) (Nat.le_refl _) ?_
    exact mfin_err hD eF (by decide)
  · skip
    have hk := bI_1 c1
    refine g_iload_n dX10_lot_9 (by rfl) ?_
    refine g_bipush (v := 100) dX10_lot_10 (by decide) ?_
    refine g_sipush (v := 5000) dX10_lot_12 (by decide) ?_
    refine g_cS3x dX10_lot_15 lX10_31 rfl vX10_in (ct_X10_in X) ⟨Nat.le_of_ble_eq_true rfl, Nat.le_of_ble_eq_true rfl⟩ (Nat.le_of_ble_eq_true rfl) ⟨Nat.le_of_ble_eq_true rfl, Nat.le_of_ble_eq_true rfl⟩ ?_
    refine g_if_ne (tgt := 23) dX10_lot_18 (by decide) (fun c2 => ?_) (fun c2 => ?_)
    · skip
      have hg := bI_1 c2
      refine g_aload_n dX10_lot_23 (by rfl) (by first | exact isRf_r | exact isRf_n | exact isRf_o | assumption) ?_
      refine g_getf dX10_lot_24 fX10_7 (by first | exact m0 | exact k0 | exact hr_a dA k0) (by rfl) ?_
      refine g_bipush (v := 8) dX10_lot_27 (by decide) ?_
      refine g_ilM (8) dX10_lot_29 (by first | exact m1 | exact k1 | exact hr_n) (by first | rfl | exact lin3 | exact lin3a | exact linA | exact linB) (by omega) ?_
      rw [e8]
      refine g_bipush (v := 20) dX10_lot_30 (by decide) ?_
      refine g_icmp_ne (tgt := 38) dX10_lot_32 (by decide) (fun c3 => ?_) (fun c3 => ?_)
      · skip
        have hlt : nl < 20 := by
          have q : nl ≠ 20 := fun z => c3 (by rw [z]; rfl)
          omega
        have hl : r 8 < 20 := by
          rw [e8]
          exact nI_lt (b := 20) hlt (by omega)
        have eF : F_lot r c w = (nI nl, upd (upd (upd r (43 + 15 * nl + 0) c) (43 + 15 * nl + 1) w) 8 (nI nl + 1)) := by
          unfold F_lot
          rw [hk, hg, decide_eq_true hl, e8, cl_nI (by omega)]
          rfl
        refine g_aload_n dX10_lot_38 (by rfl) (by first | exact isRf_r | exact isRf_n | exact isRf_o | assumption) ?_
        refine g_cV0 dX10_lot_39 lX10_43 vX10_notes (ct_mNotes X hn hD) (by first | exact m0 | exact k0 | exact hr_a dA k0) rfl ⟨Nat.le_of_ble_eq_true rfl, Nat.le_of_ble_eq_true rfl⟩ (Nat.le_of_ble_eq_true rfl) ⟨Nat.le_of_ble_eq_true rfl, Nat.le_of_ble_eq_true rfl⟩ ?_
        rintro _ hh ⟨rfl, ⟨s1, hS1⟩, hf1⟩
        have hM1 := hS1.mo
        obtain ⟨⟨n2', st', n3', n4', le', n5', at0', lt', n6', fl', n7', k0⟩, k1⟩ := id hM1
        unfold mdl at k0
        refine g_aload_n dX10_lot_42 (by rfl) (by first | exact isRf_r | exact isRf_n | exact isRf_o | assumption) ?_
        refine g_getf dX10_lot_43 fX10_7 (by first | exact m0 | exact k0 | exact hr_a dA k0) (by rfl) ?_
        refine g_bipush (v := 8) dX10_lot_46 (by decide) ?_
        refine g_ilM (8) dX10_lot_48 (by first | exact m1 | exact k1 | exact hr_n) (by first | rfl | exact lin3 | exact lin3a | exact linA | exact linB) (by omega) ?_
        rw [e8]
        refine g_istore_n (L1 := [(0, _), (1, _), (2, _), (3, _)]) dX10_lot_49 (by decide) (by rfl) ?_
        refine g_iconst (v := 0) dX10_lot_50 (by decide) ?_
        refine g_istore (L1 := [(0, _), (1, _), (2, _), (3, _), (4, _)]) dX10_lot_51 (by decide) (by rfl) ?_
        have loop53 : ∀ i, i ≤ 15 → G X RX10 cX10_lot 5 (some .int) "lot" (Rm 1 0 0) (Fm X (fun u h1 => u = some (.int (F_lot r c w).1) ∧ MdTo X h h1 M (F_lot r c w).2 (sysN (F_lot r c w).1 n) (sysR (F_lot r c w).1 n r rows) tn tg) 0 0) 0 0 53 [(0, .ref (M 0)), (1, .int c), (2, .int w), (3, .int (nI nl)), (4, .int (nI i))] [] (hr X hh (M 1) r) := by
          refine up_ind 15 (fun i hi ih => ?_)
          refine g_iload dX10_lot_53 (by rfl) ?_
          refine g_bipush (v := 15) dX10_lot_55 (by decide) ?_
          refine g_icmp_ge (tgt := 74) dX10_lot_57 (by decide) (fun c4 => ?_) (fun c4 => ?_)
          · skip
            have hie : i = 15 := Nat.le_antisymm hi (c_ge (a := 15) (by omega) (by omega) c4)
            subst hie
            refine g_aload_n dX10_lot_74 (by rfl) (by first | exact isRf_r | exact isRf_n | exact isRf_o | assumption) ?_
            refine g_iload_n dX10_lot_75 (by rfl) ?_
            refine g_iconst (v := 0) dX10_lot_76 (by decide) ?_
            refine g_iload_n dX10_lot_77 (by rfl) ?_
            refine g_cV3v dX10_lot_78 lX10_80 vX10_puts (ct_X10_puts X (i := nl) (k := 0) (by first | exact hM | exact hM1 | exact hM1.hr) (by omega)) (by first | exact m0 | exact k0 | exact hr_a dA k0) rfl ⟨Nat.le_of_ble_eq_true rfl, Nat.le_of_ble_eq_true rfl⟩ (Nat.le_of_ble_eq_true rfl) ⟨Nat.le_of_ble_eq_true rfl, Nat.le_of_ble_eq_true rfl⟩ ?_
            rw [hrr]
            refine g_aload_n dX10_lot_81 (by rfl) (by first | exact isRf_r | exact isRf_n | exact isRf_o | assumption) ?_
            refine g_iload_n dX10_lot_82 (by rfl) ?_
            refine g_iconst (v := 1) dX10_lot_83 (by decide) ?_
            refine g_iload_n dX10_lot_84 (by rfl) ?_
            refine g_cV3v dX10_lot_85 lX10_80 vX10_puts (ct_X10_puts X (i := nl) (k := 1) (by first | exact hM | exact hM1 | exact hM1.hr) (by omega)) (by first | exact m0 | exact k0 | exact hr_a dA k0) rfl ⟨Nat.le_of_ble_eq_true rfl, Nat.le_of_ble_eq_true rfl⟩ (Nat.le_of_ble_eq_true rfl) ⟨Nat.le_of_ble_eq_true rfl, Nat.le_of_ble_eq_true rfl⟩ ?_
            rw [hrr]
            refine g_aload_n dX10_lot_88 (by rfl) (by first | exact isRf_r | exact isRf_n | exact isRf_o | assumption) ?_
            refine g_getf dX10_lot_89 fX10_7 (by first | exact m0 | exact k0 | exact hr_a dA k0) (by rfl) ?_
            refine g_bipush (v := 8) dX10_lot_92 (by decide) ?_
            refine g_dup2 dX10_lot_94 (by rfl) (by rfl) ?_
            refine g_ilM (8) dX10_lot_95 (by first | exact m1 | exact k1 | exact hr_n) (by first | rfl | exact lin3 | exact lin3a | exact linA | exact linB) (by omega) ?_
            rw [upd_n (by omega), upd_n (by omega), e8]
            refine g_iconst (v := 1) dX10_lot_96 (by decide) ?_
            refine g_iadd dX10_lot_97 ?_
            first | refine g_isH (8) dX10_lot_98 (by first | rfl | exact lin3 | exact lin3a | exact linA | exact linB) (by omega) ?_ | refine g_isM (8) dX10_lot_98 (by first | exact m1 | exact k1 | exact hr_n) (by first | rfl | exact lin3 | exact lin3a | exact linA | exact linB) (by omega) ?_
            refine g_iload_n dX10_lot_99 (by rfl) ?_
            refine g_iret dX10_lot_100 rfl (Nat.le_refl _) (Nat.le_refl _) ?_
            exact mfin_ok hS1 hf1 eF (nI_ge0 (by omega)) (fun p hp => rfl)
          · skip
            have hi15 : i < 15 := c_nge (a := 15) (b := i) (by omega) (by omega) c4
            refine g_aload_n dX10_lot_60 (by rfl) (by first | exact isRf_r | exact isRf_n | exact isRf_o | assumption) ?_
            refine g_iload_n dX10_lot_61 (by rfl) ?_
            refine g_iload dX10_lot_62 (by rfl) ?_
            refine g_iconst (v := 0) dX10_lot_64 (by decide) ?_
            refine g_cV3v dX10_lot_65 lX10_80 vX10_puts (ct_X10_puts X (i := nl) (k := i) (by first | exact hM | exact hM1 | exact hM1.hr) (by omega)) (by first | exact m0 | exact k0 | exact hr_a dA k0) rfl ⟨Nat.le_of_ble_eq_true rfl, Nat.le_of_ble_eq_true rfl⟩ (Nat.le_of_ble_eq_true rfl) ⟨Nat.le_of_ble_eq_true rfl, Nat.le_of_ble_eq_true rfl⟩ ?_
            rw [hrr, upd_same (show r (43 + 15 * nl + i) = 0 from hlz nl (Nat.le_refl _) hlt i hi15)]
            refine g_iinc (v := nI (i + 1)) (L1 := [(0, _), (1, _), (2, _), (3, _), (4, _)]) dX10_lot_68 (by rfl) (nI_1 i) (by decide) (by rfl) ?_
            refine g_goto (tgt := 53) dX10_lot_71 (by decide) ?_
            exact ih hi15
        have l53 := loop53 0 (by omega)
        rw [hr_id k1] at l53
        exact l53
      · skip
        have h6 : ¬ r 8 < 20 := by
          have z := c_eq (b := 20) (by omega) (by omega) (show nI nl = nI 20 from c3)
          rw [e8, z]
          decide
        have eF : F_lot r c w = (-3, r) := by
          unfold F_lot
          rw [hk, hg, decide_eq_false h6]
          rfl
        refine g_bipush (v := (-3)) dX10_lot_35 (by decide) ?_
        refine g_iret dX10_lot_37 rfl (Nat.le_refl _) (Nat.le_refl _) ?_
        exact mfin_err hD eF (by decide)
    · skip
      have eF : F_lot r c w = (-1, r) := by
        unfold F_lot
        rw [hk, show rngB 100 5000 w = false from bI_0 c2]
        rfl
      refine g_iconst (v := (-1)) dX10_lot_21 (by decide) ?_
      refine g_iret dX10_lot_22 rfl (Nat.le_refl _) (Nat.le_refl _) ?_
      exact mfin_err hD eF (by decide)

set_option maxHeartbeats 4000000 in
set_option maxRecDepth 100000 in
theorem ct_X10_order (X : Cx) {h : Hp} {M : Nat → Nat} {r : Nat → Int32} {n tn : Nat} {rows : Nat → Nat → Int32} {tg : Nat → Int32} {a b c d : Int32}  (hn : n ≤ 4) (hO : Ok r) (hD : MdAt X h M r n rows tn tg) (hu2 : unsN r ≤ 8) : Ct X mX10_order 2 0 0 [.ref (M 0), .int a, .int b, .int c, .int d] h (fun u h1 => u = some (.int (F_order r a b c d).1) ∧ MdTo X h h1 M (F_order r a b c d).2 (sysN (F_order r a b c d).1 n) (sysR (F_order r a b c d).1 n r rows) tn tg) := by
  obtain ⟨s0, hS⟩ := id hD
  have hM := hS.mo
  obtain ⟨⟨n2, st, n3, n4, le, n5, at0, lt, n6, fl, n7, m0⟩, m1⟩ := id hM
  unfold mdl at m0
  have dA := hM.ne
  obtain ⟨nv, nl, no, hnv, hnl, hno, e7, e8, e9, hset, hvok, hvz, hlok, hlz, hok, hoz, hw⟩ := id hO
  refine Ct.ofG vX10_order.1.2.2.1 (Nat.le_of_ble_eq_true rfl) ?_
  show G X RX10 cX10_order 6 (some .int) "order" (Rm 2 0 0) (Fm X (fun u h1 => u = some (.int (F_order r a b c d).1) ∧ MdTo X h h1 M (F_order r a b c d).2 (sysN (F_order r a b c d).1 n) (sysR (F_order r a b c d).1 n r rows) tn tg) 0 0) 0 0 0 [(0, .ref (M 0)), (1, .int a), (2, .int b), (3, .int c), (4, .int d)] [] h
  refine g_iload_n dX10_order_0 (by rfl) ?_
  refine g_cS1x dX10_order_1 lX10_137 rfl vX10_isShade (ct_X10_isShade X) ⟨Nat.le_of_ble_eq_true rfl, Nat.le_of_ble_eq_true rfl⟩ (Nat.le_of_ble_eq_true rfl) ⟨Nat.le_of_ble_eq_true rfl, Nat.le_of_ble_eq_true rfl⟩ ?_
  refine g_if_eq (tgt := 29) dX10_order_4 (by decide) (fun c1 => ?_) (fun c1 => ?_)
  · skip
    have eF : F_order r a b c d = (-1, r) := by
      unfold F_order
      rw [show rngB 0 20000 a = false from bI_0 c1]
      rfl
    refine g_iconst (v := (-1)) dX10_order_29 (by decide) ?_
    refine g_iret dX10_order_30 rfl (Nat.le_refl _) (Nat.le_refl _) ?_
    exact mfin_err hD eF (by decide)
  · skip
    have h1 := bI_1 c1
    refine g_iload_n dX10_order_7 (by rfl) ?_
    refine g_cS1x dX10_order_8 lX10_137 rfl vX10_isShade (ct_X10_isShade X) ⟨Nat.le_of_ble_eq_true rfl, Nat.le_of_ble_eq_true rfl⟩ (Nat.le_of_ble_eq_true rfl) ⟨Nat.le_of_ble_eq_true rfl, Nat.le_of_ble_eq_true rfl⟩ ?_
    refine g_if_eq (tgt := 29) dX10_order_11 (by decide) (fun c2 => ?_) (fun c2 => ?_)
    · skip
      have eF : F_order r a b c d = (-1, r) := by
        unfold F_order
        rw [h1, show rngB 0 20000 b = false from bI_0 c2]
        rfl
      refine g_iconst (v := (-1)) dX10_order_29 (by decide) ?_
      refine g_iret dX10_order_30 rfl (Nat.le_refl _) (Nat.le_refl _) ?_
      exact mfin_err hD eF (by decide)
    · skip
      have h2 := bI_1 c2
      refine g_iload_n dX10_order_14 (by rfl) ?_
      refine g_cS1x dX10_order_15 lX10_137 rfl vX10_isShade (ct_X10_isShade X) ⟨Nat.le_of_ble_eq_true rfl, Nat.le_of_ble_eq_true rfl⟩ (Nat.le_of_ble_eq_true rfl) ⟨Nat.le_of_ble_eq_true rfl, Nat.le_of_ble_eq_true rfl⟩ ?_
      refine g_if_eq (tgt := 29) dX10_order_18 (by decide) (fun c3 => ?_) (fun c3 => ?_)
      · skip
        have eF : F_order r a b c d = (-1, r) := by
          unfold F_order
          rw [h1, h2, show rngB 0 20000 c = false from bI_0 c3]
          rfl
        refine g_iconst (v := (-1)) dX10_order_29 (by decide) ?_
        refine g_iret dX10_order_30 rfl (Nat.le_refl _) (Nat.le_refl _) ?_
        exact mfin_err hD eF (by decide)
      · skip
        have h3 := bI_1 c3
        refine g_iload dX10_order_21 (by rfl) ?_
        refine g_cS1x dX10_order_23 lX10_137 rfl vX10_isShade (ct_X10_isShade X) ⟨Nat.le_of_ble_eq_true rfl, Nat.le_of_ble_eq_true rfl⟩ (Nat.le_of_ble_eq_true rfl) ⟨Nat.le_of_ble_eq_true rfl, Nat.le_of_ble_eq_true rfl⟩ ?_
        refine g_if_ne (tgt := 31) dX10_order_26 (by decide) (fun c4 => ?_) (fun c4 => ?_)
        · skip
          have h4 := bI_1 c4
          have eu : unsN r = cntN (fun o => decide (od r o 4 = 0)) no := by
            unfold unsN
            rw [e9, cl_nI (by omega)]
          refine g_aload_n dX10_order_31 (by rfl) (by first | exact isRf_r | exact isRf_n | exact isRf_o | assumption) ?_
          refine g_cV0x dX10_order_32 lX10_140 vX10_unserved (ct_X10_unserved X (by first | exact hM | exact hM1 | exact hM1.hr) hno e9 hok) (by first | exact m0 | exact k0 | exact hr_a dA k0) rfl ⟨Nat.le_of_ble_eq_true rfl, Nat.le_of_ble_eq_true rfl⟩ (Nat.le_of_ble_eq_true rfl) ⟨Nat.le_of_ble_eq_true rfl, Nat.le_of_ble_eq_true rfl⟩ ?_
          refine g_bipush (v := 8) dX10_order_35 (by decide) ?_
          refine g_icmp_eq (tgt := 52) dX10_order_37 (by decide) (fun c5 => ?_) (fun c5 => ?_)
          · skip
            have h8 : ¬ nI (unsN r) < 8 := by
              have z := c_eq (b := 8) (by omega) (by omega) (show nI (cntN (fun o => decide (od r o 4 = 0)) no) = nI 8 from c5)
              rw [eu, z]
              decide
            have eF : F_order r a b c d = (-3, r) := by
              unfold F_order
              rw [h1, h2, h3, h4, decide_eq_false h8, Bool.and_false]
              rfl
            refine g_bipush (v := (-3)) dX10_order_52 (by decide) ?_
            refine g_iret dX10_order_54 rfl (Nat.le_refl _) (Nat.le_refl _) ?_
            exact mfin_err hD eF (by decide)
          · skip
            have h8 : nI (unsN r) < 8 := by
              have q : unsN r ≠ 8 := fun z => c5 (by rw [← eu, z]; rfl)
              exact nI_lt (b := 8) (by omega) (by omega)
            refine g_aload_n dX10_order_40 (by rfl) (by first | exact isRf_r | exact isRf_n | exact isRf_o | assumption) ?_
            refine g_getf dX10_order_41 fX10_7 (by first | exact m0 | exact k0 | exact hr_a dA k0) (by rfl) ?_
            refine g_bipush (v := 9) dX10_order_44 (by decide) ?_
            refine g_ilM (9) dX10_order_46 (by first | exact m1 | exact k1 | exact hr_n) (by first | rfl | exact lin3 | exact lin3a | exact linA | exact linB) (by omega) ?_
            rw [e9]
            refine g_bipush (v := 60) dX10_order_47 (by decide) ?_
            refine g_icmp_ne (tgt := 55) dX10_order_49 (by decide) (fun c6 => ?_) (fun c6 => ?_)
            · skip
              have hlt : no < 60 := by
                have q : no ≠ 60 := fun z => c6 (by rw [z]; rfl)
                omega
              have hl : r 9 < 60 := by
                rw [e9]
                exact nI_lt (b := 60) hlt (by omega)
              have eF : F_order r a b c d = (nI no, upd (upd (upd (upd (upd r (343 + 5 * no + 0) a) (343 + 5 * no + 1) b) (343 + 5 * no + 2) c) (343 + 5 * no + 3) d) 9 (nI no + 1)) := by
                unfold F_order
                rw [h1, h2, h3, h4, decide_eq_true hl, decide_eq_true h8, e9, cl_nI (by omega)]
                rfl
              have z4 : r (343 + 5 * no + 4) = 0 := hoz no (Nat.le_refl _) hlt 4 (by omega)
              refine g_aload_n dX10_order_55 (by rfl) (by first | exact isRf_r | exact isRf_n | exact isRf_o | assumption) ?_
              refine g_cV0 dX10_order_56 lX10_43 vX10_notes (ct_mNotes X hn hD) (by first | exact m0 | exact k0 | exact hr_a dA k0) rfl ⟨Nat.le_of_ble_eq_true rfl, Nat.le_of_ble_eq_true rfl⟩ (Nat.le_of_ble_eq_true rfl) ⟨Nat.le_of_ble_eq_true rfl, Nat.le_of_ble_eq_true rfl⟩ ?_
              rintro _ hh ⟨rfl, ⟨s1, hS1⟩, hf1⟩
              have hM1 := hS1.mo
              obtain ⟨⟨n2', st', n3', n4', le', n5', at0', lt', n6', fl', n7', k0⟩, k1⟩ := id hM1
              unfold mdl at k0
              refine g_sipush (v := 343) dX10_order_59 (by decide) ?_
              refine g_iconst (v := 5) dX10_order_62 (by decide) ?_
              refine g_aload_n dX10_order_63 (by rfl) (by first | exact isRf_r | exact isRf_n | exact isRf_o | assumption) ?_
              refine g_getf dX10_order_64 fX10_7 (by first | exact m0 | exact k0 | exact hr_a dA k0) (by rfl) ?_
              refine g_bipush (v := 9) dX10_order_67 (by decide) ?_
              refine g_ilM (9) dX10_order_69 (by first | exact m1 | exact k1 | exact hr_n) (by first | rfl | exact lin3 | exact lin3a | exact linA | exact linB) (by omega) ?_
              rw [e9]
              refine g_imul dX10_order_70 ?_
              refine g_iadd dX10_order_71 ?_
              refine g_istore (L1 := [(0, _), (1, _), (2, _), (3, _), (4, _), (5, _)]) dX10_order_72 (by decide) (by rfl) ?_
              refine g_aload_n dX10_order_74 (by rfl) (by first | exact isRf_r | exact isRf_n | exact isRf_o | assumption) ?_
              refine g_getf dX10_order_75 fX10_7 (by first | exact m0 | exact k0 | exact hr_a dA k0) (by rfl) ?_
              refine g_iload dX10_order_78 (by rfl) ?_
              refine g_iload_n dX10_order_80 (by rfl) ?_
              first | refine g_isH (343 + 5 * no) dX10_order_81 (by first | rfl | exact lin3 | exact lin3a | exact linA | exact linB) (by omega) ?_ | refine g_isM (343 + 5 * no) dX10_order_81 (by first | exact m1 | exact k1 | exact hr_n) (by first | rfl | exact lin3 | exact lin3a | exact linA | exact linB) (by omega) ?_
              refine g_aload_n dX10_order_82 (by rfl) (by first | exact isRf_r | exact isRf_n | exact isRf_o | assumption) ?_
              refine g_getf dX10_order_83 fX10_7 (by first | exact m0 | exact k0 | exact hr_a dA k0) (by rfl) ?_
              refine g_iload dX10_order_86 (by rfl) ?_
              refine g_iconst (v := 1) dX10_order_88 (by decide) ?_
              refine g_iadd dX10_order_89 ?_
              refine g_iload_n dX10_order_90 (by rfl) ?_
              first | refine g_isH (343 + 5 * no + 1) dX10_order_91 (by first | rfl | exact lin3 | exact lin3a | exact linA | exact linB) (by omega) ?_ | refine g_isM (343 + 5 * no + 1) dX10_order_91 (by first | exact m1 | exact k1 | exact hr_n) (by first | rfl | exact lin3 | exact lin3a | exact linA | exact linB) (by omega) ?_
              refine g_aload_n dX10_order_92 (by rfl) (by first | exact isRf_r | exact isRf_n | exact isRf_o | assumption) ?_
              refine g_getf dX10_order_93 fX10_7 (by first | exact m0 | exact k0 | exact hr_a dA k0) (by rfl) ?_
              refine g_iload dX10_order_96 (by rfl) ?_
              refine g_iconst (v := 2) dX10_order_98 (by decide) ?_
              refine g_iadd dX10_order_99 ?_
              refine g_iload_n dX10_order_100 (by rfl) ?_
              first | refine g_isH (343 + 5 * no + 2) dX10_order_101 (by first | rfl | exact lin3 | exact lin3a | exact linA | exact linB) (by omega) ?_ | refine g_isM (343 + 5 * no + 2) dX10_order_101 (by first | exact m1 | exact k1 | exact hr_n) (by first | rfl | exact lin3 | exact lin3a | exact linA | exact linB) (by omega) ?_
              refine g_aload_n dX10_order_102 (by rfl) (by first | exact isRf_r | exact isRf_n | exact isRf_o | assumption) ?_
              refine g_getf dX10_order_103 fX10_7 (by first | exact m0 | exact k0 | exact hr_a dA k0) (by rfl) ?_
              refine g_iload dX10_order_106 (by rfl) ?_
              refine g_iconst (v := 3) dX10_order_108 (by decide) ?_
              refine g_iadd dX10_order_109 ?_
              refine g_iload dX10_order_110 (by rfl) ?_
              first | refine g_isH (343 + 5 * no + 3) dX10_order_112 (by first | rfl | exact lin3 | exact lin3a | exact linA | exact linB) (by omega) ?_ | refine g_isM (343 + 5 * no + 3) dX10_order_112 (by first | exact m1 | exact k1 | exact hr_n) (by first | rfl | exact lin3 | exact lin3a | exact linA | exact linB) (by omega) ?_
              refine g_aload_n dX10_order_113 (by rfl) (by first | exact isRf_r | exact isRf_n | exact isRf_o | assumption) ?_
              refine g_getf dX10_order_114 fX10_7 (by first | exact m0 | exact k0 | exact hr_a dA k0) (by rfl) ?_
              refine g_iload dX10_order_117 (by rfl) ?_
              refine g_iconst (v := 4) dX10_order_119 (by decide) ?_
              refine g_iadd dX10_order_120 ?_
              refine g_iconst (v := 0) dX10_order_121 (by decide) ?_
              first | refine g_isH (343 + 5 * no + 4) dX10_order_122 (by first | rfl | exact lin3 | exact lin3a | exact linA | exact linB) (by omega) ?_ | refine g_isM (343 + 5 * no + 4) dX10_order_122 (by first | exact m1 | exact k1 | exact hr_n) (by first | rfl | exact lin3 | exact lin3a | exact linA | exact linB) (by omega) ?_
              refine g_aload_n dX10_order_123 (by rfl) (by first | exact isRf_r | exact isRf_n | exact isRf_o | assumption) ?_
              refine g_getf dX10_order_124 fX10_7 (by first | exact m0 | exact k0 | exact hr_a dA k0) (by rfl) ?_
              refine g_bipush (v := 9) dX10_order_127 (by decide) ?_
              refine g_dup2 dX10_order_129 (by rfl) (by rfl) ?_
              refine g_ilM (9) dX10_order_130 (by first | exact m1 | exact k1 | exact hr_n) (by first | rfl | exact lin3 | exact lin3a | exact linA | exact linB) (by omega) ?_
              rw [upd_n (by omega), upd_n (by omega), upd_n (by omega), upd_n (by omega), upd_n (by omega), e9]
              refine g_iconst (v := 1) dX10_order_131 (by decide) ?_
              refine g_iadd dX10_order_132 ?_
              first | refine g_isH (9) dX10_order_133 (by first | rfl | exact lin3 | exact lin3a | exact linA | exact linB) (by omega) ?_ | refine g_isM (9) dX10_order_133 (by first | exact m1 | exact k1 | exact hr_n) (by first | rfl | exact lin3 | exact lin3a | exact linA | exact linB) (by omega) ?_
              refine g_aload_n dX10_order_134 (by rfl) (by first | exact isRf_r | exact isRf_n | exact isRf_o | assumption) ?_
              refine g_getf dX10_order_135 fX10_7 (by first | exact m0 | exact k0 | exact hr_a dA k0) (by rfl) ?_
              refine g_bipush (v := 9) dX10_order_138 (by decide) ?_
              refine g_ilM (9) dX10_order_140 (by first | exact m1 | exact k1 | exact hr_n) (by first | rfl | exact lin3 | exact lin3a | exact linA | exact linB) (by omega) ?_
              rw [upd_s]
              refine g_iconst (v := 1) dX10_order_141 (by decide) ?_
              refine g_isub dX10_order_142 ?_
              rw [nI_s1]
              refine g_iret dX10_order_143 rfl (Nat.le_refl _) (Nat.le_refl _) ?_
              refine mfin_ok hS1 hf1 eF (nI_ge0 (by omega)) (fun p hp => ?_)
              show upd _ _ _ p = upd _ _ _ p
              by_cases a7 : p = 9
              · subst a7; rw [upd_s, upd_s]
              rw [upd_n a7, upd_n a7]
              by_cases a3 : p = 343 + 5 * no + 4
              · subst a3; rw [upd_s, upd_n (by omega), upd_n (by omega), upd_n (by omega), upd_n (by omega), z4]
              rw [upd_n a3]
              rfl
            · skip
              have h6 : ¬ r 9 < 60 := by
                have z := c_eq (b := 60) (by omega) (by omega) (show nI no = nI 60 from c6)
                rw [e9, z]
                decide
              have eF : F_order r a b c d = (-3, r) := by
                unfold F_order
                rw [h1, h2, h3, h4, decide_eq_false h6, Bool.false_and]
                rfl
              refine g_bipush (v := (-3)) dX10_order_52 (by decide) ?_
              refine g_iret dX10_order_54 rfl (Nat.le_refl _) (Nat.le_refl _) ?_
              exact mfin_err hD eF (by decide)
        · skip
          have eF : F_order r a b c d = (-1, r) := by
            unfold F_order
            rw [h1, h2, h3, show rngB 0 20000 d = false from bI_0 c4]
            rfl
          refine g_iconst (v := (-1)) dX10_order_29 (by decide) ?_
          refine g_iret dX10_order_30 rfl (Nat.le_refl _) (Nat.le_refl _) ?_
          exact mfin_err hD eF (by decide)
