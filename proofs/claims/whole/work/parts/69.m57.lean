theorem sw_in {m : Nat} {k : Int32} (hm : m < 1000) (h : rngB 0 (nI m) k = true) : ∃ j, j ≤ m ∧ k = nI j := by
  have h2 := rng_b h
  rw [z_toInt, i_nI hm] at h2
  obtain ⟨j, hj, e⟩ := i_sm (x := k) (n := m + 1) (by omega) (by omega) (by omega)
  exact ⟨j, by omega, e⟩
theorem sw_out {m : Nat} {k : Int32} (hm : m < 1000) (h : ¬ rngB 0 (nI m) k = true) : k.toInt < 0 ∨ (m : Int) < k.toInt := by
  rw [rngB_i, i_le, i_le, z_toInt, i_nI hm] at h
  omega
theorem okB_o {n : Nat} {w : Int32} (hn : n < 1000) (h : w.toInt < 0 ∨ (n : Int) ≤ w.toInt) : okB (nI n) w = false := by
  cases q : okB (nI n) w with
  | false => rfl
  | true =>
    simp only [okB, Bool.and_eq_true, decide_eq_true_eq, i_le, i_lt, z_toInt, i_nI hn] at q
    omega
theorem SOk.ge0 {r : Nat → Int32} (k : SOk r) {j : Nat} (hj : j < 7) : 0 ≤ (r j).toInt := by
  obtain ⟨h1, -⟩ := k j hj
  rw [i_le] at h1
  have z : 0 ≤ (leastF j).toInt := by
    rcases (show j = 0 ∨ j = 1 ∨ j = 2 ∨ j = 3 ∨ j = 4 ∨ j = 5 ∨ j = 6 by omega) with rfl | rfl | rfl | rfl | rfl | rfl | rfl <;> decide
  omega

set_option maxHeartbeats 4000000 in
set_option maxRecDepth 100000 in
theorem ct_X10_isSetting (X : Cx) {h : Hp} {w x : Int32}  : Ct X mX10_isSetting 1 0 0 [.int w, .int x] h (Ex (.int (bI (okB 7 w && rngB (leastF (cl w)) (mostF (cl w)) x))) h) := by
  refine Ct.ofG vX10_isSetting.1.2.2.1 (Nat.le_of_ble_eq_true rfl) ?_
  show G X RX10 cX10_isSetting 2 (some .boolean) "isSetting" (Rm 1 0 0) (Fm X (Ex (.int (bI (okB 7 w && rngB (leastF (cl w)) (mostF (cl w)) x))) h) 0 0) 0 0 0 [(0, .int w), (1, .int x)] [] h
  refine g_iload_n dX10_isSetting_0 (by rfl) ?_
  by_cases hsw : rngB 0 (nI 5) w = true
  · skip
    obtain ⟨jsw, hjsw, rfl⟩ := sw_in (m := 5) (by omega) hsw
    rcases (show jsw = 0 ∨ jsw = 1 ∨ jsw = 2 ∨ jsw = 3 ∨ jsw = 4 ∨ jsw = 5 by omega) with rfl | rfl | rfl | rfl | rfl | rfl
    · skip
      have ej : cl (nI 0) = 0 := cl_nI (by omega)
      have ek : okB 7 (nI 0) = true := by decide
      have eS : (bI (okB 7 (nI 0) && rngB (leastF (cl (nI 0))) (mostF (cl (nI 0))) x)) = bI (rngB (leastF 0) (mostF 0) x) := by rw [ej, ek]; rfl
      refine g_tableIn (tgt := 40) (off := 39) dX10_isSetting_1 (by decide) (by decide) (by decide) (by decide) ?_
      refine g_iload_n dX10_isSetting_40 (by rfl) ?_
      refine g_iconst (v := 1) dX10_isSetting_41 (by decide) ?_
      refine g_bipush (v := 100) dX10_isSetting_42 (by decide) ?_
      refine g_cS3x dX10_isSetting_44 lX10_31 rfl vX10_in (ct_X10_in X) ⟨Nat.le_of_ble_eq_true rfl, Nat.le_of_ble_eq_true rfl⟩ (Nat.le_of_ble_eq_true rfl) ⟨Nat.le_of_ble_eq_true rfl, Nat.le_of_ble_eq_true rfl⟩ ?_
      refine g_zret dX10_isSetting_47 rfl (by first | exact bI_nz _ | decide) (Nat.le_refl _) (Nat.le_refl _) ?_
      refine Ex.i ?_ rfl
      rw [eS]
      rfl
    · skip
      have ej : cl (nI 1) = 1 := cl_nI (by omega)
      have ek : okB 7 (nI 1) = true := by decide
      have eS : (bI (okB 7 (nI 1) && rngB (leastF (cl (nI 1))) (mostF (cl (nI 1))) x)) = bI (rngB (leastF 1) (mostF 1) x) := by rw [ej, ek]; rfl
      refine g_tableIn (tgt := 48) (off := 47) dX10_isSetting_1 (by decide) (by decide) (by decide) (by decide) ?_
      refine g_iload_n dX10_isSetting_48 (by rfl) ?_
      refine g_iconst (v := 0) dX10_isSetting_49 (by decide) ?_
      refine g_bipush (v := 50) dX10_isSetting_50 (by decide) ?_
      refine g_cS3x dX10_isSetting_52 lX10_31 rfl vX10_in (ct_X10_in X) ⟨Nat.le_of_ble_eq_true rfl, Nat.le_of_ble_eq_true rfl⟩ (Nat.le_of_ble_eq_true rfl) ⟨Nat.le_of_ble_eq_true rfl, Nat.le_of_ble_eq_true rfl⟩ ?_
      refine g_zret dX10_isSetting_55 rfl (by first | exact bI_nz _ | decide) (Nat.le_refl _) (Nat.le_refl _) ?_
      refine Ex.i ?_ rfl
      rw [eS]
      rfl
    · skip
      have ej : cl (nI 2) = 2 := cl_nI (by omega)
      have ek : okB 7 (nI 2) = true := by decide
      have eS : (bI (okB 7 (nI 2) && rngB (leastF (cl (nI 2))) (mostF (cl (nI 2))) x)) = bI (rngB (leastF 2) (mostF 2) x) := by rw [ej, ek]; rfl
      refine g_tableIn (tgt := 56) (off := 55) dX10_isSetting_1 (by decide) (by decide) (by decide) (by decide) ?_
      refine g_iload_n dX10_isSetting_56 (by rfl) ?_
      refine g_bipush (v := 10) dX10_isSetting_57 (by decide) ?_
      refine g_sipush (v := 1000) dX10_isSetting_59 (by decide) ?_
      refine g_cS3x dX10_isSetting_62 lX10_31 rfl vX10_in (ct_X10_in X) ⟨Nat.le_of_ble_eq_true rfl, Nat.le_of_ble_eq_true rfl⟩ (Nat.le_of_ble_eq_true rfl) ⟨Nat.le_of_ble_eq_true rfl, Nat.le_of_ble_eq_true rfl⟩ ?_
      refine g_zret dX10_isSetting_65 rfl (by first | exact bI_nz _ | decide) (Nat.le_refl _) (Nat.le_refl _) ?_
      refine Ex.i ?_ rfl
      rw [eS]
      rfl
    · skip
      have ej : cl (nI 3) = 3 := cl_nI (by omega)
      have ek : okB 7 (nI 3) = true := by decide
      have eS : (bI (okB 7 (nI 3) && rngB (leastF (cl (nI 3))) (mostF (cl (nI 3))) x)) = bI (rngB (leastF 3) (mostF 3) x) := by rw [ej, ek]; rfl
      refine g_tableIn (tgt := 66) (off := 65) dX10_isSetting_1 (by decide) (by decide) (by decide) (by decide) ?_
      refine g_iload_n dX10_isSetting_66 (by rfl) ?_
      refine g_bipush (v := 100) dX10_isSetting_67 (by decide) ?_
      refine g_sipush (v := 20000) dX10_isSetting_69 (by decide) ?_
      refine g_cS3x dX10_isSetting_72 lX10_31 rfl vX10_in (ct_X10_in X) ⟨Nat.le_of_ble_eq_true rfl, Nat.le_of_ble_eq_true rfl⟩ (Nat.le_of_ble_eq_true rfl) ⟨Nat.le_of_ble_eq_true rfl, Nat.le_of_ble_eq_true rfl⟩ ?_
      refine g_zret dX10_isSetting_75 rfl (by first | exact bI_nz _ | decide) (Nat.le_refl _) (Nat.le_refl _) ?_
      refine Ex.i ?_ rfl
      rw [eS]
      rfl
    · skip
      have ej : cl (nI 4) = 4 := cl_nI (by omega)
      have ek : okB 7 (nI 4) = true := by decide
      have eS : (bI (okB 7 (nI 4) && rngB (leastF (cl (nI 4))) (mostF (cl (nI 4))) x)) = bI (rngB (leastF 4) (mostF 4) x) := by rw [ej, ek]; rfl
      refine g_tableIn (tgt := 76) (off := 75) dX10_isSetting_1 (by decide) (by decide) (by decide) (by decide) ?_
      refine g_iload_n dX10_isSetting_76 (by rfl) ?_
      refine g_iconst (v := 0) dX10_isSetting_77 (by decide) ?_
      refine g_sipush (v := 2000) dX10_isSetting_78 (by decide) ?_
      refine g_cS3x dX10_isSetting_81 lX10_31 rfl vX10_in (ct_X10_in X) ⟨Nat.le_of_ble_eq_true rfl, Nat.le_of_ble_eq_true rfl⟩ (Nat.le_of_ble_eq_true rfl) ⟨Nat.le_of_ble_eq_true rfl, Nat.le_of_ble_eq_true rfl⟩ ?_
      refine g_zret dX10_isSetting_84 rfl (by first | exact bI_nz _ | decide) (Nat.le_refl _) (Nat.le_refl _) ?_
      refine Ex.i ?_ rfl
      rw [eS]
      rfl
    · skip
      have ej : cl (nI 5) = 5 := cl_nI (by omega)
      have ek : okB 7 (nI 5) = true := by decide
      have eS : (bI (okB 7 (nI 5) && rngB (leastF (cl (nI 5))) (mostF (cl (nI 5))) x)) = bI (rngB (leastF 5) (mostF 5) x) := by rw [ej, ek]; rfl
      refine g_tableIn (tgt := 48) (off := 47) dX10_isSetting_1 (by decide) (by decide) (by decide) (by decide) ?_
      refine g_iload_n dX10_isSetting_48 (by rfl) ?_
      refine g_iconst (v := 0) dX10_isSetting_49 (by decide) ?_
      refine g_bipush (v := 50) dX10_isSetting_50 (by decide) ?_
      refine g_cS3x dX10_isSetting_52 lX10_31 rfl vX10_in (ct_X10_in X) ⟨Nat.le_of_ble_eq_true rfl, Nat.le_of_ble_eq_true rfl⟩ (Nat.le_of_ble_eq_true rfl) ⟨Nat.le_of_ble_eq_true rfl, Nat.le_of_ble_eq_true rfl⟩ ?_
      refine g_zret dX10_isSetting_55 rfl (by first | exact bI_nz _ | decide) (Nat.le_refl _) (Nat.le_refl _) ?_
      refine Ex.i ?_ rfl
      rw [eS]
      rfl
  · skip
    have hso := sw_out (m := 5) (by omega) hsw
    refine g_tableOut (tgt := 85) dX10_isSetting_1 (sw_out (m := 5) (by omega) hsw) (by decide) ?_
    refine g_iload_n dX10_isSetting_85 (by rfl) ?_
    refine g_bipush (v := 6) dX10_isSetting_86 (by decide) ?_
    refine g_icmp_ne (tgt := 106) dX10_isSetting_88 (by decide) (fun c1 => ?_) (fun c1 => ?_)
    · skip
      have eS : okB 7 w = false := by
        refine okB_o (n := 7) (by omega) ?_
        have z6 : (6 : Int32).toInt = 6 := by decide
        have q : w.toInt ≠ 6 := fun z => c1 (Int32.toInt_inj.mp (by rw [z, z6]))
        omega
      refine g_iconst (v := 0) dX10_isSetting_106 (by decide) ?_
      refine g_zret dX10_isSetting_107 rfl (by first | exact bI_nz _ | decide) (Nat.le_refl _) (Nat.le_refl _) ?_
      refine Ex.i ?_ rfl
      first
        | (rw [eS, e9]; rfl)
        | (rw [eS]; rfl)
    · skip
      have e6 : w = nI 6 := c1
      subst e6
      have ej : cl (nI 6) = 6 := cl_nI (by omega)
      have ek : okB 7 (nI 6) = true := by decide
      have eS : (bI (okB 7 (nI 6) && rngB (leastF (cl (nI 6))) (mostF (cl (nI 6))) x)) = bI (rngB 0 20000 x) := by rw [ej, ek]; rfl
      refine g_iload_n dX10_isSetting_91 (by rfl) ?_
      refine g_iconst (v := 0) dX10_isSetting_92 (by decide) ?_
      refine g_sipush (v := 20000) dX10_isSetting_93 (by decide) ?_
      refine g_cS3x dX10_isSetting_96 lX10_31 rfl vX10_in (ct_X10_in X) ⟨Nat.le_of_ble_eq_true rfl, Nat.le_of_ble_eq_true rfl⟩ (Nat.le_of_ble_eq_true rfl) ⟨Nat.le_of_ble_eq_true rfl, Nat.le_of_ble_eq_true rfl⟩ ?_
      refine g_if_eq (tgt := 106) dX10_isSetting_99 (by decide) (fun c2 => ?_) (fun c2 => ?_)
      · skip
        have e9 := bI_0 c2
        refine g_iconst (v := 0) dX10_isSetting_106 (by decide) ?_
        refine g_zret dX10_isSetting_107 rfl (by first | exact bI_nz _ | decide) (Nat.le_refl _) (Nat.le_refl _) ?_
        refine Ex.i ?_ rfl
        first
          | (rw [eS, e9]; rfl)
          | (rw [eS]; rfl)
      · skip
        have e9 := bI_1 c2
        refine g_iconst (v := 1) dX10_isSetting_102 (by decide) ?_
        refine g_goto (tgt := 107) dX10_isSetting_103 (by decide) ?_
        refine g_zret dX10_isSetting_107 rfl (by first | exact bI_nz _ | decide) (Nat.le_refl _) (Nat.le_refl _) ?_
        refine Ex.i ?_ rfl
        first
          | (rw [eS, e9]; rfl)
          | (rw [eS]; rfl)

set_option maxHeartbeats 4000000 in
set_option maxRecDepth 100000 in
theorem ct_X10_set (X : Cx) {h : Hp} {M : Nat → Nat} {r : Nat → Int32} {n tn : Nat} {rows : Nat → Nat → Int32} {tg : Nat → Int32} {w x : Int32}  (hn : n ≤ 4) (hO : Ok r) (hD : MdAt X h M r n rows tn tg) : Ct X mX10_set 2 0 0 [.ref (M 0), .int w, .int x] h (fun u h1 => u = some (.int (F_set r w x).1) ∧ MdTo X h h1 M (F_set r w x).2 (sysN (F_set r w x).1 n) (sysR (F_set r w x).1 n r rows) tn tg) := by
  obtain ⟨s0, hS⟩ := id hD
  have hM := hS.mo
  obtain ⟨⟨n2, st, n3, n4, le, n5, at0, lt, n6, fl, n7, m0⟩, m1⟩ := id hM
  unfold mdl at m0
  have dA := hM.ne
  obtain ⟨nv, nl, no, hnv, hnl, hno, e7, e8, e9, hset, hvok, hvz, hlok, hlz, hok, hoz, hw⟩ := id hO
  refine Ct.ofG vX10_set.1.2.2.1 (Nat.le_of_ble_eq_true rfl) ?_
  show G X RX10 cX10_set 4 (some .int) "set" (Rm 2 0 0) (Fm X (fun u h1 => u = some (.int (F_set r w x).1) ∧ MdTo X h h1 M (F_set r w x).2 (sysN (F_set r w x).1 n) (sysR (F_set r w x).1 n r rows) tn tg) 0 0) 0 0 0 [(0, .ref (M 0)), (1, .int w), (2, .int x)] [] h
  refine g_iload_n dX10_set_0 (by rfl) ?_
  refine g_iload_n dX10_set_1 (by rfl) ?_
  refine g_cS2x dX10_set_2 lX10_182 rfl vX10_isSetting (ct_X10_isSetting X) ⟨Nat.le_of_ble_eq_true rfl, Nat.le_of_ble_eq_true rfl⟩ (Nat.le_of_ble_eq_true rfl) ⟨Nat.le_of_ble_eq_true rfl, Nat.le_of_ble_eq_true rfl⟩ ?_
  refine g_if_ne (tgt := 10) dX10_set_5 (by decide) (fun c1 => ?_) (fun c1 => ?_)
  · skip
    have hk := bI_1 c1
    have hk2 := hk
    rw [Bool.and_eq_true] at hk2
    obtain ⟨j, hj, rfl⟩ := okB_i (n := 7) (by omega) hk2.1
    have cj : cl (nI j) = j := cl_nI (by omega)
    have eF : F_set r (nI j) x = (r j, upd r j x) := by
      unfold F_set
      rw [hk, cj]
      rfl
    have hx := i_ge0 (hset.ge0 hj)
    refine g_aload_n dX10_set_10 (by rfl) (by first | exact isRf_r | exact isRf_n | exact isRf_o | assumption) ?_
    refine g_cV0 dX10_set_11 lX10_43 vX10_notes (ct_mNotes X hn hD) (by first | exact m0 | exact k0 | exact hr_a dA k0) rfl ⟨Nat.le_of_ble_eq_true rfl, Nat.le_of_ble_eq_true rfl⟩ (Nat.le_of_ble_eq_true rfl) ⟨Nat.le_of_ble_eq_true rfl, Nat.le_of_ble_eq_true rfl⟩ ?_
    rintro _ hh ⟨rfl, ⟨s1, hS1⟩, hf1⟩
    have hM1 := hS1.mo
    obtain ⟨⟨n2', st', n3', n4', le', n5', at0', lt', n6', fl', n7', k0⟩, k1⟩ := id hM1
    unfold mdl at k0
    refine g_aload_n dX10_set_14 (by rfl) (by first | exact isRf_r | exact isRf_n | exact isRf_o | assumption) ?_
    refine g_getf dX10_set_15 fX10_7 (by first | exact m0 | exact k0 | exact hr_a dA k0) (by rfl) ?_
    refine g_iload_n dX10_set_18 (by rfl) ?_
    refine g_ilM (j) dX10_set_19 (by first | exact m1 | exact k1 | exact hr_n) (by first | rfl | exact lin3 | exact lin3a | exact linA | exact linB) (by omega) ?_
    refine g_istore_n (L1 := [(0, _), (1, _), (2, _), (3, _)]) dX10_set_20 (by decide) (by rfl) ?_
    refine g_aload_n dX10_set_21 (by rfl) (by first | exact isRf_r | exact isRf_n | exact isRf_o | assumption) ?_
    refine g_getf dX10_set_22 fX10_7 (by first | exact m0 | exact k0 | exact hr_a dA k0) (by rfl) ?_
    refine g_iload_n dX10_set_25 (by rfl) ?_
    refine g_iload_n dX10_set_26 (by rfl) ?_
    first | refine g_isH (j) dX10_set_27 (by first | rfl | exact lin3 | exact lin3a | exact linA | exact linB) (by omega) ?_ | refine g_isM (j) dX10_set_27 (by first | exact m1 | exact k1 | exact hr_n) (by first | rfl | exact lin3 | exact lin3a | exact linA | exact linB) (by omega) ?_
    refine g_iload_n dX10_set_28 (by rfl) ?_
    refine g_iret dX10_set_29 rfl (Nat.le_refl _) (Nat.le_refl _) ?_
    exact mfin_ok hS1 hf1 eF hx (fun p hp => rfl)
  · skip
    have eF : F_set r w x = (-1, r) := by
      unfold F_set
      rw [show (okB 7 w && rngB (leastF (cl w)) (mostF (cl w)) x) = false from bI_0 c1]
      rfl
    refine g_iconst (v := (-1)) dX10_set_8 (by decide) ?_
    refine g_iret dX10_set_9 rfl (Nat.le_refl _) (Nat.le_refl _) ?_
    exact mfin_err hD eF (by decide)
