theorem mfin_ok {X : Cx} {h h1 : Hp} {M : Nat → Nat} {r r2 R s : Nat → Int32} {n tn : Nat} {rows : Nat → Nat → Int32} {tg : Nat → Int32} {F : Int32 × (Nat → Int32)} {x : Int32} (hS : MdS X h1 M r s (hstN n) (hstR n r rows) tn tg) (hf : ∀ q, outM M q → h1 q = h q) (eF : F = (x, r2)) (hx : ¬ x < 0) (e : ∀ p, p < 643 → R p = r2 p) : some (Value.int x) = some (.int F.1) ∧ MdTo X h (hr X h1 (M 1) R) M F.2 (sysN F.1 n) (sysR F.1 n r rows) tn tg := by
  rw [eF]
  refine ⟨rfl, ?_⟩
  show MdTo X h _ M r2 (sysN x n) (sysR x n r rows) tn tg
  rw [show sysN x n = hstN n from if_neg hx, show sysR x n r rows = hstR n r rows from if_neg hx, hr_e e]
  exact ⟨⟨s, hS.row⟩, fun q hq => (hr_out q hq).trans (hf q hq)⟩
theorem mfin_err {X : Cx} {h : Hp} {M : Nat → Nat} {r : Nat → Int32} {n tn : Nat} {rows : Nat → Nat → Int32} {tg : Nat → Int32} {F : Int32 × (Nat → Int32)} {x : Int32} (hD : MdAt X h M r n rows tn tg) (eF : F = (x, r)) (hx : x < 0) : some (Value.int x) = some (.int F.1) ∧ MdTo X h h M F.2 (sysN F.1 n) (sysR F.1 n r rows) tn tg := by
  rw [eF]
  refine ⟨rfl, ?_⟩
  show MdTo X h _ M r (sysN x n) (sysR x n r rows) tn tg
  rw [show sysN x n = n from if_pos hx, show sysR x n r rows = rows from if_pos hx]
  exact ⟨hD, fun q _ => rfl⟩
theorem i_ge0 {x : Int32} (h : 0 ≤ x.toInt) : ¬ x < 0 := by
  rw [i_lt, z_toInt]
  omega
theorem nI_ge0 {n : Nat} (h : n < 1000) : ¬ nI n < 0 := i_ge0 (by rw [i_nI h]; omega)

set_option maxHeartbeats 4000000 in
set_option maxRecDepth 100000 in
theorem ct_X10_weigh (X : Cx) {h : Hp} {M : Nat → Nat} {r : Nat → Int32} {n tn : Nat} {rows : Nat → Nat → Int32} {tg : Nat → Int32} {w g : Int32}  (hn : n ≤ 4) (hO : Ok r) (hD : MdAt X h M r n rows tn tg) : Ct X mX10_weigh 2 0 0 [.ref (M 0), .int w, .int g] h (fun u h1 => u = some (.int (F_weigh r w g).1) ∧ MdTo X h h1 M (F_weigh r w g).2 (sysN (F_weigh r w g).1 n) (sysR (F_weigh r w g).1 n r rows) tn tg) := by
  obtain ⟨s0, hS⟩ := id hD
  have hM := hS.mo
  obtain ⟨⟨n2, st, n3, n4, le, n5, at0, lt, n6, fl, n7, m0⟩, m1⟩ := id hM
  unfold mdl at m0
  have dA := hM.ne
  obtain ⟨nv, nl, no, hnv, hnl, hno, e7, e8, e9, hset, hvok, hvz, hlok, hlz, hok, hoz, hw⟩ := id hO
  refine Ct.ofG vX10_weigh.1.2.2.1 (Nat.le_of_ble_eq_true rfl) ?_
  show G X RX10 cX10_weigh 4 (some .int) "weigh" (Rm 2 0 0) (Fm X (fun u h1 => u = some (.int (F_weigh r w g).1) ∧ MdTo X h h1 M (F_weigh r w g).2 (sysN (F_weigh r w g).1 n) (sysR (F_weigh r w g).1 n r rows) tn tg) 0 0) 0 0 0 [(0, .ref (M 0)), (1, .int w), (2, .int g)] [] h
  refine g_aload_n dX10_weigh_0 (by rfl) (by first | exact isRf_r | exact isRf_n | exact isRf_o | assumption) ?_
  refine g_iload_n dX10_weigh_1 (by rfl) ?_
  refine g_cV1x dX10_weigh_2 lX10_53 vX10_isVat (ct_X10_isVat X (n := nv) (by first | exact hM | exact hM1 | exact hM1.hr) (by omega) e7) (by first | exact m0 | exact k0 | exact hr_a dA k0) rfl ⟨Nat.le_of_ble_eq_true rfl, Nat.le_of_ble_eq_true rfl⟩ (Nat.le_of_ble_eq_true rfl) ⟨Nat.le_of_ble_eq_true rfl, Nat.le_of_ble_eq_true rfl⟩ ?_
  refine g_if_eq (tgt := 18) dX10_weigh_5 (by decide) (fun c1 => ?_) (fun c1 => ?_)
  · skip
    have eF : F_weigh r w g = (-1, r) := by
      unfold F_weigh
      rw [e7, show okB (nI nv) w = false from bI_0 c1]
      rfl
    refine g_iconst (v := (-1)) dX10_weigh_18 (by decide) ?_
    refine g_iret dX10_weigh_19 rfl (Nat.le_refl _) (Nat.le_refl _) ?_
    exact mfin_err hD eF (by decide)
  · skip
    have hk : okB (nI nv) w = true := bI_1 c1
    obtain ⟨j, hj, rfl⟩ := okB_i (by omega) hk
    obtain ⟨⟨d, hd, ed⟩, hli1, hli2, hgr⟩ := hvok j hj
    have cj : cl (nI j) = j := cl_nI (by omega)
    have cd : cl (nI d) = d := cl_nI (by omega)
    refine g_iload_n dX10_weigh_8 (by rfl) ?_
    refine g_iconst (v := 1) dX10_weigh_9 (by decide) ?_
    refine g_ldc dX10_weigh_10 cX10_56 ?_
    refine g_cS3x dX10_weigh_12 lX10_31 rfl vX10_in (ct_X10_in X) ⟨Nat.le_of_ble_eq_true rfl, Nat.le_of_ble_eq_true rfl⟩ (Nat.le_of_ble_eq_true rfl) ⟨Nat.le_of_ble_eq_true rfl, Nat.le_of_ble_eq_true rfl⟩ ?_
    refine g_if_ne (tgt := 20) dX10_weigh_15 (by decide) (fun c2 => ?_) (fun c2 => ?_)
    · skip
      have hg := bI_1 c2
      refine g_aload_n dX10_weigh_20 (by rfl) (by first | exact isRf_r | exact isRf_n | exact isRf_o | assumption) ?_
      refine g_iload_n dX10_weigh_21 (by rfl) ?_
      refine g_iconst (v := 0) dX10_weigh_22 (by decide) ?_
      refine g_cV2x dX10_weigh_23 lX10_57 vX10_vatNumber (ct_X10_vatNumber X (i := j) (k := 0) (by first | exact hM | exact hM1 | exact hM1.hr) (by omega)) (by first | exact m0 | exact k0 | exact hr_a dA k0) rfl ⟨Nat.le_of_ble_eq_true rfl, Nat.le_of_ble_eq_true rfl⟩ (Nat.le_of_ble_eq_true rfl) ⟨Nat.le_of_ble_eq_true rfl, Nat.le_of_ble_eq_true rfl⟩ ?_
      rw [show r (19 + 4 * j + 0) = nI d from ed]
      refine g_istore_n (L1 := [(0, _), (1, _), (2, _), (3, _)]) dX10_weigh_26 (by decide) (by rfl) ?_
      refine g_aload_n dX10_weigh_27 (by rfl) (by first | exact isRf_r | exact isRf_n | exact isRf_o | assumption) ?_
      refine g_getf dX10_weigh_28 fX10_7 (by first | exact m0 | exact k0 | exact hr_a dA k0) (by rfl) ?_
      refine g_bipush (v := 11) dX10_weigh_31 (by decide) ?_
      refine g_iload_n dX10_weigh_33 (by rfl) ?_
      refine g_iadd dX10_weigh_34 ?_
      refine g_ilM (11 + d) dX10_weigh_35 (by first | exact m1 | exact k1 | exact hr_n) (by first | rfl | exact lin3 | exact lin3a | exact linA | exact linB) (by omega) ?_
      refine g_iload_n dX10_weigh_36 (by rfl) ?_
      refine g_iadd dX10_weigh_37 ?_
      refine g_ldc dX10_weigh_38 cX10_60 ?_
      refine g_icmp_le (tgt := 46) dX10_weigh_40 (by decide) (fun c3 => ?_) (fun c3 => ?_)
      · skip
        have eF : F_weigh r (nI j) g = (vt r j 2 + g, upd (upd r (11 + d) (r (11 + d) + g)) (19 + 4 * j + 2) (vt r j 2 + g)) := by
          unfold F_weigh
          rw [e7, hk, hg, cj, ed, cd, decide_eq_true (show r (11 + d) + g ≤ 1000000 from c3)]
          rfl
        have hb := Ok.cap1 hO (by omega) hd ed
        have hg2 := rng_b hg
        have q1 : (1 : Int32).toInt = 1 := by decide
        have q2 : (100000 : Int32).toInt = 100000 := by decide
        have hx : ¬ vt r j 2 + g < 0 := i_ge0 (by rw [i_add (by omega) (by omega)]; omega)
        refine g_aload_n dX10_weigh_46 (by rfl) (by first | exact isRf_r | exact isRf_n | exact isRf_o | assumption) ?_
        refine g_cV0 dX10_weigh_47 lX10_43 vX10_notes (ct_mNotes X hn hD) (by first | exact m0 | exact k0 | exact hr_a dA k0) rfl ⟨Nat.le_of_ble_eq_true rfl, Nat.le_of_ble_eq_true rfl⟩ (Nat.le_of_ble_eq_true rfl) ⟨Nat.le_of_ble_eq_true rfl, Nat.le_of_ble_eq_true rfl⟩ ?_
        rintro _ hh ⟨rfl, ⟨s1, hS1⟩, hf1⟩
        have hM1 := hS1.mo
        obtain ⟨⟨n2', st', n3', n4', le', n5', at0', lt', n6', fl', n7', k0⟩, k1⟩ := id hM1
        unfold mdl at k0
        refine g_aload_n dX10_weigh_50 (by rfl) (by first | exact isRf_r | exact isRf_n | exact isRf_o | assumption) ?_
        refine g_getf dX10_weigh_51 fX10_7 (by first | exact m0 | exact k0 | exact hr_a dA k0) (by rfl) ?_
        refine g_bipush (v := 11) dX10_weigh_54 (by decide) ?_
        refine g_iload_n dX10_weigh_56 (by rfl) ?_
        refine g_iadd dX10_weigh_57 ?_
        refine g_dup2 dX10_weigh_58 (by rfl) (by rfl) ?_
        refine g_ilM (11 + d) dX10_weigh_59 (by first | exact m1 | exact k1 | exact hr_n) (by first | rfl | exact lin3 | exact lin3a | exact linA | exact linB) (by omega) ?_
        refine g_iload_n dX10_weigh_60 (by rfl) ?_
        refine g_iadd dX10_weigh_61 ?_
        first | refine g_isH (11 + d) dX10_weigh_62 (by first | rfl | exact lin3 | exact lin3a | exact linA | exact linB) (by omega) ?_ | refine g_isM (11 + d) dX10_weigh_62 (by first | exact m1 | exact k1 | exact hr_n) (by first | rfl | exact lin3 | exact lin3a | exact linA | exact linB) (by omega) ?_
        refine g_aload_n dX10_weigh_63 (by rfl) (by first | exact isRf_r | exact isRf_n | exact isRf_o | assumption) ?_
        refine g_getf dX10_weigh_64 fX10_7 (by first | exact m0 | exact k0 | exact hr_a dA k0) (by rfl) ?_
        refine g_bipush (v := 19) dX10_weigh_67 (by decide) ?_
        refine g_iconst (v := 4) dX10_weigh_69 (by decide) ?_
        refine g_iload_n dX10_weigh_70 (by rfl) ?_
        refine g_imul dX10_weigh_71 ?_
        refine g_iadd dX10_weigh_72 ?_
        refine g_iconst (v := 2) dX10_weigh_73 (by decide) ?_
        refine g_iadd dX10_weigh_74 ?_
        refine g_dup2 dX10_weigh_75 (by rfl) (by rfl) ?_
        refine g_ilM (19 + 4 * j + 2) dX10_weigh_76 (by first | exact m1 | exact k1 | exact hr_n) (by first | rfl | exact lin3 | exact lin3a | exact linA | exact linB) (by omega) ?_
        refine g_iload_n dX10_weigh_77 (by rfl) ?_
        rw [upd_n (show 19 + 4 * j + 2 ≠ 11 + d by omega)]
        refine g_iadd dX10_weigh_78 ?_
        first | refine g_isH (19 + 4 * j + 2) dX10_weigh_79 (by first | rfl | exact lin3 | exact lin3a | exact linA | exact linB) (by omega) ?_ | refine g_isM (19 + 4 * j + 2) dX10_weigh_79 (by first | exact m1 | exact k1 | exact hr_n) (by first | rfl | exact lin3 | exact lin3a | exact linA | exact linB) (by omega) ?_
        refine g_aload_n dX10_weigh_80 (by rfl) (by first | exact isRf_r | exact isRf_n | exact isRf_o | assumption) ?_
        refine g_iload_n dX10_weigh_81 (by rfl) ?_
        refine g_iconst (v := 2) dX10_weigh_82 (by decide) ?_
        refine g_cV2x dX10_weigh_83 lX10_57 vX10_vatNumber (ct_X10_vatNumber X (i := j) (k := 2) (by first | exact hM | exact hM1 | exact hM1.hr) (by omega)) (by first | exact m0 | exact k0 | exact hr_a dA k0) rfl ⟨Nat.le_of_ble_eq_true rfl, Nat.le_of_ble_eq_true rfl⟩ (Nat.le_of_ble_eq_true rfl) ⟨Nat.le_of_ble_eq_true rfl, Nat.le_of_ble_eq_true rfl⟩ ?_
        rw [upd_s]
        refine g_iret dX10_weigh_86 rfl (Nat.le_refl _) (Nat.le_refl _) ?_
        exact mfin_ok hS1 hf1 eF hx (fun p hp => rfl)
      · skip
        have eF : F_weigh r (nI j) g = (-3, r) := by
          unfold F_weigh
          rw [e7, hk, hg, cj, ed, cd, decide_eq_false (show ¬ r (11 + d) + g ≤ 1000000 from c3)]
          rfl
        refine g_bipush (v := (-3)) dX10_weigh_43 (by decide) ?_
        refine g_iret dX10_weigh_45 rfl (Nat.le_refl _) (Nat.le_refl _) ?_
        exact mfin_err hD eF (by decide)
    · skip
      have eF : F_weigh r (nI j) g = (-1, r) := by
        unfold F_weigh
        rw [e7, hk, show rngB 1 100000 g = false from bI_0 c2]
        rfl
      refine g_iconst (v := (-1)) dX10_weigh_18 (by decide) ?_
      refine g_iret dX10_weigh_19 rfl (Nat.le_refl _) (Nat.le_refl _) ?_
      exact mfin_err hD eF (by decide)

set_option maxHeartbeats 4000000 in
set_option maxRecDepth 100000 in
theorem ct_X10_vat (X : Cx) {h : Hp} {M : Nat → Nat} {r : Nat → Int32} {n tn : Nat} {rows : Nat → Nat → Int32} {tg : Nat → Int32} {d li : Int32}  (hn : n ≤ 4) (hO : Ok r) (hD : MdAt X h M r n rows tn tg) : Ct X mX10_vat 2 0 0 [.ref (M 0), .int d, .int li] h (fun u h1 => u = some (.int (F_vat r d li).1) ∧ MdTo X h h1 M (F_vat r d li).2 (sysN (F_vat r d li).1 n) (sysR (F_vat r d li).1 n r rows) tn tg) := by
  obtain ⟨s0, hS⟩ := id hD
  have hM := hS.mo
  obtain ⟨⟨n2, st, n3, n4, le, n5, at0, lt, n6, fl, n7, m0⟩, m1⟩ := id hM
  unfold mdl at m0
  have dA := hM.ne
  obtain ⟨nv, nl, no, hnv, hnl, hno, e7, e8, e9, hset, hvok, hvz, hlok, hlz, hok, hoz, hw⟩ := id hO
  refine Ct.ofG vX10_vat.1.2.2.1 (Nat.le_of_ble_eq_true rfl) ?_
  show G X RX10 cX10_vat 4 (some .int) "vat" (Rm 2 0 0) (Fm X (fun u h1 => u = some (.int (F_vat r d li).1) ∧ MdTo X h h1 M (F_vat r d li).2 (sysN (F_vat r d li).1 n) (sysR (F_vat r d li).1 n r rows) tn tg) 0 0) 0 0 0 [(0, .ref (M 0)), (1, .int d), (2, .int li)] [] h
  refine g_iload_n dX10_vat_0 (by rfl) ?_
  refine g_cS1x dX10_vat_1 lX10_49 rfl vX10_isDye (ct_X10_isDye X) ⟨Nat.le_of_ble_eq_true rfl, Nat.le_of_ble_eq_true rfl⟩ (Nat.le_of_ble_eq_true rfl) ⟨Nat.le_of_ble_eq_true rfl, Nat.le_of_ble_eq_true rfl⟩ ?_
  refine g_if_eq (tgt := 19) dX10_vat_4 (by decide) (fun c1 => ?_) (fun c1 => ?_)
  · skip
    have eF : F_vat r d li = (-1, r) := by
      unfold F_vat
      rw [show rngB 0 3 d = false from bI_0 c1]
      rfl
    refine g_iconst (v := (-1)) dX10_vat_19 (by decide) ?_
    refine g_iret dX10_vat_20 rfl (Nat.le_refl _) (Nat.le_refl _) ?_
    exact mfin_err hD eF (by decide)
  · skip
    have hk := bI_1 c1
    refine g_iload_n dX10_vat_7 (by rfl) ?_
    refine g_bipush (v := 10) dX10_vat_8 (by decide) ?_
    refine g_sipush (v := 1000) dX10_vat_10 (by decide) ?_
    refine g_cS3x dX10_vat_13 lX10_31 rfl vX10_in (ct_X10_in X) ⟨Nat.le_of_ble_eq_true rfl, Nat.le_of_ble_eq_true rfl⟩ (Nat.le_of_ble_eq_true rfl) ⟨Nat.le_of_ble_eq_true rfl, Nat.le_of_ble_eq_true rfl⟩ ?_
    refine g_if_ne (tgt := 21) dX10_vat_16 (by decide) (fun c2 => ?_) (fun c2 => ?_)
    · skip
      have hg := bI_1 c2
      refine g_aload_n dX10_vat_21 (by rfl) (by first | exact isRf_r | exact isRf_n | exact isRf_o | assumption) ?_
      refine g_getf dX10_vat_22 fX10_7 (by first | exact m0 | exact k0 | exact hr_a dA k0) (by rfl) ?_
      refine g_bipush (v := 7) dX10_vat_25 (by decide) ?_
      refine g_ilM (7) dX10_vat_27 (by first | exact m1 | exact k1 | exact hr_n) (by first | rfl | exact lin3 | exact lin3a | exact linA | exact linB) (by omega) ?_
      rw [e7]
      refine g_bipush (v := 6) dX10_vat_28 (by decide) ?_
      refine g_icmp_ne (tgt := 36) dX10_vat_30 (by decide) (fun c3 => ?_) (fun c3 => ?_)
      · skip
        have hlt : nv < 6 := by
          have q : nv ≠ 6 := fun z => c3 (by rw [z]; rfl)
          omega
        have hl : r 7 < 6 := by
          rw [e7]
          exact nI_lt (b := 6) hlt (by omega)
        have eF : F_vat r d li = (nI nv, upd (upd (upd r (19 + 4 * nv + 0) d) (19 + 4 * nv + 1) li) 7 (nI nv + 1)) := by
          unfold F_vat
          rw [hk, hg, decide_eq_true hl, e7, cl_nI (by omega)]
          rfl
        have z2 : r (19 + 4 * nv + 2) = 0 := hvz nv (Nat.le_refl _) hlt 2 (by omega)
        have z3 : r (19 + 4 * nv + 3) = 0 := hvz nv (Nat.le_refl _) hlt 3 (by omega)
        refine g_aload_n dX10_vat_36 (by rfl) (by first | exact isRf_r | exact isRf_n | exact isRf_o | assumption) ?_
        refine g_cV0 dX10_vat_37 lX10_43 vX10_notes (ct_mNotes X hn hD) (by first | exact m0 | exact k0 | exact hr_a dA k0) rfl ⟨Nat.le_of_ble_eq_true rfl, Nat.le_of_ble_eq_true rfl⟩ (Nat.le_of_ble_eq_true rfl) ⟨Nat.le_of_ble_eq_true rfl, Nat.le_of_ble_eq_true rfl⟩ ?_
        rintro _ hh ⟨rfl, ⟨s1, hS1⟩, hf1⟩
        have hM1 := hS1.mo
        obtain ⟨⟨n2', st', n3', n4', le', n5', at0', lt', n6', fl', n7', k0⟩, k1⟩ := id hM1
        unfold mdl at k0
        refine g_bipush (v := 19) dX10_vat_40 (by decide) ?_
        refine g_iconst (v := 4) dX10_vat_42 (by decide) ?_
        refine g_aload_n dX10_vat_43 (by rfl) (by first | exact isRf_r | exact isRf_n | exact isRf_o | assumption) ?_
        refine g_getf dX10_vat_44 fX10_7 (by first | exact m0 | exact k0 | exact hr_a dA k0) (by rfl) ?_
        refine g_bipush (v := 7) dX10_vat_47 (by decide) ?_
        refine g_ilM (7) dX10_vat_49 (by first | exact m1 | exact k1 | exact hr_n) (by first | rfl | exact lin3 | exact lin3a | exact linA | exact linB) (by omega) ?_
        rw [e7]
        refine g_imul dX10_vat_50 ?_
        refine g_iadd dX10_vat_51 ?_
        refine g_istore_n (L1 := [(0, _), (1, _), (2, _), (3, _)]) dX10_vat_52 (by decide) (by rfl) ?_
        refine g_aload_n dX10_vat_53 (by rfl) (by first | exact isRf_r | exact isRf_n | exact isRf_o | assumption) ?_
        refine g_getf dX10_vat_54 fX10_7 (by first | exact m0 | exact k0 | exact hr_a dA k0) (by rfl) ?_
        refine g_iload_n dX10_vat_57 (by rfl) ?_
        refine g_iload_n dX10_vat_58 (by rfl) ?_
        first | refine g_isH (19 + 4 * nv) dX10_vat_59 (by first | rfl | exact lin3 | exact lin3a | exact linA | exact linB) (by omega) ?_ | refine g_isM (19 + 4 * nv) dX10_vat_59 (by first | exact m1 | exact k1 | exact hr_n) (by first | rfl | exact lin3 | exact lin3a | exact linA | exact linB) (by omega) ?_
        refine g_aload_n dX10_vat_60 (by rfl) (by first | exact isRf_r | exact isRf_n | exact isRf_o | assumption) ?_
        refine g_getf dX10_vat_61 fX10_7 (by first | exact m0 | exact k0 | exact hr_a dA k0) (by rfl) ?_
        refine g_iload_n dX10_vat_64 (by rfl) ?_
        refine g_iconst (v := 1) dX10_vat_65 (by decide) ?_
        refine g_iadd dX10_vat_66 ?_
        refine g_iload_n dX10_vat_67 (by rfl) ?_
        first | refine g_isH (19 + 4 * nv + 1) dX10_vat_68 (by first | rfl | exact lin3 | exact lin3a | exact linA | exact linB) (by omega) ?_ | refine g_isM (19 + 4 * nv + 1) dX10_vat_68 (by first | exact m1 | exact k1 | exact hr_n) (by first | rfl | exact lin3 | exact lin3a | exact linA | exact linB) (by omega) ?_
        refine g_aload_n dX10_vat_69 (by rfl) (by first | exact isRf_r | exact isRf_n | exact isRf_o | assumption) ?_
        refine g_getf dX10_vat_70 fX10_7 (by first | exact m0 | exact k0 | exact hr_a dA k0) (by rfl) ?_
        refine g_iload_n dX10_vat_73 (by rfl) ?_
        refine g_iconst (v := 2) dX10_vat_74 (by decide) ?_
        refine g_iadd dX10_vat_75 ?_
        refine g_iconst (v := 0) dX10_vat_76 (by decide) ?_
        first | refine g_isH (19 + 4 * nv + 2) dX10_vat_77 (by first | rfl | exact lin3 | exact lin3a | exact linA | exact linB) (by omega) ?_ | refine g_isM (19 + 4 * nv + 2) dX10_vat_77 (by first | exact m1 | exact k1 | exact hr_n) (by first | rfl | exact lin3 | exact lin3a | exact linA | exact linB) (by omega) ?_
        refine g_aload_n dX10_vat_78 (by rfl) (by first | exact isRf_r | exact isRf_n | exact isRf_o | assumption) ?_
        refine g_getf dX10_vat_79 fX10_7 (by first | exact m0 | exact k0 | exact hr_a dA k0) (by rfl) ?_
        refine g_iload_n dX10_vat_82 (by rfl) ?_
        refine g_iconst (v := 3) dX10_vat_83 (by decide) ?_
        refine g_iadd dX10_vat_84 ?_
        refine g_iconst (v := 0) dX10_vat_85 (by decide) ?_
        first | refine g_isH (19 + 4 * nv + 3) dX10_vat_86 (by first | rfl | exact lin3 | exact lin3a | exact linA | exact linB) (by omega) ?_ | refine g_isM (19 + 4 * nv + 3) dX10_vat_86 (by first | exact m1 | exact k1 | exact hr_n) (by first | rfl | exact lin3 | exact lin3a | exact linA | exact linB) (by omega) ?_
        refine g_aload_n dX10_vat_87 (by rfl) (by first | exact isRf_r | exact isRf_n | exact isRf_o | assumption) ?_
        refine g_getf dX10_vat_88 fX10_7 (by first | exact m0 | exact k0 | exact hr_a dA k0) (by rfl) ?_
        refine g_bipush (v := 7) dX10_vat_91 (by decide) ?_
        refine g_dup2 dX10_vat_93 (by rfl) (by rfl) ?_
        refine g_ilM (7) dX10_vat_94 (by first | exact m1 | exact k1 | exact hr_n) (by first | rfl | exact lin3 | exact lin3a | exact linA | exact linB) (by omega) ?_
        rw [upd_n (by omega), upd_n (by omega), upd_n (by omega), upd_n (by omega), e7]
        refine g_iconst (v := 1) dX10_vat_95 (by decide) ?_
        refine g_iadd dX10_vat_96 ?_
        first | refine g_isH (7) dX10_vat_97 (by first | rfl | exact lin3 | exact lin3a | exact linA | exact linB) (by omega) ?_ | refine g_isM (7) dX10_vat_97 (by first | exact m1 | exact k1 | exact hr_n) (by first | rfl | exact lin3 | exact lin3a | exact linA | exact linB) (by omega) ?_
        refine g_aload_n dX10_vat_98 (by rfl) (by first | exact isRf_r | exact isRf_n | exact isRf_o | assumption) ?_
        refine g_getf dX10_vat_99 fX10_7 (by first | exact m0 | exact k0 | exact hr_a dA k0) (by rfl) ?_
        refine g_bipush (v := 7) dX10_vat_102 (by decide) ?_
        refine g_ilM (7) dX10_vat_104 (by first | exact m1 | exact k1 | exact hr_n) (by first | rfl | exact lin3 | exact lin3a | exact linA | exact linB) (by omega) ?_
        rw [upd_s]
        refine g_iconst (v := 1) dX10_vat_105 (by decide) ?_
        refine g_isub dX10_vat_106 ?_
        rw [nI_s1]
        refine g_iret dX10_vat_107 rfl (Nat.le_refl _) (Nat.le_refl _) ?_
        refine mfin_ok hS1 hf1 eF (nI_ge0 (by omega)) (fun p hp => ?_)
        show upd _ _ _ p = upd _ _ _ p
        by_cases a7 : p = 7
        · subst a7; rw [upd_s, upd_s]
        rw [upd_n a7, upd_n a7]
        by_cases a3 : p = 19 + 4 * nv + 3
        · subst a3; rw [upd_s, upd_n (by omega), upd_n (by omega), z3]
        rw [upd_n a3]
        by_cases a2 : p = 19 + 4 * nv + 2
        · subst a2; rw [upd_s, upd_n (by omega), upd_n (by omega), z2]
        rw [upd_n a2]
        rfl
      · skip
        have h6 : ¬ r 7 < 6 := by
          rw [e7, i_lt, i_nI (by omega)]
          have q : nv = 6 := by
            have z := congrArg Int32.toInt (show nI nv = 6 from c3)
            rw [i_nI (by omega)] at z
            have z6 : (6 : Int32).toInt = 6 := by decide
            omega
          have z6 : (6 : Int32).toInt = 6 := by decide
          omega
        have eF : F_vat r d li = (-3, r) := by
          unfold F_vat
          rw [hk, hg, decide_eq_false h6]
          rfl
        refine g_bipush (v := (-3)) dX10_vat_33 (by decide) ?_
        refine g_iret dX10_vat_35 rfl (Nat.le_refl _) (Nat.le_refl _) ?_
        exact mfin_err hD eF (by decide)
    · skip
      have eF : F_vat r d li = (-1, r) := by
        unfold F_vat
        rw [hk, show rngB 10 1000 li = false from bI_0 c2]
        rfl
      refine g_iconst (v := (-1)) dX10_vat_19 (by decide) ?_
      refine g_iret dX10_vat_20 rfl (Nat.le_refl _) (Nat.le_refl _) ?_
      exact mfin_err hD eF (by decide)
