theorem LOk.s13 {x : Nat → Int32} (k : LOk x) : 0 ≤ (x 13).toInt := by
  obtain ⟨-, -, -, -, -, -, -, k1, -⟩ := k
  exact k1
theorem upd_same {f : Nat → Int32} {k : Nat} {x : Int32} (e : f k = x) : upd f k x = f := by
  subst e
  exact upd_self

set_option maxHeartbeats 4000000 in
set_option maxRecDepth 100000 in
theorem ct_X10_puts (X : Cx) {h : Hp} {a n1 : Nat} {r : Nat → Int32} {i k : Nat} {x : Int32}  (hM : MoAt X h a n1 r) (hk : 43 + 15 * i + k < 643) : Ct X mX10_puts 0 0 0 [.ref a, .int (nI i), .int (nI k), .int x] h (Ev (hr X h n1 (upd r (43 + 15 * i + k) x))) := by
  obtain ⟨⟨n2, st, n3, n4, le, n5, at0, lt, n6, fl, n7, m0⟩, m1⟩ := id hM
  unfold mdl at m0
  have dA := hM.ne
  refine Ct.ofG vX10_puts.1.2.2.1 (Nat.le_of_ble_eq_true rfl) ?_
  show G X RX10 cX10_puts 4 none "puts" (Rm 0 0 0) (Fm X (Ev (hr X h n1 (upd r (43 + 15 * i + k) x))) 0 0) 0 0 0 [(0, .ref a), (1, .int (nI i)), (2, .int (nI k)), (3, .int x)] [] h
  refine g_aload_n dX10_puts_0 (by rfl) (by first | exact isRf_r | exact isRf_n | exact isRf_o | assumption) ?_
  refine g_getf dX10_puts_1 fX10_7 (by first | exact m0 | exact hr_a dA m0) (by rfl) ?_
  refine g_bipush (v := 43) dX10_puts_4 (by decide) ?_
  refine g_bipush (v := 15) dX10_puts_6 (by decide) ?_
  refine g_iload_n dX10_puts_8 (by rfl) ?_
  refine g_imul dX10_puts_9 ?_
  refine g_iadd dX10_puts_10 ?_
  refine g_iload_n dX10_puts_11 (by rfl) ?_
  refine g_iadd dX10_puts_12 ?_
  refine g_iload_n dX10_puts_13 (by rfl) ?_
  first | refine g_isH (43 + 15 * i + k) dX10_puts_14 (by first | rfl | exact lin3 | exact lin3a | exact linA | exact linB) hk ?_ | refine g_isM (43 + 15 * i + k) dX10_puts_14 (by first | exact m1 | exact hr_n) (by first | rfl | exact lin3 | exact lin3a | exact linA | exact linB) hk ?_
  refine g_vret dX10_puts_15 rfl (Nat.le_refl _) (Nat.le_refl _) ?_
  exact ⟨rfl, rfl⟩

set_option maxHeartbeats 4000000 in
set_option maxRecDepth 100000 in
theorem ct_X10_drains (X : Cx) {h : Hp} {a n1 : Nat} {r : Nat → Int32} {w : Int32}  (hM : MoAt X h a n1 r) (hO : Ok r) : Ct X mX10_drains 2 0 0 [.ref a, .int w] h (Ex (.int (F_drain r w).1) (hr X h n1 (F_drain r w).2)) := by
  obtain ⟨⟨n2, st, n3, n4, le, n5, at0, lt, n6, fl, n7, m0⟩, m1⟩ := id hM
  unfold mdl at m0
  have dA := hM.ne
  obtain ⟨nv, nl, no, hnv, hnl, hno, e7, e8, e9, hset, hvok, hvz, hlok, hlz, hok, hoz, hw⟩ := id hO
  refine Ct.ofG vX10_drains.1.2.2.1 (Nat.le_of_ble_eq_true rfl) ?_
  show G X RX10 cX10_drains 3 (some .int) "drains" (Rm 2 0 0) (Fm X (Ex (.int (F_drain r w).1) (hr X h n1 (F_drain r w).2)) 0 0) 0 0 0 [(0, .ref a), (1, .int w)] [] h
  refine g_aload_n dX10_drains_0 (by rfl) (by first | exact isRf_r | exact isRf_n | exact isRf_o | assumption) ?_
  refine g_iload_n dX10_drains_1 (by rfl) ?_
  refine g_cV1x dX10_drains_2 lX10_53 vX10_isVat (ct_X10_isVat X (n := nv) (by first | exact hM | exact hM.hr) (by omega) e7) (by first | exact m0 | exact hr_a dA m0) rfl ⟨Nat.le_of_ble_eq_true rfl, Nat.le_of_ble_eq_true rfl⟩ (Nat.le_of_ble_eq_true rfl) ⟨Nat.le_of_ble_eq_true rfl, Nat.le_of_ble_eq_true rfl⟩ ?_
  refine g_if_ne (tgt := 10) dX10_drains_5 (by decide) (fun c1 => ?_) (fun c1 => ?_)
  · skip
    have hk : okB (nI nv) w = true := bI_1 c1
    obtain ⟨j, hj, rfl⟩ := okB_i (by omega) hk
    obtain ⟨⟨d, hd, ed⟩, hli1, hli2, hgr⟩ := hvok j hj
    have cj : cl (nI j) = j := cl_nI (by omega)
    have cd : cl (nI d) = d := cl_nI (by omega)
    have eF : F_drain r (nI j) = (vt r j 2, upd (upd (upd r (15 + d) (r (15 + d) + vt r j 2)) (19 + 4 * j + 2) 0) (19 + 4 * j + 3) 0) := by
      unfold F_drain
      rw [e7, hk, cj, ed, cd]
      rfl
    refine g_aload_n dX10_drains_10 (by rfl) (by first | exact isRf_r | exact isRf_n | exact isRf_o | assumption) ?_
    refine g_iload_n dX10_drains_11 (by rfl) ?_
    refine g_iconst (v := 2) dX10_drains_12 (by decide) ?_
    refine g_cV2x dX10_drains_13 lX10_57 vX10_vatNumber (ct_X10_vatNumber X (i := j) (k := 2) (by first | exact hM | exact hM.hr) (by omega)) (by first | exact m0 | exact hr_a dA m0) rfl ⟨Nat.le_of_ble_eq_true rfl, Nat.le_of_ble_eq_true rfl⟩ (Nat.le_of_ble_eq_true rfl) ⟨Nat.le_of_ble_eq_true rfl, Nat.le_of_ble_eq_true rfl⟩ ?_
    refine g_istore_n (L1 := [(0, _), (1, _), (2, _)]) dX10_drains_16 (by decide) (by rfl) ?_
    refine g_aload_n dX10_drains_17 (by rfl) (by first | exact isRf_r | exact isRf_n | exact isRf_o | assumption) ?_
    refine g_getf dX10_drains_18 fX10_7 (by first | exact m0 | exact hr_a dA m0) (by rfl) ?_
    refine g_bipush (v := 15) dX10_drains_21 (by decide) ?_
    refine g_aload_n dX10_drains_23 (by rfl) (by first | exact isRf_r | exact isRf_n | exact isRf_o | assumption) ?_
    refine g_iload_n dX10_drains_24 (by rfl) ?_
    refine g_iconst (v := 0) dX10_drains_25 (by decide) ?_
    refine g_cV2x dX10_drains_26 lX10_57 vX10_vatNumber (ct_X10_vatNumber X (i := j) (k := 0) (by first | exact hM | exact hM.hr) (by omega)) (by first | exact m0 | exact hr_a dA m0) rfl ⟨Nat.le_of_ble_eq_true rfl, Nat.le_of_ble_eq_true rfl⟩ (Nat.le_of_ble_eq_true rfl) ⟨Nat.le_of_ble_eq_true rfl, Nat.le_of_ble_eq_true rfl⟩ ?_
    rw [show r (19 + 4 * j + 0) = nI d from ed]
    refine g_iadd dX10_drains_29 ?_
    refine g_dup2 dX10_drains_30 (by rfl) (by rfl) ?_
    refine g_ilM (15 + d) dX10_drains_31 (by first | exact m1 | exact hr_n) (by first | rfl | exact lin3 | exact lin3a | exact linA | exact linB) (by omega) ?_
    refine g_iload_n dX10_drains_32 (by rfl) ?_
    refine g_iadd dX10_drains_33 ?_
    first | refine g_isH (15 + d) dX10_drains_34 (by first | rfl | exact lin3 | exact lin3a | exact linA | exact linB) (by omega) ?_ | refine g_isM (15 + d) dX10_drains_34 (by first | exact m1 | exact hr_n) (by first | rfl | exact lin3 | exact lin3a | exact linA | exact linB) (by omega) ?_
    refine g_aload_n dX10_drains_35 (by rfl) (by first | exact isRf_r | exact isRf_n | exact isRf_o | assumption) ?_
    refine g_getf dX10_drains_36 fX10_7 (by first | exact m0 | exact hr_a dA m0) (by rfl) ?_
    refine g_bipush (v := 19) dX10_drains_39 (by decide) ?_
    refine g_iconst (v := 4) dX10_drains_41 (by decide) ?_
    refine g_iload_n dX10_drains_42 (by rfl) ?_
    refine g_imul dX10_drains_43 ?_
    refine g_iadd dX10_drains_44 ?_
    refine g_iconst (v := 2) dX10_drains_45 (by decide) ?_
    refine g_iadd dX10_drains_46 ?_
    refine g_iconst (v := 0) dX10_drains_47 (by decide) ?_
    first | refine g_isH (19 + 4 * j + 2) dX10_drains_48 (by first | rfl | exact lin3 | exact lin3a | exact linA | exact linB) (by omega) ?_ | refine g_isM (19 + 4 * j + 2) dX10_drains_48 (by first | exact m1 | exact hr_n) (by first | rfl | exact lin3 | exact lin3a | exact linA | exact linB) (by omega) ?_
    refine g_aload_n dX10_drains_49 (by rfl) (by first | exact isRf_r | exact isRf_n | exact isRf_o | assumption) ?_
    refine g_getf dX10_drains_50 fX10_7 (by first | exact m0 | exact hr_a dA m0) (by rfl) ?_
    refine g_bipush (v := 19) dX10_drains_53 (by decide) ?_
    refine g_iconst (v := 4) dX10_drains_55 (by decide) ?_
    refine g_iload_n dX10_drains_56 (by rfl) ?_
    refine g_imul dX10_drains_57 ?_
    refine g_iadd dX10_drains_58 ?_
    refine g_iconst (v := 3) dX10_drains_59 (by decide) ?_
    refine g_iadd dX10_drains_60 ?_
    refine g_iconst (v := 0) dX10_drains_61 (by decide) ?_
    first | refine g_isH (19 + 4 * j + 3) dX10_drains_62 (by first | rfl | exact lin3 | exact lin3a | exact linA | exact linB) (by omega) ?_ | refine g_isM (19 + 4 * j + 3) dX10_drains_62 (by first | exact m1 | exact hr_n) (by first | rfl | exact lin3 | exact lin3a | exact linA | exact linB) (by omega) ?_
    refine g_iload_n dX10_drains_63 (by rfl) ?_
    refine g_iret dX10_drains_64 rfl (Nat.le_refl _) (Nat.le_refl _) ?_
    rw [eF]
    first | exact Ex.i rfl rfl | exact Ex.i rfl (hr_id m1).symm
  · skip
    have hk : okB (nI nv) w = false := bI_0 c1
    have eF : F_drain r w = (-1, r) := by
      unfold F_drain
      rw [e7, hk]
      rfl
    refine g_iconst (v := (-1)) dX10_drains_8 (by decide) ?_
    refine g_iret dX10_drains_9 rfl (Nat.le_refl _) (Nat.le_refl _) ?_
    rw [eF]
    first | exact Ex.i rfl rfl | exact Ex.i rfl (hr_id m1).symm
