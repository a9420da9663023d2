theorem hob_7 {A : Nat → Nat} {r : Nat → Int32} {x : Int32} : ob 1 (hobC A (upd r 7 x)) = ob 1 [.ref (A 1), .ref (A 2), .ref (A 3), .int x, .int (r 8), .int (r 9), .int (r 10), .ref (A 4), .ref (A 5), .ref (A 6)] := rfl
theorem hob_8 {A : Nat → Nat} {r : Nat → Int32} {x : Int32} : ob 1 (hobC A (upd r 8 x)) = ob 1 [.ref (A 1), .ref (A 2), .ref (A 3), .int (r 7), .int x, .int (r 9), .int (r 10), .ref (A 4), .ref (A 5), .ref (A 6)] := rfl
theorem hob_9 {A : Nat → Nat} {r : Nat → Int32} {x : Int32} : ob 1 (hobC A (upd r 9 x)) = ob 1 [.ref (A 1), .ref (A 2), .ref (A 3), .int (r 7), .int (r 8), .int x, .int (r 10), .ref (A 4), .ref (A 5), .ref (A 6)] := rfl
theorem nI_s1 {n : Nat} : nI n + 1 - 1 = nI n := by rw [nI_1, nI_pred]
theorem upd_c {f : Nat → Int32} {i j : Nat} {x y : Int32} (h : i ≠ j) : upd (upd f i x) j y = upd (upd f j y) i x := by
  funext k
  unfold upd
  by_cases e : k = i
  · subst e
    simp [h]
  · have h2 : ¬ j = i := fun z => h z.symm
    by_cases e2 : k = j
    · subst e2
      simp [h2]
    · simp [e, e2]

set_option maxHeartbeats 4000000 in
set_option maxRecDepth 100000 in
theorem ct_X1_addVat (X : Cx) {h : Hp} {A : Nat → Nat} {r : Nat → Int32} {d li : Int32}  (hI : InjA A) (hO : Ok r) (hA : HouseAt X h A r) : Ct X mX1_addVat 1 0 0 [.ref (A 0), .int d, .int li] h (fun u h1 => u = some (.int (F_vat r d li).1) ∧ HouseAt X h1 A (F_vat r d li).2 ∧ ∀ q, outA A q → h1 q = h q) := by
  have hO0 := hO
  obtain ⟨nv, nl, no, hnv, hnl, hno, e7, e8, e9, hset, hvok, hvz, hlok, hlz, hok, hoz, hw⟩ := hO0
  have hA0 := hA
  obtain ⟨a0, a1, a2, a3, a4, a5, a6, av, al, ao⟩ := hA0
  unfold hobC at a0
  rw [e7, e8, e9] at a0
  have z6 : (nI 6) = (6 : Int32) := rfl
  refine Ct.ofG vX1_addVat.1.2.2.1 (Nat.le_of_ble_eq_true rfl) ?_
  show G X RX1 cX1_addVat 4 (some .int) "addVat" (Rm 1 0 0) (Fm X (fun u h1 => u = some (.int (F_vat r d li).1) ∧ HouseAt X h1 A (F_vat r d li).2 ∧ ∀ q, outA A q → h1 q = h q) 0 0) 0 0 0 [(0, .ref (A 0)), (1, .int d), (2, .int li)] [] h
  refine g_iload_n dX1_addVat_0 (by rfl) ?_
  refine g_cN1x dX1_addVat_1 lX1_88 vX9_isDye (ct_X9_isDye X) ⟨Nat.le_of_ble_eq_true rfl, Nat.le_of_ble_eq_true rfl⟩ (Nat.le_of_ble_eq_true rfl) ⟨Nat.le_of_ble_eq_true rfl, Nat.le_of_ble_eq_true rfl⟩ ?_
  refine g_if_eq (tgt := 20) dX1_addVat_4 (by decide) (fun c1 => ?_) (fun c1 => ?_)
  · skip
    have hb : (rngB 0 3 d && rngB 10 1000 li) = false := by
      have z := bI_d0 _ c1
      rw [← dye_rng, decide_eq_false z]
      rfl
    refine g_iconst (v := (-1)) dX1_addVat_20 (by decide) ?_
    refine g_iret dX1_addVat_21 rfl (Nat.le_refl _) (Nat.le_refl _) ?_
    refine fin_err hA ?_
    unfold F_vat
    rw [hb]
    rfl
  · skip
    have hd : rngB 0 3 d = true := by rw [← dye_rng]; exact decide_eq_true (bI_d1 _ c1)
    refine g_iload_n dX1_addVat_7 (by rfl) ?_
    refine g_bipush (v := 10) dX1_addVat_8 (by decide) ?_
    refine g_icmp_lt (tgt := 20) dX1_addVat_10 (by decide) (fun c2 => ?_) (fun c2 => ?_)
    · skip
      have hb : (rngB 0 3 d && rngB 10 1000 li) = false := by rw [rngB_f1 (i_nle c2), Bool.and_false]
      refine g_iconst (v := (-1)) dX1_addVat_20 (by decide) ?_
      refine g_iret dX1_addVat_21 rfl (Nat.le_refl _) (Nat.le_refl _) ?_
      refine fin_err hA ?_
      unfold F_vat
      rw [hb]
      rfl
    · skip
      have hl1 := c2
      refine g_iload_n dX1_addVat_13 (by rfl) ?_
      refine g_sipush (v := 1000) dX1_addVat_14 (by decide) ?_
      refine g_icmp_le (tgt := 22) dX1_addVat_17 (by decide) (fun c3 => ?_) (fun c3 => ?_)
      · skip
        have hb : (rngB 0 3 d && rngB 10 1000 li) = true := by rw [hd, rngB_t (i_nlt hl1) c3]; rfl
        refine g_aload_n dX1_addVat_22 (by rfl) (by first | exact isRf_r | exact isRf_n | exact isRf_o | assumption) ?_
        refine g_getf dX1_addVat_23 fX1_46 (by first | assumption | (repeat' (first | assumption | exact hu_same | exact Ne.symm (by assumption) | apply hu_n1))) (by rfl) ?_
        refine g_aload_n dX1_addVat_26 (by rfl) (by first | exact isRf_r | exact isRf_n | exact isRf_o | assumption) ?_
        refine g_getf dX1_addVat_27 fX1_11 (by first | assumption | (repeat' (first | assumption | exact hu_same | exact Ne.symm (by assumption) | apply hu_n1))) (by rfl) ?_
        refine g_alenR dX1_addVat_30 (by first | assumption | (repeat' (first | assumption | exact hu_same | exact Ne.symm (by assumption) | apply hu_n1))) (by decide) ?_
        refine g_icmp_lt (tgt := 37) dX1_addVat_31 (by decide) (fun c4 => ?_) (fun c4 => ?_)
        · skip
          have hlim : nI nv < 6 := c4
          refine g_aload_n dX1_addVat_37 (by rfl) (by first | exact isRf_r | exact isRf_n | exact isRf_o | assumption) ?_
          refine g_dup dX1_addVat_38 (by rfl) ?_
          refine g_getf dX1_addVat_39 fX1_46 (by first | assumption | (repeat' (first | assumption | exact hu_same | exact Ne.symm (by assumption) | apply hu_n1))) (by rfl) ?_
          refine g_iconst (v := 1) dX1_addVat_42 (by decide) ?_
          refine g_iadd dX1_addVat_43 ?_
          refine g_putf (ty := .int) dX1_addVat_44 fX1_46 (by decide +kernel) (by rfl) (by rfl) (by first | assumption | (repeat' (first | assumption | exact hu_same | exact Ne.symm (by assumption) | apply hu_n1))) (by exact Nat.le_of_ble_eq_true rfl) ?_
          refine g_gen (fun h1 e1 => ?_)
          have f1 : ∀ q, q ≠ A 0 → h1 q = h q := fun q n => by rw [e1, hu_ne n]
          have hnv6 : nv < 6 := (nI_ltI (b := 6) (by omega) (by omega)).mp hlim
          rw [nI_1] at e1
          have k0 : h1 (A 0) = some (ob 1 [.ref (A 1), .ref (A 2), .ref (A 3), .int (nI (nv + 1)), .int (nI nl), .int (nI no), .int (r 10), .ref (A 4), .ref (A 5), .ref (A 6)]) := by rw [e1]; exact hu_same
          have k1 := (f1 (A 1) (hI.ne (by omega) (by omega) (by omega))).trans a1
          have H1 : HouseAt X h1 A (upd r 7 (r 7 + 1)) := by
            rw [e1]
            refine HouseAt.fld hI hA ?_ (fun p n _ _ _ => upd_n n)
            rw [hob_7, e7, e8, e9, nI_1]
            rfl
          have avn : VatAt h1 (A (8 + nv)) (vt r nv) := (av nv (by omega)).kept (f1 _ (hI.ne (by omega) (by omega) (by omega)))
          unfold VatAt at avn
          have n80 : A 0 ≠ A (8 + nv) := hI.ne (by omega) (by omega) (by omega)
          refine g_aload_n dX1_addVat_47 (by rfl) (by first | exact isRf_r | exact isRf_n | exact isRf_o | assumption) ?_
          refine g_aload_n dX1_addVat_48 (by rfl) (by first | exact isRf_r | exact isRf_n | exact isRf_o | assumption) ?_
          refine g_getf dX1_addVat_49 fX1_46 (by first | assumption | (repeat' (first | assumption | exact hu_same | exact Ne.symm (by assumption) | apply hu_n1))) (by rfl) ?_
          refine g_iconst (v := 1) dX1_addVat_52 (by decide) ?_
          refine g_isub dX1_addVat_53 ?_
          rw [nI_pred]
          refine g_cV1x dX1_addVat_54 lX1_92 vX1_findVat (ct_findVat X (n := nv + 1) (by omega) k0 k1 (Nat.lt_succ_self nv) (vaR_j (by omega))) (by first | assumption | (repeat' (first | assumption | exact hu_same | exact Ne.symm (by assumption) | apply hu_n1))) rfl ⟨Nat.le_of_ble_eq_true rfl, Nat.le_of_ble_eq_true rfl⟩ (Nat.le_of_ble_eq_true rfl) ⟨Nat.le_of_ble_eq_true rfl, Nat.le_of_ble_eq_true rfl⟩ ?_
          refine g_astore_n (L1 := [(0, _), (1, _), (2, _), (3, _)]) dX1_addVat_57 (by first | exact isRf_r | exact isRf_n | exact isRf_o | assumption) (by decide) (by rfl) ?_
          refine g_aload_n dX1_addVat_58 (by rfl) (by first | exact isRf_r | exact isRf_n | exact isRf_o | assumption) ?_
          refine g_ifnull (tgt := 72) dX1_addVat_59 (by decide) (by first | exact isRf_r | exact isRf_n | exact isRf_o | assumption) (fun c5 => nomatch c5) (fun c5 => ?_)
          refine g_aload_n dX1_addVat_62 (by rfl) (by first | exact isRf_r | exact isRf_n | exact isRf_o | assumption) ?_
          refine g_iload_n dX1_addVat_63 (by rfl) ?_
          refine g_putf (ty := .int) dX1_addVat_64 fX1_96 (by decide +kernel) (by rfl) (by rfl) (by first | assumption | (repeat' (first | assumption | exact hu_same | exact Ne.symm (by assumption) | apply hu_n1))) (by exact Nat.le_of_ble_eq_true rfl) ?_
          refine g_aload_n dX1_addVat_67 (by rfl) (by first | exact isRf_r | exact isRf_n | exact isRf_o | assumption) ?_
          refine g_iload_n dX1_addVat_68 (by rfl) ?_
          refine g_putf (ty := .int) dX1_addVat_69 fX1_99 (by decide +kernel) (by rfl) (by rfl) (by first | assumption | (repeat' (first | assumption | exact hu_same | exact Ne.symm (by assumption) | apply hu_n1))) (by exact Nat.le_of_ble_eq_true rfl) ?_
          refine g_aload_n dX1_addVat_72 (by rfl) (by first | exact isRf_r | exact isRf_n | exact isRf_o | assumption) ?_
          refine g_getf dX1_addVat_73 fX1_46 (by first | assumption | (repeat' (first | assumption | exact hu_same | exact Ne.symm (by assumption) | apply hu_n1))) (by rfl) ?_
          refine g_iconst (v := 1) dX1_addVat_76 (by decide) ?_
          refine g_isub dX1_addVat_77 ?_
          refine g_iret dX1_addVat_78 rfl (Nat.le_refl _) (Nat.le_refl _) ?_
          rw [nI_pred]
          refine fin_ok (x := nI nv) (r2 := upd (upd (upd r (19 + 4 * nv + 0) d) (19 + 4 * nv + 1) li) 7 (r 7 + 1)) ?_ ?_ ?_
          · unfold F_vat
            rw [hb, e7, decide_eq_true hlim, cl_nI (by omega)]
            rfl
          · rw [upd_c (i := 19 + 4 * nv + 1) (j := 7) (by omega), upd_c (i := 19 + 4 * nv + 0) (j := 7) (by omega), hu_hu]
            exact HouseAt.vatU hI H1 (by omega) ((upd_n (by omega)).trans upd_s).symm upd_s.symm (by rw [upd_n (by omega), upd_n (by omega), upd_n (by omega)]; rfl) (by rw [upd_n (by omega), upd_n (by omega), upd_n (by omega)]; rfl) (fun p hp h9 => ((upd_n (by omega)).trans (upd_n (by omega))).symm)
          · intro q hq
            rw [hu_ne (hq _ (by omega)), hu_ne (hq _ (by omega)), f1 q (hq _ (by omega))]
        · skip
          have hlim : ¬ nI nv < 6 := c4
          refine g_bipush (v := (-3)) dX1_addVat_34 (by decide) ?_
          refine g_iret dX1_addVat_36 rfl (Nat.le_refl _) (Nat.le_refl _) ?_
          refine fin_err hA ?_
          unfold F_vat
          rw [hb, e7, decide_eq_false hlim]
          rfl
      · skip
        have hb : (rngB 0 3 d && rngB 10 1000 li) = false := by rw [rngB_f2 c3, Bool.and_false]
        refine g_iconst (v := (-1)) dX1_addVat_20 (by decide) ?_
        refine g_iret dX1_addVat_21 rfl (Nat.le_refl _) (Nat.le_refl _) ?_
        refine fin_err hA ?_
        unfold F_vat
        rw [hb]
        rfl

set_option maxHeartbeats 4000000 in
set_option maxRecDepth 100000 in
theorem ct_X1_addLot (X : Cx) {h : Hp} {A : Nat → Nat} {r : Nat → Int32} {c w : Int32}  (hI : InjA A) (hO : Ok r) (hA : HouseAt X h A r) : Ct X mX1_addLot 1 0 0 [.ref (A 0), .int c, .int w] h (fun u h1 => u = some (.int (F_lot r c w).1) ∧ HouseAt X h1 A (F_lot r c w).2 ∧ ∀ q, outA A q → h1 q = h q) := by
  have hO0 := hO
  obtain ⟨nv, nl, no, hnv, hnl, hno, e7, e8, e9, hset, hvok, hvz, hlok, hlz, hok, hoz, hw⟩ := hO0
  have hA0 := hA
  obtain ⟨a0, a1, a2, a3, a4, a5, a6, av, al, ao⟩ := hA0
  unfold hobC at a0
  rw [e7, e8, e9] at a0
  refine Ct.ofG vX1_addLot.1.2.2.1 (Nat.le_of_ble_eq_true rfl) ?_
  show G X RX1 cX1_addLot 4 (some .int) "addLot" (Rm 1 0 0) (Fm X (fun u h1 => u = some (.int (F_lot r c w).1) ∧ HouseAt X h1 A (F_lot r c w).2 ∧ ∀ q, outA A q → h1 q = h q) 0 0) 0 0 0 [(0, .ref (A 0)), (1, .int c), (2, .int w)] [] h
  refine g_iload_n dX1_addLot_0 (by rfl) ?_
  refine g_if_eq (tgt := 9) dX1_addLot_1 (by decide) (fun c1 => ?_) (fun c1 => ?_)
  · skip
    have hc : rngB 0 1 c = true := by rw [c1]; decide
    refine g_iload_n dX1_addLot_9 (by rfl) ?_
    refine g_bipush (v := 100) dX1_addLot_10 (by decide) ?_
    refine g_icmp_lt (tgt := 22) dX1_addLot_12 (by decide) (fun c2 => ?_) (fun c2 => ?_)
    · skip
      have hb : (rngB 0 1 c && rngB 100 5000 w) = false := by rw [rngB_f1 (i_nle c2), Bool.and_false]
      refine g_iconst (v := (-1)) dX1_addLot_22 (by decide) ?_
      refine g_iret dX1_addLot_23 rfl (Nat.le_refl _) (Nat.le_refl _) ?_
      refine fin_err hA ?_
      unfold F_lot
      rw [hb]
      rfl
    · skip
      have hl1 := c2
      refine g_iload_n dX1_addLot_15 (by rfl) ?_
      refine g_sipush (v := 5000) dX1_addLot_16 (by decide) ?_
      refine g_icmp_le (tgt := 24) dX1_addLot_19 (by decide) (fun c3 => ?_) (fun c3 => ?_)
      · skip
        have hb : (rngB 0 1 c && rngB 100 5000 w) = true := by rw [hc, rngB_t (i_nlt hl1) c3]; rfl
        refine g_aload_n dX1_addLot_24 (by rfl) (by first | exact isRf_r | exact isRf_n | exact isRf_o | assumption) ?_
        refine g_getf dX1_addLot_25 fX1_50 (by first | assumption | (repeat' (first | assumption | exact hu_same | exact Ne.symm (by assumption) | apply hu_n1))) (by rfl) ?_
        refine g_aload_n dX1_addLot_28 (by rfl) (by first | exact isRf_r | exact isRf_n | exact isRf_o | assumption) ?_
        refine g_getf dX1_addLot_29 fX1_19 (by first | assumption | (repeat' (first | assumption | exact hu_same | exact Ne.symm (by assumption) | apply hu_n1))) (by rfl) ?_
        refine g_alenR dX1_addLot_32 (by first | assumption | (repeat' (first | assumption | exact hu_same | exact Ne.symm (by assumption) | apply hu_n1))) (by decide) ?_
        refine g_icmp_lt (tgt := 39) dX1_addLot_33 (by decide) (fun c4 => ?_) (fun c4 => ?_)
        · skip
          have hlim : nI nl < 20 := c4
          refine g_aload_n dX1_addLot_39 (by rfl) (by first | exact isRf_r | exact isRf_n | exact isRf_o | assumption) ?_
          refine g_dup dX1_addLot_40 (by rfl) ?_
          refine g_getf dX1_addLot_41 fX1_50 (by first | assumption | (repeat' (first | assumption | exact hu_same | exact Ne.symm (by assumption) | apply hu_n1))) (by rfl) ?_
          refine g_iconst (v := 1) dX1_addLot_44 (by decide) ?_
          refine g_iadd dX1_addLot_45 ?_
          refine g_putf (ty := .int) dX1_addLot_46 fX1_50 (by decide +kernel) (by rfl) (by rfl) (by first | assumption | (repeat' (first | assumption | exact hu_same | exact Ne.symm (by assumption) | apply hu_n1))) (by exact Nat.le_of_ble_eq_true rfl) ?_
          refine g_gen (fun h1 e1 => ?_)
          have f1 : ∀ q, q ≠ A 0 → h1 q = h q := fun q n => by rw [e1, hu_ne n]
          have hnl6 : nl < 20 := (nI_ltI (b := 20) (by omega) (by omega)).mp hlim
          rw [nI_1] at e1
          have k0 : h1 (A 0) = some (ob 1 [.ref (A 1), .ref (A 2), .ref (A 3), .int (nI nv), .int (nI (nl + 1)), .int (nI no), .int (r 10), .ref (A 4), .ref (A 5), .ref (A 6)]) := by rw [e1]; exact hu_same
          have k2 := (f1 (A 2) (hI.ne (by omega) (by omega) (by omega))).trans a2
          have H1 : HouseAt X h1 A (upd r 8 (r 8 + 1)) := by
            rw [e1]
            refine HouseAt.fld hI hA ?_ (fun p _ n _ _ => upd_n n)
            rw [hob_8, e7, e8, e9, nI_1]
            rfl
          have aln : LotAt X h1 (A (14 + 3 * nl)) (A (15 + 3 * nl)) (A (16 + 3 * nl)) (ltx r nl) := (al nl (by omega)).kept (f1 _ (hI.ne (by omega) (by omega) (by omega))) (f1 _ (hI.ne (by omega) (by omega) (by omega))) (f1 _ (hI.ne (by omega) (by omega) (by omega)))
          obtain ⟨m1, m2, m3⟩ := aln
          unfold lotC at m1
          have n80 : A 0 ≠ A (14 + 3 * nl) := hI.ne (by omega) (by omega) (by omega)
          refine g_aload_n dX1_addLot_49 (by rfl) (by first | exact isRf_r | exact isRf_n | exact isRf_o | assumption) ?_
          refine g_aload_n dX1_addLot_50 (by rfl) (by first | exact isRf_r | exact isRf_n | exact isRf_o | assumption) ?_
          refine g_getf dX1_addLot_51 fX1_50 (by first | assumption | (repeat' (first | assumption | exact hu_same | exact Ne.symm (by assumption) | apply hu_n1))) (by rfl) ?_
          refine g_iconst (v := 1) dX1_addLot_54 (by decide) ?_
          refine g_isub dX1_addLot_55 ?_
          rw [nI_pred]
          refine g_cV1x dX1_addLot_56 lX1_118 vX1_findLot (ct_findLot X (n := nl + 1) (by omega) k0 k2 (Nat.lt_succ_self nl) (laR_j (by omega))) (by first | assumption | (repeat' (first | assumption | exact hu_same | exact Ne.symm (by assumption) | apply hu_n1))) rfl ⟨Nat.le_of_ble_eq_true rfl, Nat.le_of_ble_eq_true rfl⟩ (Nat.le_of_ble_eq_true rfl) ⟨Nat.le_of_ble_eq_true rfl, Nat.le_of_ble_eq_true rfl⟩ ?_
          refine g_astore_n (L1 := [(0, _), (1, _), (2, _), (3, _)]) dX1_addLot_59 (by first | exact isRf_r | exact isRf_n | exact isRf_o | assumption) (by decide) (by rfl) ?_
          refine g_aload_n dX1_addLot_60 (by rfl) (by first | exact isRf_r | exact isRf_n | exact isRf_o | assumption) ?_
          refine g_ifnull (tgt := 74) dX1_addLot_61 (by decide) (by first | exact isRf_r | exact isRf_n | exact isRf_o | assumption) (fun c5 => nomatch c5) (fun c5 => ?_)
          refine g_aload_n dX1_addLot_64 (by rfl) (by first | exact isRf_r | exact isRf_n | exact isRf_o | assumption) ?_
          refine g_iload_n dX1_addLot_65 (by rfl) ?_
          refine g_putf (ty := .int) dX1_addLot_66 fX1_122 (by decide +kernel) (by rfl) (by rfl) (by first | assumption | (repeat' (first | assumption | exact hu_same | exact Ne.symm (by assumption) | apply hu_n1))) (by exact Nat.le_of_ble_eq_true rfl) ?_
          refine g_aload_n dX1_addLot_69 (by rfl) (by first | exact isRf_r | exact isRf_n | exact isRf_o | assumption) ?_
          refine g_iload_n dX1_addLot_70 (by rfl) ?_
          refine g_putf (ty := .int) dX1_addLot_71 fX1_125 (by decide +kernel) (by rfl) (by rfl) (by first | assumption | (repeat' (first | assumption | exact hu_same | exact Ne.symm (by assumption) | apply hu_n1))) (by exact Nat.le_of_ble_eq_true rfl) ?_
          refine g_aload_n dX1_addLot_74 (by rfl) (by first | exact isRf_r | exact isRf_n | exact isRf_o | assumption) ?_
          refine g_getf dX1_addLot_75 fX1_50 (by first | assumption | (repeat' (first | assumption | exact hu_same | exact Ne.symm (by assumption) | apply hu_n1))) (by rfl) ?_
          refine g_iconst (v := 1) dX1_addLot_78 (by decide) ?_
          refine g_isub dX1_addLot_79 ?_
          refine g_iret dX1_addLot_80 rfl (Nat.le_refl _) (Nat.le_refl _) ?_
          rw [nI_pred]
          refine fin_ok (x := nI nl) (r2 := upd (upd (upd r (43 + 15 * nl + 0) c) (43 + 15 * nl + 1) w) 8 (r 8 + 1)) ?_ ?_ ?_
          · unfold F_lot
            rw [hb, e8, decide_eq_true hlim, cl_nI (by omega)]
            rfl
          · rw [upd_c (i := 43 + 15 * nl + 1) (j := 8) (by omega), upd_c (i := 43 + 15 * nl + 0) (j := 8) (by omega), hu_hu]
            refine HouseAt.lotU hI H1 (by omega) ?_ (fun j h1 h2 => ((upd_n (by omega)).trans (upd_n (by omega))).symm) (fun p hp h9 => ((upd_n (by omega)).trans (upd_n (by omega))).symm)
            have q : ∀ k, 2 ≤ k → k < 15 → ltx (upd (upd (upd r 8 (r 8 + 1)) (43 + 15 * nl + 0) c) (43 + 15 * nl + 1) w) nl k = ltx r nl k := fun k h1 h2 => (upd_n (by omega)).trans ((upd_n (by omega)).trans (upd_n (by omega)))
            have q0 : ltx (upd (upd (upd r 8 (r 8 + 1)) (43 + 15 * nl + 0) c) (43 + 15 * nl + 1) w) nl 0 = c := (upd_n (by omega)).trans upd_s
            have q1 : ltx (upd (upd (upd r 8 (r 8 + 1)) (43 + 15 * nl + 0) c) (43 + 15 * nl + 1) w) nl 1 = w := upd_s
            unfold lotC
            rw [q0, q1, q 10 (by omega) (by omega), q 11 (by omega) (by omega), q 12 (by omega) (by omega), q 13 (by omega) (by omega), q 14 (by omega) (by omega)]
            rfl
          · intro q hq
            rw [hu_ne (hq _ (by omega)), hu_ne (hq _ (by omega)), f1 q (hq _ (by omega))]
        · skip
          have hlim : ¬ nI nl < 20 := c4
          refine g_bipush (v := (-3)) dX1_addLot_36 (by decide) ?_
          refine g_iret dX1_addLot_38 rfl (Nat.le_refl _) (Nat.le_refl _) ?_
          refine fin_err hA ?_
          unfold F_lot
          rw [hb, e8, decide_eq_false hlim]
          rfl
      · skip
        have hb : (rngB 0 1 c && rngB 100 5000 w) = false := by rw [rngB_f2 c3, Bool.and_false]
        refine g_iconst (v := (-1)) dX1_addLot_22 (by decide) ?_
        refine g_iret dX1_addLot_23 rfl (Nat.le_refl _) (Nat.le_refl _) ?_
        refine fin_err hA ?_
        unfold F_lot
        rw [hb]
        rfl
  · skip
    refine g_iload_n dX1_addLot_4 (by rfl) ?_
    refine g_iconst (v := 1) dX1_addLot_5 (by decide) ?_
    refine g_icmp_ne (tgt := 22) dX1_addLot_6 (by decide) (fun c6 => ?_) (fun c6 => ?_)
    · skip
      have hb : (rngB 0 1 c && rngB 100 5000 w) = false := by
        have z : rngB 0 1 c = false := by
          cases z : rngB 0 1 c with
          | false => rfl
          | true =>
            exfalso
            have z2 := rngB_i.mp z
            have y0 : (0 : Int32).toInt = 0 := by decide
            have y1 : (1 : Int32).toInt = 1 := by decide
            simp only [i_le, y0, y1] at z2
            rcases (show c.toInt = 0 ∨ c.toInt = 1 by omega) with q | q
            · exact c1 (Int32.toInt_inj.mp (q.trans y0.symm))
            · exact c6 (Int32.toInt_inj.mp (q.trans y1.symm))
        rw [z]
        rfl
      refine g_iconst (v := (-1)) dX1_addLot_22 (by decide) ?_
      refine g_iret dX1_addLot_23 rfl (Nat.le_refl _) (Nat.le_refl _) ?_
      refine fin_err hA ?_
      unfold F_lot
      rw [hb]
      rfl
    · skip
      have hc : rngB 0 1 c = true := by rw [c6]; decide
      refine g_iload_n dX1_addLot_9 (by rfl) ?_
      refine g_bipush (v := 100) dX1_addLot_10 (by decide) ?_
      refine g_icmp_lt (tgt := 22) dX1_addLot_12 (by decide) (fun c7 => ?_) (fun c7 => ?_)
      · skip
        have hb : (rngB 0 1 c && rngB 100 5000 w) = false := by rw [rngB_f1 (i_nle c7), Bool.and_false]
        refine g_iconst (v := (-1)) dX1_addLot_22 (by decide) ?_
        refine g_iret dX1_addLot_23 rfl (Nat.le_refl _) (Nat.le_refl _) ?_
        refine fin_err hA ?_
        unfold F_lot
        rw [hb]
        rfl
      · skip
        have hl1 := c7
        refine g_iload_n dX1_addLot_15 (by rfl) ?_
        refine g_sipush (v := 5000) dX1_addLot_16 (by decide) ?_
        refine g_icmp_le (tgt := 24) dX1_addLot_19 (by decide) (fun c8 => ?_) (fun c8 => ?_)
        · skip
          have hb : (rngB 0 1 c && rngB 100 5000 w) = true := by rw [hc, rngB_t (i_nlt hl1) c8]; rfl
          refine g_aload_n dX1_addLot_24 (by rfl) (by first | exact isRf_r | exact isRf_n | exact isRf_o | assumption) ?_
          refine g_getf dX1_addLot_25 fX1_50 (by first | assumption | (repeat' (first | assumption | exact hu_same | exact Ne.symm (by assumption) | apply hu_n1))) (by rfl) ?_
          refine g_aload_n dX1_addLot_28 (by rfl) (by first | exact isRf_r | exact isRf_n | exact isRf_o | assumption) ?_
          refine g_getf dX1_addLot_29 fX1_19 (by first | assumption | (repeat' (first | assumption | exact hu_same | exact Ne.symm (by assumption) | apply hu_n1))) (by rfl) ?_
          refine g_alenR dX1_addLot_32 (by first | assumption | (repeat' (first | assumption | exact hu_same | exact Ne.symm (by assumption) | apply hu_n1))) (by decide) ?_
          refine g_icmp_lt (tgt := 39) dX1_addLot_33 (by decide) (fun c9 => ?_) (fun c9 => ?_)
          · skip
            have hlim : nI nl < 20 := c9
            refine g_aload_n dX1_addLot_39 (by rfl) (by first | exact isRf_r | exact isRf_n | exact isRf_o | assumption) ?_
            refine g_dup dX1_addLot_40 (by rfl) ?_
            refine g_getf dX1_addLot_41 fX1_50 (by first | assumption | (repeat' (first | assumption | exact hu_same | exact Ne.symm (by assumption) | apply hu_n1))) (by rfl) ?_
            refine g_iconst (v := 1) dX1_addLot_44 (by decide) ?_
            refine g_iadd dX1_addLot_45 ?_
            refine g_putf (ty := .int) dX1_addLot_46 fX1_50 (by decide +kernel) (by rfl) (by rfl) (by first | assumption | (repeat' (first | assumption | exact hu_same | exact Ne.symm (by assumption) | apply hu_n1))) (by exact Nat.le_of_ble_eq_true rfl) ?_
            refine g_gen (fun h1 e1 => ?_)
            have f1 : ∀ q, q ≠ A 0 → h1 q = h q := fun q n => by rw [e1, hu_ne n]
            have hnl6 : nl < 20 := (nI_ltI (b := 20) (by omega) (by omega)).mp hlim
            rw [nI_1] at e1
            have k0 : h1 (A 0) = some (ob 1 [.ref (A 1), .ref (A 2), .ref (A 3), .int (nI nv), .int (nI (nl + 1)), .int (nI no), .int (r 10), .ref (A 4), .ref (A 5), .ref (A 6)]) := by rw [e1]; exact hu_same
            have k2 := (f1 (A 2) (hI.ne (by omega) (by omega) (by omega))).trans a2
            have H1 : HouseAt X h1 A (upd r 8 (r 8 + 1)) := by
              rw [e1]
              refine HouseAt.fld hI hA ?_ (fun p _ n _ _ => upd_n n)
              rw [hob_8, e7, e8, e9, nI_1]
              rfl
            have aln : LotAt X h1 (A (14 + 3 * nl)) (A (15 + 3 * nl)) (A (16 + 3 * nl)) (ltx r nl) := (al nl (by omega)).kept (f1 _ (hI.ne (by omega) (by omega) (by omega))) (f1 _ (hI.ne (by omega) (by omega) (by omega))) (f1 _ (hI.ne (by omega) (by omega) (by omega)))
            obtain ⟨m1, m2, m3⟩ := aln
            unfold lotC at m1
            have n80 : A 0 ≠ A (14 + 3 * nl) := hI.ne (by omega) (by omega) (by omega)
            refine g_aload_n dX1_addLot_49 (by rfl) (by first | exact isRf_r | exact isRf_n | exact isRf_o | assumption) ?_
            refine g_aload_n dX1_addLot_50 (by rfl) (by first | exact isRf_r | exact isRf_n | exact isRf_o | assumption) ?_
            refine g_getf dX1_addLot_51 fX1_50 (by first | assumption | (repeat' (first | assumption | exact hu_same | exact Ne.symm (by assumption) | apply hu_n1))) (by rfl) ?_
            refine g_iconst (v := 1) dX1_addLot_54 (by decide) ?_
            refine g_isub dX1_addLot_55 ?_
            rw [nI_pred]
            refine g_cV1x dX1_addLot_56 lX1_118 vX1_findLot (ct_findLot X (n := nl + 1) (by omega) k0 k2 (Nat.lt_succ_self nl) (laR_j (by omega))) (by first | assumption | (repeat' (first | assumption | exact hu_same | exact Ne.symm (by assumption) | apply hu_n1))) rfl ⟨Nat.le_of_ble_eq_true rfl, Nat.le_of_ble_eq_true rfl⟩ (Nat.le_of_ble_eq_true rfl) ⟨Nat.le_of_ble_eq_true rfl, Nat.le_of_ble_eq_true rfl⟩ ?_
            refine g_astore_n (L1 := [(0, _), (1, _), (2, _), (3, _)]) dX1_addLot_59 (by first | exact isRf_r | exact isRf_n | exact isRf_o | assumption) (by decide) (by rfl) ?_
            refine g_aload_n dX1_addLot_60 (by rfl) (by first | exact isRf_r | exact isRf_n | exact isRf_o | assumption) ?_
            refine g_ifnull (tgt := 74) dX1_addLot_61 (by decide) (by first | exact isRf_r | exact isRf_n | exact isRf_o | assumption) (fun c10 => nomatch c10) (fun c10 => ?_)
            refine g_aload_n dX1_addLot_64 (by rfl) (by first | exact isRf_r | exact isRf_n | exact isRf_o | assumption) ?_
            refine g_iload_n dX1_addLot_65 (by rfl) ?_
            refine g_putf (ty := .int) dX1_addLot_66 fX1_122 (by decide +kernel) (by rfl) (by rfl) (by first | assumption | (repeat' (first | assumption | exact hu_same | exact Ne.symm (by assumption) | apply hu_n1))) (by exact Nat.le_of_ble_eq_true rfl) ?_
            refine g_aload_n dX1_addLot_69 (by rfl) (by first | exact isRf_r | exact isRf_n | exact isRf_o | assumption) ?_
            refine g_iload_n dX1_addLot_70 (by rfl) ?_
            refine g_putf (ty := .int) dX1_addLot_71 fX1_125 (by decide +kernel) (by rfl) (by rfl) (by first | assumption | (repeat' (first | assumption | exact hu_same | exact Ne.symm (by assumption) | apply hu_n1))) (by exact Nat.le_of_ble_eq_true rfl) ?_
            refine g_aload_n dX1_addLot_74 (by rfl) (by first | exact isRf_r | exact isRf_n | exact isRf_o | assumption) ?_
            refine g_getf dX1_addLot_75 fX1_50 (by first | assumption | (repeat' (first | assumption | exact hu_same | exact Ne.symm (by assumption) | apply hu_n1))) (by rfl) ?_
            refine g_iconst (v := 1) dX1_addLot_78 (by decide) ?_
            refine g_isub dX1_addLot_79 ?_
            refine g_iret dX1_addLot_80 rfl (Nat.le_refl _) (Nat.le_refl _) ?_
            rw [nI_pred]
            refine fin_ok (x := nI nl) (r2 := upd (upd (upd r (43 + 15 * nl + 0) c) (43 + 15 * nl + 1) w) 8 (r 8 + 1)) ?_ ?_ ?_
            · unfold F_lot
              rw [hb, e8, decide_eq_true hlim, cl_nI (by omega)]
              rfl
            · rw [upd_c (i := 43 + 15 * nl + 1) (j := 8) (by omega), upd_c (i := 43 + 15 * nl + 0) (j := 8) (by omega), hu_hu]
              refine HouseAt.lotU hI H1 (by omega) ?_ (fun j h1 h2 => ((upd_n (by omega)).trans (upd_n (by omega))).symm) (fun p hp h9 => ((upd_n (by omega)).trans (upd_n (by omega))).symm)
              have q : ∀ k, 2 ≤ k → k < 15 → ltx (upd (upd (upd r 8 (r 8 + 1)) (43 + 15 * nl + 0) c) (43 + 15 * nl + 1) w) nl k = ltx r nl k := fun k h1 h2 => (upd_n (by omega)).trans ((upd_n (by omega)).trans (upd_n (by omega)))
              have q0 : ltx (upd (upd (upd r 8 (r 8 + 1)) (43 + 15 * nl + 0) c) (43 + 15 * nl + 1) w) nl 0 = c := (upd_n (by omega)).trans upd_s
              have q1 : ltx (upd (upd (upd r 8 (r 8 + 1)) (43 + 15 * nl + 0) c) (43 + 15 * nl + 1) w) nl 1 = w := upd_s
              unfold lotC
              rw [q0, q1, q 10 (by omega) (by omega), q 11 (by omega) (by omega), q 12 (by omega) (by omega), q 13 (by omega) (by omega), q 14 (by omega) (by omega)]
              rfl
            · intro q hq
              rw [hu_ne (hq _ (by omega)), hu_ne (hq _ (by omega)), f1 q (hq _ (by omega))]
          · skip
            have hlim : ¬ nI nl < 20 := c9
            refine g_bipush (v := (-3)) dX1_addLot_36 (by decide) ?_
            refine g_iret dX1_addLot_38 rfl (Nat.le_refl _) (Nat.le_refl _) ?_
            refine fin_err hA ?_
            unfold F_lot
            rw [hb, e8, decide_eq_false hlim]
            rfl
        · skip
          have hb : (rngB 0 1 c && rngB 100 5000 w) = false := by rw [rngB_f2 c8, Bool.and_false]
          refine g_iconst (v := (-1)) dX1_addLot_22 (by decide) ?_
          refine g_iret dX1_addLot_23 rfl (Nat.le_refl _) (Nat.le_refl _) ?_
          refine fin_err hA ?_
          unfold F_lot
          rw [hb]
          rfl

theorem HouseAt.hng {X : Cx} {h : Hp} {A : Nat → Nat} {r : Nat → Int32} {l : Nat} {x : Int32} {e : va_E} (hI : InjA A) (k : HouseAt X h A r) (hl : l < 20) (he : e = ob 2 [.int (ltx r l 0), .int (ltx r l 1), .int x, .int (ltx r l 11), .int (ltx r l 12), .int (ltx r l 13 - 1), .int (ltx r l 14), .ref (A (15 + 3 * l)), .ref (A (16 + 3 * l))]) : HouseAt X (hu h (A (14 + 3 * l)) e) A (upd r (43 + 15 * l + 10) x) := by
  refine HouseAt.lotU hI k hl ?_ (fun j h1 h2 => (upd_n (by omega)).symm) (fun p hp h9 => (upd_n (by omega)).symm)
  have q : ∀ k, k < 15 → k ≠ 10 → ltx (upd r (43 + 15 * l + 10) x) l k = ltx r l k := fun k h1 h2 => upd_n (by omega)
  have q1 : ltx (upd r (43 + 15 * l + 10) x) l 10 = x := upd_s
  rw [he]
  unfold lotC
  rw [q1, q 0 (by omega) (by omega), q 1 (by omega) (by omega), q 11 (by omega) (by omega), q 12 (by omega) (by omega), q 13 (by omega) (by omega), q 14 (by omega) (by omega)]

set_option maxHeartbeats 4000000 in
set_option maxRecDepth 100000 in
theorem ct_X1_hangLot (X : Cx) {h : Hp} {A : Nat → Nat} {r : Nat → Int32} {w k : Int32}  (hI : InjA A) (hO : Ok r) (hA : HouseAt X h A r) : Ct X mX1_hangLot 2 0 0 [.ref (A 0), .int w, .int k] h (fun u h1 => u = some (.int (F_hang r w k).1) ∧ HouseAt X h1 A (F_hang r w k).2 ∧ ∀ q, outA A q → h1 q = h q) := by
  have hO0 := hO
  obtain ⟨nv, nl, no, hnv, hnl, hno, e7, e8, e9, hset, hvok, hvz, hlok, hlz, hok, hoz, hw⟩ := hO0
  have hA0 := hA
  obtain ⟨a0, a1, a2, a3, a4, a5, a6, av, al, ao⟩ := hA0
  unfold hobC at a0
  rw [e7, e8, e9] at a0
  refine Ct.ofG vX1_hangLot.1.2.2.1 (Nat.le_of_ble_eq_true rfl) ?_
  show G X RX1 cX1_hangLot 4 (some .int) "hangLot" (Rm 2 0 0) (Fm X (fun u h1 => u = some (.int (F_hang r w k).1) ∧ HouseAt X h1 A (F_hang r w k).2 ∧ ∀ q, outA A q → h1 q = h q) 0 0) 0 0 0 [(0, .ref (A 0)), (1, .int w), (2, .int k)] [] h
  refine g_aload_n dX1_hangLot_0 (by rfl) (by first | exact isRf_r | exact isRf_n | exact isRf_o | assumption) ?_
  refine g_iload_n dX1_hangLot_1 (by rfl) ?_
  by_cases hvj : ∃ j, j < nl ∧ w = nI j
  · skip
    obtain ⟨j, hj, rfl⟩ := hvj
    have alj := al j (by omega)
    obtain ⟨l1, l2, l3⟩ := alj
    unfold lotC at l1
    refine g_cV1x dX1_hangLot_2 lX1_118 vX1_findLot (ct_findLot X (by omega) a0 a2 hj (laR_j (by omega))) (by first | assumption | (repeat' (first | assumption | exact hu_same | exact Ne.symm (by assumption) | apply hu_n1))) rfl ⟨Nat.le_of_ble_eq_true rfl, Nat.le_of_ble_eq_true rfl⟩ (Nat.le_of_ble_eq_true rfl) ⟨Nat.le_of_ble_eq_true rfl, Nat.le_of_ble_eq_true rfl⟩ ?_
    refine g_astore_n (L1 := [(0, _), (1, _), (2, _), (3, _)]) dX1_hangLot_5 (by first | exact isRf_r | exact isRf_n | exact isRf_o | assumption) (by decide) (by rfl) ?_
    refine g_aload_n dX1_hangLot_6 (by rfl) (by first | exact isRf_r | exact isRf_n | exact isRf_o | assumption) ?_
    refine g_ifnull (tgt := 19) dX1_hangLot_7 (by decide) (by first | exact isRf_r | exact isRf_n | exact isRf_o | assumption) (fun c1 => nomatch c1) (fun c1 => ?_)
    refine g_iload_n dX1_hangLot_10 (by rfl) ?_
    refine g_if_eq (tgt := 21) dX1_hangLot_11 (by decide) (fun c2 => ?_) (fun c2 => ?_)
    · skip
      have hk : rngB 0 1 k = true := by rw [c2]; decide
      refine g_aload_n dX1_hangLot_21 (by rfl) (by first | exact isRf_r | exact isRf_n | exact isRf_o | assumption) ?_
      refine g_cV0x dX1_hangLot_22 lX1_128 vX2_isSold (ct_X2_isSold X (al j (by omega))) (by first | assumption | (repeat' (first | assumption | exact hu_same | exact Ne.symm (by assumption) | apply hu_n1))) rfl ⟨Nat.le_of_ble_eq_true rfl, Nat.le_of_ble_eq_true rfl⟩ (Nat.le_of_ble_eq_true rfl) ⟨Nat.le_of_ble_eq_true rfl, Nat.le_of_ble_eq_true rfl⟩ ?_
      refine g_if_ne (tgt := 43) dX1_hangLot_25 (by decide) (fun c3 => ?_) (fun c3 => ?_)
      · skip
        have hb : (sold r j || (hangs r j || decide (¬ ltx r j 0 = k))) = true := by simp [sold, bI_d1 _ c3]
        refine g_bipush (v := (-2)) dX1_hangLot_43 (by decide) ?_
        refine g_iret dX1_hangLot_45 rfl (Nat.le_refl _) (Nat.le_refl _) ?_
        refine fin_err hA ?_
        unfold F_hang
        rw [e8, okB_t hj (by omega), cl_nI (by omega), hk, hb]
        rfl
      · skip
        have hs := bI_d0 _ c3
        have hs2 : ltx r j 13 = 0 := Classical.byContradiction (fun q => hs q)
        refine g_aload_n dX1_hangLot_28 (by rfl) (by first | exact isRf_r | exact isRf_n | exact isRf_o | assumption) ?_
        refine g_getf dX1_hangLot_29 fX1_132 (by first | assumption | (repeat' (first | assumption | exact hu_same | exact Ne.symm (by assumption) | apply hu_n1))) (by rfl) ?_
        refine g_if_ne (tgt := 43) dX1_hangLot_32 (by decide) (fun c4 => ?_) (fun c4 => ?_)
        · skip
          have hb : (sold r j || (hangs r j || decide (¬ ltx r j 0 = k))) = true := by simp [hangs, c4]
          refine g_bipush (v := (-2)) dX1_hangLot_43 (by decide) ?_
          refine g_iret dX1_hangLot_45 rfl (Nat.le_refl _) (Nat.le_refl _) ?_
          refine fin_err hA ?_
          unfold F_hang
          rw [e8, okB_t hj (by omega), cl_nI (by omega), hk, hb]
          rfl
        · skip
          have hh := c4
          refine g_aload_n dX1_hangLot_35 (by rfl) (by first | exact isRf_r | exact isRf_n | exact isRf_o | assumption) ?_
          refine g_getf dX1_hangLot_36 fX1_122 (by first | assumption | (repeat' (first | assumption | exact hu_same | exact Ne.symm (by assumption) | apply hu_n1))) (by rfl) ?_
          refine g_iload_n dX1_hangLot_39 (by rfl) ?_
          refine g_icmp_eq (tgt := 46) dX1_hangLot_40 (by decide) (fun c5 => ?_) (fun c5 => ?_)
          · skip
            have hb : (sold r j || (hangs r j || decide (¬ ltx r j 0 = k))) = false := by simp [sold, hangs, hs2, hh, c5]
            refine g_aload_n dX1_hangLot_46 (by rfl) (by first | exact isRf_r | exact isRf_n | exact isRf_o | assumption) ?_
            refine g_iload_n dX1_hangLot_47 (by rfl) ?_
            refine g_cV1x dX1_hangLot_48 lX1_150 vX1_lotsOnRack (ct_X1_lotsOnRack X hnl e8 hA) (by first | assumption | (repeat' (first | assumption | exact hu_same | exact Ne.symm (by assumption) | apply hu_n1))) rfl ⟨Nat.le_of_ble_eq_true rfl, Nat.le_of_ble_eq_true rfl⟩ (Nat.le_of_ble_eq_true rfl) ⟨Nat.le_of_ble_eq_true rfl, Nat.le_of_ble_eq_true rfl⟩ ?_
            refine g_iconst (v := 4) dX1_hangLot_51 (by decide) ?_
            refine g_icmp_lt (tgt := 58) dX1_hangLot_52 (by decide) (fun c6 => ?_) (fun c6 => ?_)
            · skip
              have hr : ¬ (4 : Int32) ≤ nI (cntN (rackB r k) nl) := i_nle c6
              refine g_aload_n dX1_hangLot_58 (by rfl) (by first | exact isRf_r | exact isRf_n | exact isRf_o | assumption) ?_
              refine g_iconst (v := 1) dX1_hangLot_59 (by decide) ?_
              refine g_putf (ty := .boolean) dX1_hangLot_60 fX1_132 (by decide +kernel) (by decide) (by decide) (by first | assumption | (repeat' (first | assumption | exact hu_same | exact Ne.symm (by assumption) | apply hu_n1))) (by exact Nat.le_of_ble_eq_true rfl) ?_
              refine g_gen (fun h1 e1 => ?_)
              have H1 : HouseAt X h1 A (upd r (43 + 15 * j + 10) 1) := by
                rw [e1]
                exact HouseAt.hng hI hA (by omega) rfl
              have k00 := H1.1
              unfold hobC at k00
              refine g_aload_n dX1_hangLot_63 (by rfl) (by first | exact isRf_r | exact isRf_n | exact isRf_o | assumption) ?_
              refine g_iload_n dX1_hangLot_64 (by rfl) ?_
              refine g_cV1x dX1_hangLot_65 lX1_150 vX1_lotsOnRack (ct_X1_lotsOnRack X (r := upd r (43 + 15 * j + 10) 1) hnl (by rw [upd_n (by omega)]; exact e8) H1) (by first | assumption | (repeat' (first | assumption | exact hu_same | exact Ne.symm (by assumption) | apply hu_n1))) rfl ⟨Nat.le_of_ble_eq_true rfl, Nat.le_of_ble_eq_true rfl⟩ (Nat.le_of_ble_eq_true rfl) ⟨Nat.le_of_ble_eq_true rfl, Nat.le_of_ble_eq_true rfl⟩ ?_
              refine g_iret dX1_hangLot_68 rfl (Nat.le_refl _) (Nat.le_refl _) ?_
              refine fin_ok (x := nI (cntN (rackB (upd r (43 + 15 * j + 10) 1) k) nl)) (r2 := upd r (43 + 15 * j + 10) 1) ?_ H1 ?_
              · unfold F_hang rackN
                rw [upd_n (k := 43 + 15 * cl (nI j) + 10) (j := 8) (by omega), e8, okB_t hj (by omega), cl_nI (by omega), cl_nI (by omega), hk, hb, decide_eq_false hr]
                rfl
              · intro q hq
                rw [e1, hu_ne (hq _ (by omega))]
            · skip
              have hr : (4 : Int32) ≤ nI (cntN (rackB r k) nl) := i_nlt c6
              refine g_bipush (v := (-3)) dX1_hangLot_55 (by decide) ?_
              refine g_iret dX1_hangLot_57 rfl (Nat.le_refl _) (Nat.le_refl _) ?_
              refine fin_err hA ?_
              unfold F_hang rackN
              rw [e8, okB_t hj (by omega), cl_nI (by omega), cl_nI (by omega), hk, hb, decide_eq_true hr]
              rfl
          · skip
            have hb : (sold r j || (hangs r j || decide (¬ ltx r j 0 = k))) = true := by simp [c5]
            refine g_bipush (v := (-2)) dX1_hangLot_43 (by decide) ?_
            refine g_iret dX1_hangLot_45 rfl (Nat.le_refl _) (Nat.le_refl _) ?_
            refine fin_err hA ?_
            unfold F_hang
            rw [e8, okB_t hj (by omega), cl_nI (by omega), hk, hb]
            rfl
    · skip
      have ck := c2
      refine g_iload_n dX1_hangLot_14 (by rfl) ?_
      refine g_iconst (v := 1) dX1_hangLot_15 (by decide) ?_
      refine g_icmp_eq (tgt := 21) dX1_hangLot_16 (by decide) (fun c7 => ?_) (fun c7 => ?_)
      · skip
        have hk : rngB 0 1 k = true := by rw [c7]; decide
        refine g_aload_n dX1_hangLot_21 (by rfl) (by first | exact isRf_r | exact isRf_n | exact isRf_o | assumption) ?_
        refine g_cV0x dX1_hangLot_22 lX1_128 vX2_isSold (ct_X2_isSold X (al j (by omega))) (by first | assumption | (repeat' (first | assumption | exact hu_same | exact Ne.symm (by assumption) | apply hu_n1))) rfl ⟨Nat.le_of_ble_eq_true rfl, Nat.le_of_ble_eq_true rfl⟩ (Nat.le_of_ble_eq_true rfl) ⟨Nat.le_of_ble_eq_true rfl, Nat.le_of_ble_eq_true rfl⟩ ?_
        refine g_if_ne (tgt := 43) dX1_hangLot_25 (by decide) (fun c8 => ?_) (fun c8 => ?_)
        · skip
          have hb : (sold r j || (hangs r j || decide (¬ ltx r j 0 = k))) = true := by simp [sold, bI_d1 _ c8]
          refine g_bipush (v := (-2)) dX1_hangLot_43 (by decide) ?_
          refine g_iret dX1_hangLot_45 rfl (Nat.le_refl _) (Nat.le_refl _) ?_
          refine fin_err hA ?_
          unfold F_hang
          rw [e8, okB_t hj (by omega), cl_nI (by omega), hk, hb]
          rfl
        · skip
          have hs := bI_d0 _ c8
          have hs2 : ltx r j 13 = 0 := Classical.byContradiction (fun q => hs q)
          refine g_aload_n dX1_hangLot_28 (by rfl) (by first | exact isRf_r | exact isRf_n | exact isRf_o | assumption) ?_
          refine g_getf dX1_hangLot_29 fX1_132 (by first | assumption | (repeat' (first | assumption | exact hu_same | exact Ne.symm (by assumption) | apply hu_n1))) (by rfl) ?_
          refine g_if_ne (tgt := 43) dX1_hangLot_32 (by decide) (fun c9 => ?_) (fun c9 => ?_)
          · skip
            have hb : (sold r j || (hangs r j || decide (¬ ltx r j 0 = k))) = true := by simp [hangs, c9]
            refine g_bipush (v := (-2)) dX1_hangLot_43 (by decide) ?_
            refine g_iret dX1_hangLot_45 rfl (Nat.le_refl _) (Nat.le_refl _) ?_
            refine fin_err hA ?_
            unfold F_hang
            rw [e8, okB_t hj (by omega), cl_nI (by omega), hk, hb]
            rfl
          · skip
            have hh := c9
            refine g_aload_n dX1_hangLot_35 (by rfl) (by first | exact isRf_r | exact isRf_n | exact isRf_o | assumption) ?_
            refine g_getf dX1_hangLot_36 fX1_122 (by first | assumption | (repeat' (first | assumption | exact hu_same | exact Ne.symm (by assumption) | apply hu_n1))) (by rfl) ?_
            refine g_iload_n dX1_hangLot_39 (by rfl) ?_
            refine g_icmp_eq (tgt := 46) dX1_hangLot_40 (by decide) (fun c10 => ?_) (fun c10 => ?_)
            · skip
              have hb : (sold r j || (hangs r j || decide (¬ ltx r j 0 = k))) = false := by simp [sold, hangs, hs2, hh, c10]
              refine g_aload_n dX1_hangLot_46 (by rfl) (by first | exact isRf_r | exact isRf_n | exact isRf_o | assumption) ?_
              refine g_iload_n dX1_hangLot_47 (by rfl) ?_
              refine g_cV1x dX1_hangLot_48 lX1_150 vX1_lotsOnRack (ct_X1_lotsOnRack X hnl e8 hA) (by first | assumption | (repeat' (first | assumption | exact hu_same | exact Ne.symm (by assumption) | apply hu_n1))) rfl ⟨Nat.le_of_ble_eq_true rfl, Nat.le_of_ble_eq_true rfl⟩ (Nat.le_of_ble_eq_true rfl) ⟨Nat.le_of_ble_eq_true rfl, Nat.le_of_ble_eq_true rfl⟩ ?_
              refine g_iconst (v := 4) dX1_hangLot_51 (by decide) ?_
              refine g_icmp_lt (tgt := 58) dX1_hangLot_52 (by decide) (fun c11 => ?_) (fun c11 => ?_)
              · skip
                have hr : ¬ (4 : Int32) ≤ nI (cntN (rackB r k) nl) := i_nle c11
                refine g_aload_n dX1_hangLot_58 (by rfl) (by first | exact isRf_r | exact isRf_n | exact isRf_o | assumption) ?_
                refine g_iconst (v := 1) dX1_hangLot_59 (by decide) ?_
                refine g_putf (ty := .boolean) dX1_hangLot_60 fX1_132 (by decide +kernel) (by decide) (by decide) (by first | assumption | (repeat' (first | assumption | exact hu_same | exact Ne.symm (by assumption) | apply hu_n1))) (by exact Nat.le_of_ble_eq_true rfl) ?_
                refine g_gen (fun h1 e1 => ?_)
                have H1 : HouseAt X h1 A (upd r (43 + 15 * j + 10) 1) := by
                  rw [e1]
                  exact HouseAt.hng hI hA (by omega) rfl
                have k00 := H1.1
                unfold hobC at k00
                refine g_aload_n dX1_hangLot_63 (by rfl) (by first | exact isRf_r | exact isRf_n | exact isRf_o | assumption) ?_
                refine g_iload_n dX1_hangLot_64 (by rfl) ?_
                refine g_cV1x dX1_hangLot_65 lX1_150 vX1_lotsOnRack (ct_X1_lotsOnRack X (r := upd r (43 + 15 * j + 10) 1) hnl (by rw [upd_n (by omega)]; exact e8) H1) (by first | assumption | (repeat' (first | assumption | exact hu_same | exact Ne.symm (by assumption) | apply hu_n1))) rfl ⟨Nat.le_of_ble_eq_true rfl, Nat.le_of_ble_eq_true rfl⟩ (Nat.le_of_ble_eq_true rfl) ⟨Nat.le_of_ble_eq_true rfl, Nat.le_of_ble_eq_true rfl⟩ ?_
                refine g_iret dX1_hangLot_68 rfl (Nat.le_refl _) (Nat.le_refl _) ?_
                refine fin_ok (x := nI (cntN (rackB (upd r (43 + 15 * j + 10) 1) k) nl)) (r2 := upd r (43 + 15 * j + 10) 1) ?_ H1 ?_
                · unfold F_hang rackN
                  rw [upd_n (k := 43 + 15 * cl (nI j) + 10) (j := 8) (by omega), e8, okB_t hj (by omega), cl_nI (by omega), cl_nI (by omega), hk, hb, decide_eq_false hr]
                  rfl
                · intro q hq
                  rw [e1, hu_ne (hq _ (by omega))]
              · skip
                have hr : (4 : Int32) ≤ nI (cntN (rackB r k) nl) := i_nlt c11
                refine g_bipush (v := (-3)) dX1_hangLot_55 (by decide) ?_
                refine g_iret dX1_hangLot_57 rfl (Nat.le_refl _) (Nat.le_refl _) ?_
                refine fin_err hA ?_
                unfold F_hang rackN
                rw [e8, okB_t hj (by omega), cl_nI (by omega), cl_nI (by omega), hk, hb, decide_eq_true hr]
                rfl
            · skip
              have hb : (sold r j || (hangs r j || decide (¬ ltx r j 0 = k))) = true := by simp [c10]
              refine g_bipush (v := (-2)) dX1_hangLot_43 (by decide) ?_
              refine g_iret dX1_hangLot_45 rfl (Nat.le_refl _) (Nat.le_refl _) ?_
              refine fin_err hA ?_
              unfold F_hang
              rw [e8, okB_t hj (by omega), cl_nI (by omega), hk, hb]
              rfl
      · skip
        have hk : rngB 0 1 k = false := by
          cases z : rngB 0 1 k with
          | false => rfl
          | true =>
            exfalso
            have z2 := rngB_i.mp z
            have y0 : (0 : Int32).toInt = 0 := by decide
            have y1 : (1 : Int32).toInt = 1 := by decide
            simp only [i_le, y0, y1] at z2
            rcases (show k.toInt = 0 ∨ k.toInt = 1 by omega) with q | q
            · exact ck (Int32.toInt_inj.mp (q.trans y0.symm))
            · exact c7 (Int32.toInt_inj.mp (q.trans y1.symm))
        refine g_iconst (v := (-1)) dX1_hangLot_19 (by decide) ?_
        refine g_iret dX1_hangLot_20 rfl (Nat.le_refl _) (Nat.le_refl _) ?_
        refine fin_err hA ?_
        unfold F_hang
        first
          | (rw [e8, okB_f (by omega) hvj]; rfl)
          | (rw [hk, Bool.and_false]; rfl)
  · skip
    refine g_cV1x dX1_hangLot_2 lX1_118 vX1_findLot (ct_findLotN X (by omega) a0 a2 hvj) (by first | assumption | (repeat' (first | assumption | exact hu_same | exact Ne.symm (by assumption) | apply hu_n1))) rfl ⟨Nat.le_of_ble_eq_true rfl, Nat.le_of_ble_eq_true rfl⟩ (Nat.le_of_ble_eq_true rfl) ⟨Nat.le_of_ble_eq_true rfl, Nat.le_of_ble_eq_true rfl⟩ ?_
    refine g_astore_n (L1 := [(0, _), (1, _), (2, _), (3, _)]) dX1_hangLot_5 (by first | exact isRf_r | exact isRf_n | exact isRf_o | assumption) (by decide) (by rfl) ?_
    refine g_aload_n dX1_hangLot_6 (by rfl) (by first | exact isRf_r | exact isRf_n | exact isRf_o | assumption) ?_
    refine g_ifnull (tgt := 19) dX1_hangLot_7 (by decide) (by first | exact isRf_r | exact isRf_n | exact isRf_o | assumption) (fun c12 => ?_) (fun c12 => absurd rfl c12)
    refine g_iconst (v := (-1)) dX1_hangLot_19 (by decide) ?_
    refine g_iret dX1_hangLot_20 rfl (Nat.le_refl _) (Nat.le_refl _) ?_
    refine fin_err hA ?_
    unfold F_hang
    first
      | (rw [e8, okB_f (by omega) hvj]; rfl)
      | (rw [hk, Bool.and_false]; rfl)

set_option maxHeartbeats 4000000 in
set_option maxRecDepth 100000 in
theorem ct_X1_takeDown (X : Cx) {h : Hp} {A : Nat → Nat} {r : Nat → Int32} {w : Int32}  (hI : InjA A) (hO : Ok r) (hA : HouseAt X h A r) : Ct X mX1_takeDown 2 0 0 [.ref (A 0), .int w] h (fun u h1 => u = some (.int (F_take r w).1) ∧ HouseAt X h1 A (F_take r w).2 ∧ ∀ q, outA A q → h1 q = h q) := by
  have hO0 := hO
  obtain ⟨nv, nl, no, hnv, hnl, hno, e7, e8, e9, hset, hvok, hvz, hlok, hlz, hok, hoz, hw⟩ := hO0
  have hA0 := hA
  obtain ⟨a0, a1, a2, a3, a4, a5, a6, av, al, ao⟩ := hA0
  unfold hobC at a0
  rw [e7, e8, e9] at a0
  refine Ct.ofG vX1_takeDown.1.2.2.1 (Nat.le_of_ble_eq_true rfl) ?_
  show G X RX1 cX1_takeDown 3 (some .int) "takeDown" (Rm 2 0 0) (Fm X (fun u h1 => u = some (.int (F_take r w).1) ∧ HouseAt X h1 A (F_take r w).2 ∧ ∀ q, outA A q → h1 q = h q) 0 0) 0 0 0 [(0, .ref (A 0)), (1, .int w)] [] h
  refine g_aload_n dX1_takeDown_0 (by rfl) (by first | exact isRf_r | exact isRf_n | exact isRf_o | assumption) ?_
  refine g_iload_n dX1_takeDown_1 (by rfl) ?_
  by_cases hvj : ∃ j, j < nl ∧ w = nI j
  · skip
    obtain ⟨j, hj, rfl⟩ := hvj
    have alj := al j (by omega)
    obtain ⟨l1, l2, l3⟩ := alj
    unfold lotC at l1
    refine g_cV1x dX1_takeDown_2 lX1_118 vX1_findLot (ct_findLot X (by omega) a0 a2 hj (laR_j (by omega))) (by first | assumption | (repeat' (first | assumption | exact hu_same | exact Ne.symm (by assumption) | apply hu_n1))) rfl ⟨Nat.le_of_ble_eq_true rfl, Nat.le_of_ble_eq_true rfl⟩ (Nat.le_of_ble_eq_true rfl) ⟨Nat.le_of_ble_eq_true rfl, Nat.le_of_ble_eq_true rfl⟩ ?_
    refine g_astore_n (L1 := [(0, _), (1, _), (2, _)]) dX1_takeDown_5 (by first | exact isRf_r | exact isRf_n | exact isRf_o | assumption) (by decide) (by rfl) ?_
    refine g_aload_n dX1_takeDown_6 (by rfl) (by first | exact isRf_r | exact isRf_n | exact isRf_o | assumption) ?_
    refine g_ifnonnull (tgt := 12) dX1_takeDown_7 (by decide) (by first | exact isRf_r | exact isRf_n | exact isRf_o | assumption) (fun c1 => ?_) (fun c1 => nomatch c1)
    refine g_aload_n dX1_takeDown_12 (by rfl) (by first | exact isRf_r | exact isRf_n | exact isRf_o | assumption) ?_
    refine g_getf dX1_takeDown_13 fX1_132 (by first | assumption | (repeat' (first | assumption | exact hu_same | exact Ne.symm (by assumption) | apply hu_n1))) (by rfl) ?_
    refine g_if_ne (tgt := 22) dX1_takeDown_16 (by decide) (fun c2 => ?_) (fun c2 => ?_)
    · skip
      have hb : hangs r j = true := by simp [hangs, c2]
      refine g_aload_n dX1_takeDown_22 (by rfl) (by first | exact isRf_r | exact isRf_n | exact isRf_o | assumption) ?_
      refine g_iconst (v := 0) dX1_takeDown_23 (by decide) ?_
      refine g_putf (ty := .boolean) dX1_takeDown_24 fX1_132 (by decide +kernel) (by decide) (by decide) (by first | assumption | (repeat' (first | assumption | exact hu_same | exact Ne.symm (by assumption) | apply hu_n1))) (by exact Nat.le_of_ble_eq_true rfl) ?_
      refine g_gen (fun h1 e1 => ?_)
      have H1 : HouseAt X h1 A (upd r (43 + 15 * j + 10) 0) := by
        rw [e1]
        exact HouseAt.hng hI hA (by omega) rfl
      have k00 := H1.1
      unfold hobC at k00
      have m1 : h1 (A (14 + 3 * j)) = some (ob 2 [.int (ltx r j 0), .int (ltx r j 1), .int 0, .int (ltx r j 11), .int (ltx r j 12), .int (ltx r j 13 - 1), .int (ltx r j 14), .ref (A (15 + 3 * j)), .ref (A (16 + 3 * j))]) := by rw [e1]; exact hu_same
      refine g_aload_n dX1_takeDown_27 (by rfl) (by first | exact isRf_r | exact isRf_n | exact isRf_o | assumption) ?_
      refine g_aload_n dX1_takeDown_28 (by rfl) (by first | exact isRf_r | exact isRf_n | exact isRf_o | assumption) ?_
      refine g_getf dX1_takeDown_29 fX1_122 (by first | assumption | (repeat' (first | assumption | exact hu_same | exact Ne.symm (by assumption) | apply hu_n1))) (by rfl) ?_
      refine g_cV1x dX1_takeDown_32 lX1_150 vX1_lotsOnRack (ct_X1_lotsOnRack X (r := upd r (43 + 15 * j + 10) 0) hnl (by rw [upd_n (by omega)]; exact e8) H1) (by first | assumption | (repeat' (first | assumption | exact hu_same | exact Ne.symm (by assumption) | apply hu_n1))) rfl ⟨Nat.le_of_ble_eq_true rfl, Nat.le_of_ble_eq_true rfl⟩ (Nat.le_of_ble_eq_true rfl) ⟨Nat.le_of_ble_eq_true rfl, Nat.le_of_ble_eq_true rfl⟩ ?_
      refine g_iret dX1_takeDown_35 rfl (Nat.le_refl _) (Nat.le_refl _) ?_
      refine fin_ok (x := nI (cntN (rackB (upd r (43 + 15 * j + 10) 0) (ltx r j 0)) nl)) (r2 := upd r (43 + 15 * j + 10) 0) ?_ H1 ?_
      · unfold F_take rackN
        rw [upd_n (k := 43 + 15 * cl (nI j) + 10) (j := 8) (by omega), e8, okB_t hj (by omega), cl_nI (by omega), cl_nI (by omega), hb]
        rfl
      · intro q hq
        rw [e1, hu_ne (hq _ (by omega))]
    · skip
      have hb : hangs r j = false := by simp [hangs, c2]
      refine g_bipush (v := (-2)) dX1_takeDown_19 (by decide) ?_
      refine g_iret dX1_takeDown_21 rfl (Nat.le_refl _) (Nat.le_refl _) ?_
      refine fin_err hA ?_
      unfold F_take
      rw [e8, okB_t hj (by omega), cl_nI (by omega), hb]
      rfl
  · skip
    refine g_cV1x dX1_takeDown_2 lX1_118 vX1_findLot (ct_findLotN X (by omega) a0 a2 hvj) (by first | assumption | (repeat' (first | assumption | exact hu_same | exact Ne.symm (by assumption) | apply hu_n1))) rfl ⟨Nat.le_of_ble_eq_true rfl, Nat.le_of_ble_eq_true rfl⟩ (Nat.le_of_ble_eq_true rfl) ⟨Nat.le_of_ble_eq_true rfl, Nat.le_of_ble_eq_true rfl⟩ ?_
    refine g_astore_n (L1 := [(0, _), (1, _), (2, _)]) dX1_takeDown_5 (by first | exact isRf_r | exact isRf_n | exact isRf_o | assumption) (by decide) (by rfl) ?_
    refine g_aload_n dX1_takeDown_6 (by rfl) (by first | exact isRf_r | exact isRf_n | exact isRf_o | assumption) ?_
    refine g_ifnonnull (tgt := 12) dX1_takeDown_7 (by decide) (by first | exact isRf_r | exact isRf_n | exact isRf_o | assumption) (fun c3 => absurd rfl c3) (fun c3 => ?_)
    refine g_iconst (v := (-1)) dX1_takeDown_10 (by decide) ?_
    refine g_iret dX1_takeDown_11 rfl (Nat.le_refl _) (Nat.le_refl _) ?_
    refine fin_err hA ?_
    unfold F_take
    first
      | (rw [e8, okB_f (by omega) hvj]; rfl)
