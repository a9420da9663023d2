set_option maxHeartbeats 4000000 in
set_option maxRecDepth 100000 in
theorem ct_X1_addOrder (X : Cx) {h : Hp} {A : Nat → Nat} {r : Nat → Int32} {a b c d : Int32}  (hI : InjA A) (hO : Ok r) (hA : HouseAt X h A r) : Ct X mX1_addOrder 2 0 0 [.ref (A 0), .int a, .int b, .int c, .int d] h (fun u h1 => u = some (.int (F_order r a b c d).1) ∧ HouseAt X h1 A (F_order r a b c d).2 ∧ ∀ q, outA A q → h1 q = h q) := by
  have hO0 := hO
  obtain ⟨nv, nl, no, hnv, hnl, hno, e7, e8, e9, hset, hvok, hvz, hlok, hlz, hok, hoz, hw⟩ := hO0
  have hA0 := hA
  obtain ⟨a0, a1, a2, a3, a4, a5, a6, av, al, ao⟩ := hA0
  unfold hobC at a0
  rw [e7, e8, e9] at a0
  refine Ct.ofG vX1_addOrder.1.2.2.1 (Nat.le_of_ble_eq_true rfl) ?_
  show G X RX1 cX1_addOrder 6 (some .int) "addOrder" (Rm 2 0 0) (Fm X (fun u h1 => u = some (.int (F_order r a b c d).1) ∧ HouseAt X h1 A (F_order r a b c d).2 ∧ ∀ q, outA A q → h1 q = h q) 0 0) 0 0 0 [(0, .ref (A 0)), (1, .int a), (2, .int b), (3, .int c), (4, .int d)] [] h
  refine g_iload_n dX1_addOrder_0 (by rfl) ?_
  refine g_cS1x dX1_addOrder_1 lX1_154 rfl vX1_isAskable (ct_X1_isAskable X) ⟨Nat.le_of_ble_eq_true rfl, Nat.le_of_ble_eq_true rfl⟩ (Nat.le_of_ble_eq_true rfl) ⟨Nat.le_of_ble_eq_true rfl, Nat.le_of_ble_eq_true rfl⟩ ?_
  refine g_if_eq (tgt := 29) dX1_addOrder_4 (by decide) (fun c1 => ?_) (fun c1 => ?_)
  · skip
    have z : rngB 0 20000 a = false := by rw [← ask_rng]; exact decide_eq_false (bI_d0 _ c1)
    have hb : (rngB 0 20000 a && (rngB 0 20000 b && (rngB 0 20000 c && rngB 0 20000 d))) = false := by simp [z]
    refine g_iconst (v := (-1)) dX1_addOrder_29 (by decide) ?_
    refine g_iret dX1_addOrder_30 rfl (Nat.le_refl _) (Nat.le_refl _) ?_
    refine fin_err hA ?_
    unfold F_order
    rw [hb]
    rfl
  · skip
    have ha : rngB 0 20000 a = true := by rw [← ask_rng]; exact decide_eq_true (bI_d1 _ c1)
    refine g_iload_n dX1_addOrder_7 (by rfl) ?_
    refine g_cS1x dX1_addOrder_8 lX1_154 rfl vX1_isAskable (ct_X1_isAskable X) ⟨Nat.le_of_ble_eq_true rfl, Nat.le_of_ble_eq_true rfl⟩ (Nat.le_of_ble_eq_true rfl) ⟨Nat.le_of_ble_eq_true rfl, Nat.le_of_ble_eq_true rfl⟩ ?_
    refine g_if_eq (tgt := 29) dX1_addOrder_11 (by decide) (fun c2 => ?_) (fun c2 => ?_)
    · skip
      have z : rngB 0 20000 b = false := by rw [← ask_rng]; exact decide_eq_false (bI_d0 _ c2)
      have hb : (rngB 0 20000 a && (rngB 0 20000 b && (rngB 0 20000 c && rngB 0 20000 d))) = false := by simp [z]
      refine g_iconst (v := (-1)) dX1_addOrder_29 (by decide) ?_
      refine g_iret dX1_addOrder_30 rfl (Nat.le_refl _) (Nat.le_refl _) ?_
      refine fin_err hA ?_
      unfold F_order
      rw [hb]
      rfl
    · skip
      have hb : rngB 0 20000 b = true := by rw [← ask_rng]; exact decide_eq_true (bI_d1 _ c2)
      refine g_iload_n dX1_addOrder_14 (by rfl) ?_
      refine g_cS1x dX1_addOrder_15 lX1_154 rfl vX1_isAskable (ct_X1_isAskable X) ⟨Nat.le_of_ble_eq_true rfl, Nat.le_of_ble_eq_true rfl⟩ (Nat.le_of_ble_eq_true rfl) ⟨Nat.le_of_ble_eq_true rfl, Nat.le_of_ble_eq_true rfl⟩ ?_
      refine g_if_eq (tgt := 29) dX1_addOrder_18 (by decide) (fun c3 => ?_) (fun c3 => ?_)
      · skip
        have z : rngB 0 20000 c = false := by rw [← ask_rng]; exact decide_eq_false (bI_d0 _ c3)
        have hb : (rngB 0 20000 a && (rngB 0 20000 b && (rngB 0 20000 c && rngB 0 20000 d))) = false := by simp [z]
        refine g_iconst (v := (-1)) dX1_addOrder_29 (by decide) ?_
        refine g_iret dX1_addOrder_30 rfl (Nat.le_refl _) (Nat.le_refl _) ?_
        refine fin_err hA ?_
        unfold F_order
        rw [hb]
        rfl
      · skip
        have hc : rngB 0 20000 c = true := by rw [← ask_rng]; exact decide_eq_true (bI_d1 _ c3)
        refine g_iload dX1_addOrder_21 (by rfl) ?_
        refine g_cS1x dX1_addOrder_23 lX1_154 rfl vX1_isAskable (ct_X1_isAskable X) ⟨Nat.le_of_ble_eq_true rfl, Nat.le_of_ble_eq_true rfl⟩ (Nat.le_of_ble_eq_true rfl) ⟨Nat.le_of_ble_eq_true rfl, Nat.le_of_ble_eq_true rfl⟩ ?_
        refine g_if_ne (tgt := 31) dX1_addOrder_26 (by decide) (fun c4 => ?_) (fun c4 => ?_)
        · skip
          have hd : rngB 0 20000 d = true := by rw [← ask_rng]; exact decide_eq_true (bI_d1 _ c4)
          have hb : (rngB 0 20000 a && (rngB 0 20000 b && (rngB 0 20000 c && rngB 0 20000 d))) = true := by simp [ha, hb, hc, hd]
          refine g_aload_n dX1_addOrder_31 (by rfl) (by first | exact isRf_r | exact isRf_n | exact isRf_o | assumption) ?_
          refine g_getf dX1_addOrder_32 fX1_53 (by first | assumption | (repeat' (first | assumption | exact hu_same | exact Ne.symm (by assumption) | apply hu_n1))) (by rfl) ?_
          refine g_aload_n dX1_addOrder_35 (by rfl) (by first | exact isRf_r | exact isRf_n | exact isRf_o | assumption) ?_
          refine g_getf dX1_addOrder_36 fX1_25 (by first | assumption | (repeat' (first | assumption | exact hu_same | exact Ne.symm (by assumption) | apply hu_n1))) (by rfl) ?_
          refine g_alenR dX1_addOrder_39 (by first | assumption | (repeat' (first | assumption | exact hu_same | exact Ne.symm (by assumption) | apply hu_n1))) (by decide) ?_
          refine g_icmp_ge (tgt := 52) dX1_addOrder_40 (by decide) (fun c5 => ?_) (fun c5 => ?_)
          · skip
            have hlim : ¬ nI no < 60 := fun z => i_nle z c5
            have hbb : (decide (nI no < 60) && decide (nI (cntN (fun o => decide (od r o 4 = 0)) no) < 8)) = false := by rw [decide_eq_false hlim]; rfl
            refine g_bipush (v := (-3)) dX1_addOrder_52 (by decide) ?_
            refine g_iret dX1_addOrder_54 rfl (Nat.le_refl _) (Nat.le_refl _) ?_
            refine fin_err hA ?_
            unfold F_order unsN
            rw [hb, e9, cl_nI (by omega), hbb]
            rfl
          · skip
            have hlim : nI no < 60 := i_ngt c5
            refine g_aload_n dX1_addOrder_43 (by rfl) (by first | exact isRf_r | exact isRf_n | exact isRf_o | assumption) ?_
            refine g_cV0x dX1_addOrder_44 lX1_157 vX1_openOrders (ct_X1_openOrders X hno e9 hA) (by first | assumption | (repeat' (first | assumption | exact hu_same | exact Ne.symm (by assumption) | apply hu_n1))) rfl ⟨Nat.le_of_ble_eq_true rfl, Nat.le_of_ble_eq_true rfl⟩ (Nat.le_of_ble_eq_true rfl) ⟨Nat.le_of_ble_eq_true rfl, Nat.le_of_ble_eq_true rfl⟩ ?_
            refine g_bipush (v := 8) dX1_addOrder_47 (by decide) ?_
            refine g_icmp_lt (tgt := 55) dX1_addOrder_49 (by decide) (fun c6 => ?_) (fun c6 => ?_)
            · skip
              have hbb : (decide (nI no < 60) && decide (nI (cntN (fun o => decide (od r o 4 = 0)) no) < 8)) = true := by rw [decide_eq_true hlim, decide_eq_true c6]; rfl
              refine g_aload_n dX1_addOrder_55 (by rfl) (by first | exact isRf_r | exact isRf_n | exact isRf_o | assumption) ?_
              refine g_dup dX1_addOrder_56 (by rfl) ?_
              refine g_getf dX1_addOrder_57 fX1_53 (by first | assumption | (repeat' (first | assumption | exact hu_same | exact Ne.symm (by assumption) | apply hu_n1))) (by rfl) ?_
              refine g_iconst (v := 1) dX1_addOrder_60 (by decide) ?_
              refine g_iadd dX1_addOrder_61 ?_
              refine g_putf (ty := .int) dX1_addOrder_62 fX1_53 (by decide +kernel) (by rfl) (by rfl) (by first | assumption | (repeat' (first | assumption | exact hu_same | exact Ne.symm (by assumption) | apply hu_n1))) (by exact Nat.le_of_ble_eq_true rfl) ?_
              refine g_gen (fun h1 e1 => ?_)
              have f1 : ∀ q, q ≠ A 0 → h1 q = h q := fun q n => by rw [e1, hu_ne n]
              have hno6 : no < 60 := (nI_ltI (b := 60) (by omega) (by omega)).mp hlim
              rw [nI_1] at e1
              have k0 : h1 (A 0) = some (ob 1 [.ref (A 1), .ref (A 2), .ref (A 3), .int (nI nv), .int (nI nl), .int (nI (no + 1)), .int (r 10), .ref (A 4), .ref (A 5), .ref (A 6)]) := by rw [e1]; exact hu_same
              have k3 := (f1 (A 3) (hI.ne (by omega) (by omega) (by omega))).trans a3
              have H1 : HouseAt X h1 A (upd r 9 (r 9 + 1)) := by
                rw [e1]
                refine HouseAt.fld hI hA ?_ (fun p _ _ n _ => upd_n n)
                rw [hob_9, e7, e8, e9, nI_1]
                rfl
              have aon : OrdAt X h1 (A (74 + 2 * no)) (A (75 + 2 * no)) (od r no) := (ao no (by omega)).kept (f1 _ (hI.ne (by omega) (by omega) (by omega))) (f1 _ (hI.ne (by omega) (by omega) (by omega)))
              refine g_aload_n dX1_addOrder_65 (by rfl) (by first | exact isRf_r | exact isRf_n | exact isRf_o | assumption) ?_
              refine g_aload_n dX1_addOrder_66 (by rfl) (by first | exact isRf_r | exact isRf_n | exact isRf_o | assumption) ?_
              refine g_getf dX1_addOrder_67 fX1_53 (by first | assumption | (repeat' (first | assumption | exact hu_same | exact Ne.symm (by assumption) | apply hu_n1))) (by rfl) ?_
              refine g_iconst (v := 1) dX1_addOrder_70 (by decide) ?_
              refine g_isub dX1_addOrder_71 ?_
              rw [nI_pred]
              refine g_cV1x dX1_addOrder_72 lX1_161 vX1_findOrder (ct_findOrder X (n := no + 1) (by omega) k0 k3 (Nat.lt_succ_self no) (oaR_j (by omega))) (by first | assumption | (repeat' (first | assumption | exact hu_same | exact Ne.symm (by assumption) | apply hu_n1))) rfl ⟨Nat.le_of_ble_eq_true rfl, Nat.le_of_ble_eq_true rfl⟩ (Nat.le_of_ble_eq_true rfl) ⟨Nat.le_of_ble_eq_true rfl, Nat.le_of_ble_eq_true rfl⟩ ?_
              refine g_astore (L1 := [(0, _), (1, _), (2, _), (3, _), (4, _), (5, _)]) dX1_addOrder_75 (by first | exact isRf_r | exact isRf_n | exact isRf_o | assumption) (by decide) (by rfl) ?_
              refine g_aload dX1_addOrder_77 (by rfl) (by first | exact isRf_r | exact isRf_n | exact isRf_o | assumption) ?_
              refine g_ifnull (tgt := 92) dX1_addOrder_79 (by decide) (by first | exact isRf_r | exact isRf_n | exact isRf_o | assumption) (fun c7 => nomatch c7) (fun c7 => ?_)
              refine g_aload dX1_addOrder_82 (by rfl) (by first | exact isRf_r | exact isRf_n | exact isRf_o | assumption) ?_
              refine g_iload_n dX1_addOrder_84 (by rfl) ?_
              refine g_iload_n dX1_addOrder_85 (by rfl) ?_
              refine g_iload_n dX1_addOrder_86 (by rfl) ?_
              refine g_iload dX1_addOrder_87 (by rfl) ?_
              obtain ⟨m1, m2⟩ := id aon
              unfold ordC at m1
              refine g_cV4 dX1_addOrder_89 lX1_165 vX3_ask (ct_X3_ask X aon) (by first | assumption | (repeat' (first | assumption | exact hu_same | exact Ne.symm (by assumption) | apply hu_n1))) rfl ⟨Nat.le_of_ble_eq_true rfl, Nat.le_of_ble_eq_true rfl⟩ (Nat.le_of_ble_eq_true rfl) ⟨Nat.le_of_ble_eq_true rfl, Nat.le_of_ble_eq_true rfl⟩ ?_
              rintro _ h2 ⟨rfl, ko, kf⟩
              refine g_stk (st' := []) rfl ?_
              have k00 : h2 (A 0) = _ := (kf _ (hI.ne (by omega) (by omega) (by omega))).trans k0
              refine g_aload_n dX1_addOrder_92 (by rfl) (by first | exact isRf_r | exact isRf_n | exact isRf_o | assumption) ?_
              refine g_getf dX1_addOrder_93 fX1_53 (by first | assumption | (repeat' (first | assumption | exact hu_same | exact Ne.symm (by assumption) | apply hu_n1))) (by rfl) ?_
              refine g_iconst (v := 1) dX1_addOrder_96 (by decide) ?_
              refine g_isub dX1_addOrder_97 ?_
              refine g_iret dX1_addOrder_98 rfl (Nat.le_refl _) (Nat.le_refl _) ?_
              rw [nI_pred]
              refine fin_ok (x := nI no) (r2 := upd (upd (upd (upd (upd r (343 + 5 * no + 0) a) (343 + 5 * no + 1) b) (343 + 5 * no + 2) c) (343 + 5 * no + 3) d) 9 (r 9 + 1)) ?_ ?_ ?_
              · unfold F_order unsN
                rw [hb, e9, cl_nI (by omega), hbb]
                rfl
              · rw [upd_c (i := 343 + 5 * no + 3) (j := 9) (by omega), upd_c (i := 343 + 5 * no + 2) (j := 9) (by omega), upd_c (i := 343 + 5 * no + 1) (j := 9) (by omega), upd_c (i := 343 + 5 * no + 0) (j := 9) (by omega)]
                refine HouseAt.ord hI H1 (by omega) ko (fun q n1 n2 => kf q n2) (fun j hj => ?_) (fun p hp h9 => ?_)
                · rcases (show j = 0 ∨ j = 1 ∨ j = 2 ∨ j = 3 ∨ j = 4 by omega) with rfl | rfl | rfl | rfl | rfl
                  · show a = _
                    rw [upd_n (by omega), upd_n (by omega), upd_n (by omega), upd_s]
                  · show b = _
                    rw [upd_n (by omega), upd_n (by omega), upd_s]
                  · show c = _
                    rw [upd_n (by omega), upd_s]
                  · show d = _
                    rw [upd_s]
                  · show od r no 4 = _
                    rw [upd_n (by omega), upd_n (by omega), upd_n (by omega), upd_n (by omega), upd_n (by omega)]
                    rfl
                · refine Eq.symm ?_
                  rw [upd_n (by omega), upd_n (by omega), upd_n (by omega), upd_n (by omega)]
              · intro q hq
                rw [kf q (hq _ (by omega)), f1 q (hq _ (by omega))]
            · skip
              have hbb : (decide (nI no < 60) && decide (nI (cntN (fun o => decide (od r o 4 = 0)) no) < 8)) = false := by rw [decide_eq_false c6, Bool.and_false]
              refine g_bipush (v := (-3)) dX1_addOrder_52 (by decide) ?_
              refine g_iret dX1_addOrder_54 rfl (Nat.le_refl _) (Nat.le_refl _) ?_
              refine fin_err hA ?_
              unfold F_order unsN
              rw [hb, e9, cl_nI (by omega), hbb]
              rfl
        · skip
          have z : rngB 0 20000 d = false := by rw [← ask_rng]; exact decide_eq_false (bI_d0 _ c4)
          have hb : (rngB 0 20000 a && (rngB 0 20000 b && (rngB 0 20000 c && rngB 0 20000 d))) = false := by simp [z]
          refine g_iconst (v := (-1)) dX1_addOrder_29 (by decide) ?_
          refine g_iret dX1_addOrder_30 rfl (Nat.le_refl _) (Nat.le_refl _) ?_
          refine fin_err hA ?_
          unfold F_order
          rw [hb]
          rfl

set_option maxHeartbeats 4000000 in
set_option maxRecDepth 100000 in
theorem ct_X1_sellLot (X : Cx) {h : Hp} {A : Nat → Nat} {r : Nat → Int32} {lw ow : Int32}  (hI : InjA A) (hO : Ok r) (hA : HouseAt X h A r) : Ct X mX1_sellLot 3 0 0 [.ref (A 0), .int lw, .int ow] h (fun u h1 => u = some (.int (F_sell r lw ow).1) ∧ HouseAt X h1 A (F_sell r lw ow).2 ∧ ∀ q, outA A q → h1 q = h q) := by
  have hO0 := hO
  obtain ⟨nv, nl, no, hnv, hnl, hno, e7, e8, e9, hset, hvok, hvz, hlok, hlz, hok, hoz, hw⟩ := hO0
  have hA0 := hA
  obtain ⟨a0, a1, a2, a3, a4, a5, a6, av, al, ao⟩ := hA0
  unfold hobC at a0
  rw [e7, e8, e9] at a0
  have a61 := a6.1
  refine Ct.ofG vX1_sellLot.1.2.2.1 (Nat.le_of_ble_eq_true rfl) ?_
  show G X RX1 cX1_sellLot 5 (some .int) "sellLot" (Rm 3 0 0) (Fm X (fun u h1 => u = some (.int (F_sell r lw ow).1) ∧ HouseAt X h1 A (F_sell r lw ow).2 ∧ ∀ q, outA A q → h1 q = h q) 0 0) 0 0 0 [(0, .ref (A 0)), (1, .int lw), (2, .int ow)] [] h
  refine g_aload_n dX1_sellLot_0 (by rfl) (by first | exact isRf_r | exact isRf_n | exact isRf_o | assumption) ?_
  refine g_iload_n dX1_sellLot_1 (by rfl) ?_
  by_cases hvj : ∃ j, j < nl ∧ lw = nI j
  · skip
    obtain ⟨j, hj, rfl⟩ := hvj
    have alj := al j (by omega)
    obtain ⟨l1, l2, l3⟩ := alj
    unfold lotC at l1
    refine g_cV1x dX1_sellLot_2 lX1_118 vX1_findLot (ct_findLot X (by omega) a0 a2 hj (laR_j (by omega))) (by first | assumption | (repeat' (first | assumption | exact hu_same | exact Ne.symm (by assumption) | apply hu_n1))) rfl ⟨Nat.le_of_ble_eq_true rfl, Nat.le_of_ble_eq_true rfl⟩ (Nat.le_of_ble_eq_true rfl) ⟨Nat.le_of_ble_eq_true rfl, Nat.le_of_ble_eq_true rfl⟩ ?_
    refine g_astore_n (L1 := [(0, _), (1, _), (2, _), (3, _)]) dX1_sellLot_5 (by first | exact isRf_r | exact isRf_n | exact isRf_o | assumption) (by decide) (by rfl) ?_
    refine g_aload_n dX1_sellLot_6 (by rfl) (by first | exact isRf_r | exact isRf_n | exact isRf_o | assumption) ?_
    refine g_iload_n dX1_sellLot_7 (by rfl) ?_
    by_cases hvi : ∃ j, j < no ∧ ow = nI j
    · skip
      obtain ⟨i, hi, rfl⟩ := hvi
      have aoi := ao i (by omega)
      obtain ⟨o1, o2⟩ := aoi
      unfold ordC at o1
      refine g_cV1x dX1_sellLot_8 lX1_161 vX1_findOrder (ct_findOrder X (by omega) a0 a3 hi (oaR_j (by omega))) (by first | assumption | (repeat' (first | assumption | exact hu_same | exact Ne.symm (by assumption) | apply hu_n1))) rfl ⟨Nat.le_of_ble_eq_true rfl, Nat.le_of_ble_eq_true rfl⟩ (Nat.le_of_ble_eq_true rfl) ⟨Nat.le_of_ble_eq_true rfl, Nat.le_of_ble_eq_true rfl⟩ ?_
      refine g_astore (L1 := [(0, _), (1, _), (2, _), (3, _), (4, _)]) dX1_sellLot_11 (by first | exact isRf_r | exact isRf_n | exact isRf_o | assumption) (by decide) (by rfl) ?_
      refine g_aload_n dX1_sellLot_13 (by rfl) (by first | exact isRf_r | exact isRf_n | exact isRf_o | assumption) ?_
      refine g_ifnull (tgt := 22) dX1_sellLot_14 (by decide) (by first | exact isRf_r | exact isRf_n | exact isRf_o | assumption) (fun c1 => nomatch c1) (fun c1 => ?_)
      refine g_aload dX1_sellLot_17 (by rfl) (by first | exact isRf_r | exact isRf_n | exact isRf_o | assumption) ?_
      refine g_ifnonnull (tgt := 24) dX1_sellLot_19 (by decide) (by first | exact isRf_r | exact isRf_n | exact isRf_o | assumption) (fun c2 => ?_) (fun c2 => nomatch c2)
      have nlo : A (14 + 3 * j) ≠ A (74 + 2 * i) := hI.ne (by omega) (by omega) (by omega)
      refine g_aload_n dX1_sellLot_24 (by rfl) (by first | exact isRf_r | exact isRf_n | exact isRf_o | assumption) ?_
      refine g_cV0x dX1_sellLot_25 lX1_128 vX2_isSold (ct_X2_isSold X (al j (by omega))) (by first | assumption | (repeat' (first | assumption | exact hu_same | exact Ne.symm (by assumption) | apply hu_n1))) rfl ⟨Nat.le_of_ble_eq_true rfl, Nat.le_of_ble_eq_true rfl⟩ (Nat.le_of_ble_eq_true rfl) ⟨Nat.le_of_ble_eq_true rfl, Nat.le_of_ble_eq_true rfl⟩ ?_
      refine g_if_ne (tgt := 59) dX1_sellLot_28 (by decide) (fun c3 => ?_) (fun c3 => ?_)
      · skip
        have hb : (sold r j || (!hangs r j || (decide (¬ od r i 4 = 0) || !fitB (ltx r j) (od r i) r))) = true := by simp [sold, bI_d1 _ c3]
        refine g_bipush (v := (-2)) dX1_sellLot_59 (by decide) ?_
        refine g_iret dX1_sellLot_61 rfl (Nat.le_refl _) (Nat.le_refl _) ?_
        refine fin_err hA ?_
        unfold F_sell
        rw [e8, e9, okB_t hj (by omega), okB_t hi (by omega), cl_nI (by omega), cl_nI (by omega), hb]
        rfl
      · skip
        have hs := bI_d0 _ c3
        have hs2 : ltx r j 13 = 0 := Classical.byContradiction (fun q => hs q)
        refine g_aload_n dX1_sellLot_31 (by rfl) (by first | exact isRf_r | exact isRf_n | exact isRf_o | assumption) ?_
        refine g_getf dX1_sellLot_32 fX1_132 (by first | assumption | (repeat' (first | assumption | exact hu_same | exact Ne.symm (by assumption) | apply hu_n1))) (by rfl) ?_
        refine g_if_eq (tgt := 59) dX1_sellLot_35 (by decide) (fun c4 => ?_) (fun c4 => ?_)
        · skip
          have hb : (sold r j || (!hangs r j || (decide (¬ od r i 4 = 0) || !fitB (ltx r j) (od r i) r))) = true := by simp [hangs, c4]
          refine g_bipush (v := (-2)) dX1_sellLot_59 (by decide) ?_
          refine g_iret dX1_sellLot_61 rfl (Nat.le_refl _) (Nat.le_refl _) ?_
          refine fin_err hA ?_
          unfold F_sell
          rw [e8, e9, okB_t hj (by omega), okB_t hi (by omega), cl_nI (by omega), cl_nI (by omega), hb]
          rfl
        · skip
          have hh := c4
          refine g_aload dX1_sellLot_38 (by rfl) (by first | exact isRf_r | exact isRf_n | exact isRf_o | assumption) ?_
          refine g_getf dX1_sellLot_40 fX1_169 (by first | assumption | (repeat' (first | assumption | exact hu_same | exact Ne.symm (by assumption) | apply hu_n1))) (by rfl) ?_
          refine g_if_ne (tgt := 59) dX1_sellLot_43 (by decide) (fun c5 => ?_) (fun c5 => ?_)
          · skip
            have hb : (sold r j || (!hangs r j || (decide (¬ od r i 4 = 0) || !fitB (ltx r j) (od r i) r))) = true := by simp [c5]
            refine g_bipush (v := (-2)) dX1_sellLot_59 (by decide) ?_
            refine g_iret dX1_sellLot_61 rfl (Nat.le_refl _) (Nat.le_refl _) ?_
            refine fin_err hA ?_
            unfold F_sell
            rw [e8, e9, okB_t hj (by omega), okB_t hi (by omega), cl_nI (by omega), cl_nI (by omega), hb]
            rfl
          · skip
            have hsv := c5
            refine g_aload dX1_sellLot_46 (by rfl) (by first | exact isRf_r | exact isRf_n | exact isRf_o | assumption) ?_
            refine g_aload_n dX1_sellLot_48 (by rfl) (by first | exact isRf_r | exact isRf_n | exact isRf_o | assumption) ?_
            refine g_aload_n dX1_sellLot_49 (by rfl) (by first | exact isRf_r | exact isRf_n | exact isRf_o | assumption) ?_
            refine g_getf dX1_sellLot_50 fX1_39 (by first | assumption | (repeat' (first | assumption | exact hu_same | exact Ne.symm (by assumption) | apply hu_n1))) (by rfl) ?_
            refine g_cV2x dX1_sellLot_53 lX1_172 vX3_isFittedBy (ct_X3_isFittedBy X fitB_i (hlok j hj).pos (ao i (by omega)) (al j (by omega)) a6) (by first | assumption | (repeat' (first | assumption | exact hu_same | exact Ne.symm (by assumption) | apply hu_n1))) rfl ⟨Nat.le_of_ble_eq_true rfl, Nat.le_of_ble_eq_true rfl⟩ (Nat.le_of_ble_eq_true rfl) ⟨Nat.le_of_ble_eq_true rfl, Nat.le_of_ble_eq_true rfl⟩ ?_
            refine g_if_ne (tgt := 62) dX1_sellLot_56 (by decide) (fun c6 => ?_) (fun c6 => ?_)
            · skip
              have hb : (sold r j || (!hangs r j || (decide (¬ od r i 4 = 0) || !fitB (ltx r j) (od r i) r))) = false := by simp [sold, hangs, hs2, hh, hsv, bI_1 c6]
              refine g_aload_n dX1_sellLot_62 (by rfl) (by first | exact isRf_r | exact isRf_n | exact isRf_o | assumption) ?_
              refine g_iload_n dX1_sellLot_63 (by rfl) ?_
              refine g_putf (ty := .int) dX1_sellLot_64 fX1_176 (by decide +kernel) (by rfl) (by rfl) (by first | assumption | (repeat' (first | assumption | exact hu_same | exact Ne.symm (by assumption) | apply hu_n1))) (by exact Nat.le_of_ble_eq_true rfl) ?_
              refine g_aload_n dX1_sellLot_67 (by rfl) (by first | exact isRf_r | exact isRf_n | exact isRf_o | assumption) ?_
              refine g_iconst (v := 0) dX1_sellLot_68 (by decide) ?_
              refine g_putf (ty := .boolean) dX1_sellLot_69 fX1_132 (by decide +kernel) (by decide) (by decide) (by first | assumption | (repeat' (first | assumption | exact hu_same | exact Ne.symm (by assumption) | apply hu_n1))) (by exact Nat.le_of_ble_eq_true rfl) ?_
              refine g_aload dX1_sellLot_72 (by rfl) (by first | exact isRf_r | exact isRf_n | exact isRf_o | assumption) ?_
              refine g_iconst (v := 1) dX1_sellLot_74 (by decide) ?_
              refine g_putf (ty := .boolean) dX1_sellLot_75 fX1_169 (by decide +kernel) (by decide) (by decide) (by first | assumption | (repeat' (first | assumption | exact hu_same | exact Ne.symm (by assumption) | apply hu_n1))) (by exact Nat.le_of_ble_eq_true rfl) ?_
              refine g_aload_n dX1_sellLot_78 (by rfl) (by first | exact isRf_r | exact isRf_n | exact isRf_o | assumption) ?_
              refine g_getf dX1_sellLot_79 fX1_125 (by first | assumption | (repeat' (first | assumption | exact hu_same | exact Ne.symm (by assumption) | apply hu_n1))) (by rfl) ?_
              refine g_iret dX1_sellLot_82 rfl (Nat.le_refl _) (Nat.le_refl _) ?_
              refine fin_ok (x := ltx r j 1) (r2 := upd (upd (upd r (43 + 15 * j + 13) (nI i + 1)) (43 + 15 * j + 10) 0) (343 + 5 * i + 4) 1) ?_ ?_ ?_
              · unfold F_sell
                rw [e8, e9, okB_t hj (by omega), okB_t hi (by omega), cl_nI (by omega), cl_nI (by omega), hb]
                rfl
              · rw [hu_hu]
                have H1 : HouseAt X (hu h (A (14 + 3 * j)) (ob 2 [.int (ltx r j 0), .int (ltx r j 1), .int 0, .int (ltx r j 11), .int (ltx r j 12), .int (nI i), .int (ltx r j 14), .ref (A (15 + 3 * j)), .ref (A (16 + 3 * j))])) A (upd (upd r (43 + 15 * j + 13) (nI i + 1)) (43 + 15 * j + 10) 0) := by
                  refine HouseAt.lotU hI hA (by omega) ?_ (fun k h1 h2 => ((upd_n (by omega)).trans (upd_n (by omega))).symm) (fun p hp h9 => ((upd_n (by omega)).trans (upd_n (by omega))).symm)
                  have q : ∀ k, k < 15 → k ≠ 10 → k ≠ 13 → ltx (upd (upd r (43 + 15 * j + 13) (nI i + 1)) (43 + 15 * j + 10) 0) j k = ltx r j k := fun k h1 h2 h3 => (upd_n (by omega)).trans (upd_n (by omega))
                  have q1 : ltx (upd (upd r (43 + 15 * j + 13) (nI i + 1)) (43 + 15 * j + 10) 0) j 10 = 0 := upd_s
                  have q2 : ltx (upd (upd r (43 + 15 * j + 13) (nI i + 1)) (43 + 15 * j + 10) 0) j 13 = nI i + 1 := (upd_n (by omega)).trans upd_s
                  unfold lotC
                  rw [q1, q2, nI_s1, q 0 (by omega) (by omega) (by omega), q 1 (by omega) (by omega) (by omega), q 11 (by omega) (by omega) (by omega), q 12 (by omega) (by omega) (by omega), q 14 (by omega) (by omega) (by omega)]
                obtain ⟨-, -, -, -, -, -, -, -, -, po⟩ := id H1
                obtain ⟨p1, p2⟩ := po i (by omega)
                refine HouseAt.ord (x := upd (od (upd (upd r (43 + 15 * j + 13) (nI i + 1)) (43 + 15 * j + 10) 0) i) 4 1) hI H1 (by omega) ⟨?_, ?_⟩ (fun q n1 n2 => hu_ne n1) (fun k hk => ?_) (fun p hp h9 => (upd_n (by omega)).symm)
                · exact hu_same
                · refine (hu_ne (hI.ne (by omega) (by omega) (by omega))).trans (p2.trans ?_)
                  congr 2
                  exact nr_ext (fun k hk => (upd_n (by omega)).symm)
                · by_cases e : k = 4
                  · subst e; rw [upd_s]; exact upd_s.symm
                  · rw [upd_n e, upd_n (k := 343 + 5 * i + 4) (by omega)]
                    rfl
              · intro q hq
                rw [hu_ne (hq _ (by omega)), hu_ne (hq _ (by omega)), hu_ne (hq _ (by omega))]
            · skip
              have hb : (sold r j || (!hangs r j || (decide (¬ od r i 4 = 0) || !fitB (ltx r j) (od r i) r))) = true := by simp [bI_0 c6]
              refine g_bipush (v := (-2)) dX1_sellLot_59 (by decide) ?_
              refine g_iret dX1_sellLot_61 rfl (Nat.le_refl _) (Nat.le_refl _) ?_
              refine fin_err hA ?_
              unfold F_sell
              rw [e8, e9, okB_t hj (by omega), okB_t hi (by omega), cl_nI (by omega), cl_nI (by omega), hb]
              rfl
    · skip
      refine g_cV1x dX1_sellLot_8 lX1_161 vX1_findOrder (ct_findOrderN X (by omega) a0 a3 hvi) (by first | assumption | (repeat' (first | assumption | exact hu_same | exact Ne.symm (by assumption) | apply hu_n1))) rfl ⟨Nat.le_of_ble_eq_true rfl, Nat.le_of_ble_eq_true rfl⟩ (Nat.le_of_ble_eq_true rfl) ⟨Nat.le_of_ble_eq_true rfl, Nat.le_of_ble_eq_true rfl⟩ ?_
      refine g_astore (L1 := [(0, _), (1, _), (2, _), (3, _), (4, _)]) dX1_sellLot_11 (by first | exact isRf_r | exact isRf_n | exact isRf_o | assumption) (by decide) (by rfl) ?_
      refine g_aload_n dX1_sellLot_13 (by rfl) (by first | exact isRf_r | exact isRf_n | exact isRf_o | assumption) ?_
      refine g_ifnull (tgt := 22) dX1_sellLot_14 (by decide) (by first | exact isRf_r | exact isRf_n | exact isRf_o | assumption) (fun c7 => nomatch c7) (fun c7 => ?_)
      refine g_aload dX1_sellLot_17 (by rfl) (by first | exact isRf_r | exact isRf_n | exact isRf_o | assumption) ?_
      refine g_ifnonnull (tgt := 24) dX1_sellLot_19 (by decide) (by first | exact isRf_r | exact isRf_n | exact isRf_o | assumption) (fun c8 => absurd rfl c8) (fun c8 => ?_)
      refine g_iconst (v := (-1)) dX1_sellLot_22 (by decide) ?_
      refine g_iret dX1_sellLot_23 rfl (Nat.le_refl _) (Nat.le_refl _) ?_
      refine fin_err hA ?_
      unfold F_sell
      first
        | (rw [e8, okB_f (by omega) hvj]; rfl)
        | (rw [e9, okB_f (by omega) hvi, Bool.and_false]; rfl)
  · skip
    refine g_cV1x dX1_sellLot_2 lX1_118 vX1_findLot (ct_findLotN X (by omega) a0 a2 hvj) (by first | assumption | (repeat' (first | assumption | exact hu_same | exact Ne.symm (by assumption) | apply hu_n1))) rfl ⟨Nat.le_of_ble_eq_true rfl, Nat.le_of_ble_eq_true rfl⟩ (Nat.le_of_ble_eq_true rfl) ⟨Nat.le_of_ble_eq_true rfl, Nat.le_of_ble_eq_true rfl⟩ ?_
    refine g_astore_n (L1 := [(0, _), (1, _), (2, _), (3, _)]) dX1_sellLot_5 (by first | exact isRf_r | exact isRf_n | exact isRf_o | assumption) (by decide) (by rfl) ?_
    refine g_aload_n dX1_sellLot_6 (by rfl) (by first | exact isRf_r | exact isRf_n | exact isRf_o | assumption) ?_
    refine g_iload_n dX1_sellLot_7 (by rfl) ?_
    by_cases hvi : ∃ j, j < no ∧ ow = nI j
    · skip
      obtain ⟨i, hi, rfl⟩ := hvi
      have aoi := ao i (by omega)
      obtain ⟨o1, o2⟩ := aoi
      unfold ordC at o1
      refine g_cV1x dX1_sellLot_8 lX1_161 vX1_findOrder (ct_findOrder X (by omega) a0 a3 hi (oaR_j (by omega))) (by first | assumption | (repeat' (first | assumption | exact hu_same | exact Ne.symm (by assumption) | apply hu_n1))) rfl ⟨Nat.le_of_ble_eq_true rfl, Nat.le_of_ble_eq_true rfl⟩ (Nat.le_of_ble_eq_true rfl) ⟨Nat.le_of_ble_eq_true rfl, Nat.le_of_ble_eq_true rfl⟩ ?_
      refine g_astore (L1 := [(0, _), (1, _), (2, _), (3, _), (4, _)]) dX1_sellLot_11 (by first | exact isRf_r | exact isRf_n | exact isRf_o | assumption) (by decide) (by rfl) ?_
      refine g_aload_n dX1_sellLot_13 (by rfl) (by first | exact isRf_r | exact isRf_n | exact isRf_o | assumption) ?_
      refine g_ifnull (tgt := 22) dX1_sellLot_14 (by decide) (by first | exact isRf_r | exact isRf_n | exact isRf_o | assumption) (fun c9 => ?_) (fun c9 => absurd rfl c9)
      refine g_iconst (v := (-1)) dX1_sellLot_22 (by decide) ?_
      refine g_iret dX1_sellLot_23 rfl (Nat.le_refl _) (Nat.le_refl _) ?_
      refine fin_err hA ?_
      unfold F_sell
      first
        | (rw [e8, okB_f (by omega) hvj]; rfl)
        | (rw [e9, okB_f (by omega) hvi, Bool.and_false]; rfl)
    · skip
      refine g_cV1x dX1_sellLot_8 lX1_161 vX1_findOrder (ct_findOrderN X (by omega) a0 a3 hvi) (by first | assumption | (repeat' (first | assumption | exact hu_same | exact Ne.symm (by assumption) | apply hu_n1))) rfl ⟨Nat.le_of_ble_eq_true rfl, Nat.le_of_ble_eq_true rfl⟩ (Nat.le_of_ble_eq_true rfl) ⟨Nat.le_of_ble_eq_true rfl, Nat.le_of_ble_eq_true rfl⟩ ?_
      refine g_astore (L1 := [(0, _), (1, _), (2, _), (3, _), (4, _)]) dX1_sellLot_11 (by first | exact isRf_r | exact isRf_n | exact isRf_o | assumption) (by decide) (by rfl) ?_
      refine g_aload_n dX1_sellLot_13 (by rfl) (by first | exact isRf_r | exact isRf_n | exact isRf_o | assumption) ?_
      refine g_ifnull (tgt := 22) dX1_sellLot_14 (by decide) (by first | exact isRf_r | exact isRf_n | exact isRf_o | assumption) (fun c10 => ?_) (fun c10 => absurd rfl c10)
      refine g_iconst (v := (-1)) dX1_sellLot_22 (by decide) ?_
      refine g_iret dX1_sellLot_23 rfl (Nat.le_refl _) (Nat.le_refl _) ?_
      refine fin_err hA ?_
      unfold F_sell
      first
        | (rw [e8, okB_f (by omega) hvj]; rfl)
        | (rw [e9, okB_f (by omega) hvi, Bool.and_false]; rfl)

noncomputable def F_work (kc : Nat) (r : Nat → Int32) (a b : Int32) : Int32 × (Nat → Int32) := match kc with
  | 100 => F_dip r a b
  | 101 => F_drain r a
  | 104 => F_hang r a b
  | 114 => F_rinse r a
  | 115 => F_sell r a b
  | 116 => F_take r a
  | _ => (-1, r)

set_option maxHeartbeats 4000000 in
set_option maxRecDepth 100000 in
theorem ct_X1_doWork100 (X : Cx) {h : Hp} {A : Nat → Nat} {r : Nat → Int32} {a b : Int32}  (hI : InjA A) (hO : Ok r) (hA : HouseAt X h A r) : Ct X mX1_doWork 4 0 0 [.ref (A 0), .int (nI 100), .int a, .int b] h (fun u h1 => u = some (.int (F_work 100 r a b).1) ∧ HouseAt X h1 A (F_work 100 r a b).2 ∧ ∀ q, outA A q → h1 q = h q) := by
  have a0 := hA.1
  refine Ct.ofG vX1_doWork.1.2.2.1 (Nat.le_of_ble_eq_true rfl) ?_
  show G X RX1 cX1_doWork 4 (some .int) "doWork" (Rm 4 0 0) (Fm X (fun u h1 => u = some (.int (F_work 100 r a b).1) ∧ HouseAt X h1 A (F_work 100 r a b).2 ∧ ∀ q, outA A q → h1 q = h q) 0 0) 0 0 0 [(0, .ref (A 0)), (1, .int (nI 100)), (2, .int a), (3, .int b)] [] h
  refine g_iload_n dX1_doWork_0 (by rfl) ?_
  refine g_tableIn (tgt := 84) (off := 83) dX1_doWork_1 (by decide) (by decide) (by decide) (by decide) ?_
  refine g_aload_n dX1_doWork_84 (by rfl) (by first | exact isRf_r | exact isRf_n | exact isRf_o | assumption) ?_
  refine g_iload_n dX1_doWork_85 (by rfl) ?_
  refine g_iload_n dX1_doWork_86 (by rfl) ?_
  refine g_cV2 dX1_doWork_87 lX1_179 vX1_dipLot (ct_X1_dipLot X hI hO hA) (by first | assumption | (repeat' (first | assumption | exact hu_same | exact Ne.symm (by assumption) | apply hu_n1))) rfl ⟨Nat.le_of_ble_eq_true rfl, Nat.le_of_ble_eq_true rfl⟩ (Nat.le_of_ble_eq_true rfl) ⟨Nat.le_of_ble_eq_true rfl, Nat.le_of_ble_eq_true rfl⟩ ?_
  rintro _ h2 ⟨rfl, kk, kf⟩
  refine g_stk (st' := [.int _]) rfl ?_
  refine g_iret dX1_doWork_90 rfl (Nat.le_refl _) (Nat.le_refl _) ?_
  exact ⟨rfl, kk, kf⟩

set_option maxHeartbeats 4000000 in
set_option maxRecDepth 100000 in
theorem ct_X1_doWork101 (X : Cx) {h : Hp} {A : Nat → Nat} {r : Nat → Int32} {a b : Int32}  (hI : InjA A) (hO : Ok r) (hA : HouseAt X h A r) : Ct X mX1_doWork 4 0 0 [.ref (A 0), .int (nI 101), .int a, .int b] h (fun u h1 => u = some (.int (F_work 101 r a b).1) ∧ HouseAt X h1 A (F_work 101 r a b).2 ∧ ∀ q, outA A q → h1 q = h q) := by
  have a0 := hA.1
  refine Ct.ofG vX1_doWork.1.2.2.1 (Nat.le_of_ble_eq_true rfl) ?_
  show G X RX1 cX1_doWork 4 (some .int) "doWork" (Rm 4 0 0) (Fm X (fun u h1 => u = some (.int (F_work 101 r a b).1) ∧ HouseAt X h1 A (F_work 101 r a b).2 ∧ ∀ q, outA A q → h1 q = h q) 0 0) 0 0 0 [(0, .ref (A 0)), (1, .int (nI 101)), (2, .int a), (3, .int b)] [] h
  refine g_iload_n dX1_doWork_0 (by rfl) ?_
  refine g_tableIn (tgt := 110) (off := 109) dX1_doWork_1 (by decide) (by decide) (by decide) (by decide) ?_
  refine g_aload_n dX1_doWork_110 (by rfl) (by first | exact isRf_r | exact isRf_n | exact isRf_o | assumption) ?_
  refine g_iload_n dX1_doWork_111 (by rfl) ?_
  refine g_cV1 dX1_doWork_112 lX1_192 vX1_drainVat (ct_X1_drainVat X hI hO hA) (by first | assumption | (repeat' (first | assumption | exact hu_same | exact Ne.symm (by assumption) | apply hu_n1))) rfl ⟨Nat.le_of_ble_eq_true rfl, Nat.le_of_ble_eq_true rfl⟩ (Nat.le_of_ble_eq_true rfl) ⟨Nat.le_of_ble_eq_true rfl, Nat.le_of_ble_eq_true rfl⟩ ?_
  rintro _ h2 ⟨rfl, kk, kf⟩
  refine g_stk (st' := [.int _]) rfl ?_
  refine g_iret dX1_doWork_115 rfl (Nat.le_refl _) (Nat.le_refl _) ?_
  exact ⟨rfl, kk, kf⟩

set_option maxHeartbeats 4000000 in
set_option maxRecDepth 100000 in
theorem ct_X1_doWork104 (X : Cx) {h : Hp} {A : Nat → Nat} {r : Nat → Int32} {a b : Int32}  (hI : InjA A) (hO : Ok r) (hA : HouseAt X h A r) : Ct X mX1_doWork 4 0 0 [.ref (A 0), .int (nI 104), .int a, .int b] h (fun u h1 => u = some (.int (F_work 104 r a b).1) ∧ HouseAt X h1 A (F_work 104 r a b).2 ∧ ∀ q, outA A q → h1 q = h q) := by
  have a0 := hA.1
  refine Ct.ofG vX1_doWork.1.2.2.1 (Nat.le_of_ble_eq_true rfl) ?_
  show G X RX1 cX1_doWork 4 (some .int) "doWork" (Rm 4 0 0) (Fm X (fun u h1 => u = some (.int (F_work 104 r a b).1) ∧ HouseAt X h1 A (F_work 104 r a b).2 ∧ ∀ q, outA A q → h1 q = h q) 0 0) 0 0 0 [(0, .ref (A 0)), (1, .int (nI 104)), (2, .int a), (3, .int b)] [] h
  refine g_iload_n dX1_doWork_0 (by rfl) ?_
  refine g_tableIn (tgt := 97) (off := 96) dX1_doWork_1 (by decide) (by decide) (by decide) (by decide) ?_
  refine g_aload_n dX1_doWork_97 (by rfl) (by first | exact isRf_r | exact isRf_n | exact isRf_o | assumption) ?_
  refine g_iload_n dX1_doWork_98 (by rfl) ?_
  refine g_iload_n dX1_doWork_99 (by rfl) ?_
  refine g_cV2 dX1_doWork_100 lX1_186 vX1_hangLot (ct_X1_hangLot X hI hO hA) (by first | assumption | (repeat' (first | assumption | exact hu_same | exact Ne.symm (by assumption) | apply hu_n1))) rfl ⟨Nat.le_of_ble_eq_true rfl, Nat.le_of_ble_eq_true rfl⟩ (Nat.le_of_ble_eq_true rfl) ⟨Nat.le_of_ble_eq_true rfl, Nat.le_of_ble_eq_true rfl⟩ ?_
  rintro _ h2 ⟨rfl, kk, kf⟩
  refine g_stk (st' := [.int _]) rfl ?_
  refine g_iret dX1_doWork_103 rfl (Nat.le_refl _) (Nat.le_refl _) ?_
  exact ⟨rfl, kk, kf⟩

set_option maxHeartbeats 4000000 in
set_option maxRecDepth 100000 in
theorem ct_X1_doWork114 (X : Cx) {h : Hp} {A : Nat → Nat} {r : Nat → Int32} {a b : Int32}  (hI : InjA A) (hO : Ok r) (hA : HouseAt X h A r) : Ct X mX1_doWork 4 0 0 [.ref (A 0), .int (nI 114), .int a, .int b] h (fun u h1 => u = some (.int (F_work 114 r a b).1) ∧ HouseAt X h1 A (F_work 114 r a b).2 ∧ ∀ q, outA A q → h1 q = h q) := by
  have a0 := hA.1
  refine Ct.ofG vX1_doWork.1.2.2.1 (Nat.le_of_ble_eq_true rfl) ?_
  show G X RX1 cX1_doWork 4 (some .int) "doWork" (Rm 4 0 0) (Fm X (fun u h1 => u = some (.int (F_work 114 r a b).1) ∧ HouseAt X h1 A (F_work 114 r a b).2 ∧ ∀ q, outA A q → h1 q = h q) 0 0) 0 0 0 [(0, .ref (A 0)), (1, .int (nI 114)), (2, .int a), (3, .int b)] [] h
  refine g_iload_n dX1_doWork_0 (by rfl) ?_
  refine g_tableIn (tgt := 91) (off := 90) dX1_doWork_1 (by decide) (by decide) (by decide) (by decide) ?_
  refine g_aload_n dX1_doWork_91 (by rfl) (by first | exact isRf_r | exact isRf_n | exact isRf_o | assumption) ?_
  refine g_iload_n dX1_doWork_92 (by rfl) ?_
  refine g_cV1 dX1_doWork_93 lX1_183 vX1_rinseLot (ct_X1_rinseLot X hI hO hA) (by first | assumption | (repeat' (first | assumption | exact hu_same | exact Ne.symm (by assumption) | apply hu_n1))) rfl ⟨Nat.le_of_ble_eq_true rfl, Nat.le_of_ble_eq_true rfl⟩ (Nat.le_of_ble_eq_true rfl) ⟨Nat.le_of_ble_eq_true rfl, Nat.le_of_ble_eq_true rfl⟩ ?_
  rintro _ h2 ⟨rfl, kk, kf⟩
  refine g_stk (st' := [.int _]) rfl ?_
  refine g_iret dX1_doWork_96 rfl (Nat.le_refl _) (Nat.le_refl _) ?_
  exact ⟨rfl, kk, kf⟩

set_option maxHeartbeats 4000000 in
set_option maxRecDepth 100000 in
theorem ct_X1_doWork115 (X : Cx) {h : Hp} {A : Nat → Nat} {r : Nat → Int32} {a b : Int32}  (hI : InjA A) (hO : Ok r) (hA : HouseAt X h A r) : Ct X mX1_doWork 4 0 0 [.ref (A 0), .int (nI 115), .int a, .int b] h (fun u h1 => u = some (.int (F_work 115 r a b).1) ∧ HouseAt X h1 A (F_work 115 r a b).2 ∧ ∀ q, outA A q → h1 q = h q) := by
  have a0 := hA.1
  refine Ct.ofG vX1_doWork.1.2.2.1 (Nat.le_of_ble_eq_true rfl) ?_
  show G X RX1 cX1_doWork 4 (some .int) "doWork" (Rm 4 0 0) (Fm X (fun u h1 => u = some (.int (F_work 115 r a b).1) ∧ HouseAt X h1 A (F_work 115 r a b).2 ∧ ∀ q, outA A q → h1 q = h q) 0 0) 0 0 0 [(0, .ref (A 0)), (1, .int (nI 115)), (2, .int a), (3, .int b)] [] h
  refine g_iload_n dX1_doWork_0 (by rfl) ?_
  refine g_tableIn (tgt := 116) (off := 115) dX1_doWork_1 (by decide) (by decide) (by decide) (by decide) ?_
  refine g_aload_n dX1_doWork_116 (by rfl) (by first | exact isRf_r | exact isRf_n | exact isRf_o | assumption) ?_
  refine g_iload_n dX1_doWork_117 (by rfl) ?_
  refine g_iload_n dX1_doWork_118 (by rfl) ?_
  refine g_cV2 dX1_doWork_119 lX1_195 vX1_sellLot (ct_X1_sellLot X hI hO hA) (by first | assumption | (repeat' (first | assumption | exact hu_same | exact Ne.symm (by assumption) | apply hu_n1))) rfl ⟨Nat.le_of_ble_eq_true rfl, Nat.le_of_ble_eq_true rfl⟩ (Nat.le_of_ble_eq_true rfl) ⟨Nat.le_of_ble_eq_true rfl, Nat.le_of_ble_eq_true rfl⟩ ?_
  rintro _ h2 ⟨rfl, kk, kf⟩
  refine g_stk (st' := [.int _]) rfl ?_
  refine g_iret dX1_doWork_122 rfl (Nat.le_refl _) (Nat.le_refl _) ?_
  exact ⟨rfl, kk, kf⟩

set_option maxHeartbeats 4000000 in
set_option maxRecDepth 100000 in
theorem ct_X1_doWork116 (X : Cx) {h : Hp} {A : Nat → Nat} {r : Nat → Int32} {a b : Int32}  (hI : InjA A) (hO : Ok r) (hA : HouseAt X h A r) : Ct X mX1_doWork 4 0 0 [.ref (A 0), .int (nI 116), .int a, .int b] h (fun u h1 => u = some (.int (F_work 116 r a b).1) ∧ HouseAt X h1 A (F_work 116 r a b).2 ∧ ∀ q, outA A q → h1 q = h q) := by
  have a0 := hA.1
  refine Ct.ofG vX1_doWork.1.2.2.1 (Nat.le_of_ble_eq_true rfl) ?_
  show G X RX1 cX1_doWork 4 (some .int) "doWork" (Rm 4 0 0) (Fm X (fun u h1 => u = some (.int (F_work 116 r a b).1) ∧ HouseAt X h1 A (F_work 116 r a b).2 ∧ ∀ q, outA A q → h1 q = h q) 0 0) 0 0 0 [(0, .ref (A 0)), (1, .int (nI 116)), (2, .int a), (3, .int b)] [] h
  refine g_iload_n dX1_doWork_0 (by rfl) ?_
  refine g_tableIn (tgt := 104) (off := 103) dX1_doWork_1 (by decide) (by decide) (by decide) (by decide) ?_
  refine g_aload_n dX1_doWork_104 (by rfl) (by first | exact isRf_r | exact isRf_n | exact isRf_o | assumption) ?_
  refine g_iload_n dX1_doWork_105 (by rfl) ?_
  refine g_cV1 dX1_doWork_106 lX1_189 vX1_takeDown (ct_X1_takeDown X hI hO hA) (by first | assumption | (repeat' (first | assumption | exact hu_same | exact Ne.symm (by assumption) | apply hu_n1))) rfl ⟨Nat.le_of_ble_eq_true rfl, Nat.le_of_ble_eq_true rfl⟩ (Nat.le_of_ble_eq_true rfl) ⟨Nat.le_of_ble_eq_true rfl, Nat.le_of_ble_eq_true rfl⟩ ?_
  rintro _ h2 ⟨rfl, kk, kf⟩
  refine g_stk (st' := [.int _]) rfl ?_
  refine g_iret dX1_doWork_109 rfl (Nat.le_refl _) (Nat.le_refl _) ?_
  exact ⟨rfl, kk, kf⟩

theorem ct_X1_doWork (X : Cx) {h : Hp} {A : Nat → Nat} {r : Nat → Int32} {a b : Int32} {kc : Nat} (hk : kc = 100 ∨ kc = 101 ∨ kc = 104 ∨ kc = 114 ∨ kc = 115 ∨ kc = 116) (hI : InjA A) (hO : Ok r) (hA : HouseAt X h A r) : Ct X mX1_doWork 4 0 0 [.ref (A 0), .int (nI kc), .int a, .int b] h (fun u h1 => u = some (.int (F_work kc r a b).1) ∧ HouseAt X h1 A (F_work kc r a b).2 ∧ ∀ q, outA A q → h1 q = h q) := by
  rcases hk with rfl | rfl | rfl | rfl | rfl | rfl
  · exact ct_X1_doWork100 X hI hO hA
  · exact ct_X1_doWork101 X hI hO hA
  · exact ct_X1_doWork104 X hI hO hA
  · exact ct_X1_doWork114 X hI hO hA
  · exact ct_X1_doWork115 X hI hO hA
  · exact ct_X1_doWork116 X hI hO hA
