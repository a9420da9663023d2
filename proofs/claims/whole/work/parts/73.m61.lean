theorem MdTo.fr {X : Cx} {h h1 h2 : Hp} {M : Nat → Nat} {r : Nat → Int32} {n tn : Nat} {rows : Nat → Nat → Int32} {tg : Nat → Int32} (k : MdTo X h1 h2 M r n rows tn tg) (f : ∀ q, outM M q → h1 q = h q) : MdTo X h h2 M r n rows tn tg := ⟨k.1, fun q hq => (k.2 q hq).trans (f q hq)⟩

set_option maxHeartbeats 4000000 in
set_option maxRecDepth 100000 in
theorem ct_X10_sells (X : Cx) {h : Hp} {a n1 : Nat} {r : Nat → Int32} {w : Int32} {z : Int32}  (hM : MoAt X h a n1 r) (hO : Ok r) : Ct X mX10_sells 4 0 0 [.ref a, .int w, .int z] h (Ex (.int (F_sell r w z).1) (hr X h n1 (F_sell r w z).2)) := by
  obtain ⟨⟨n2, st, n3, n4, le, n5, at0, lt, n6, fl, n7, m0⟩, m1⟩ := id hM
  unfold mdl at m0
  have dA := hM.ne
  obtain ⟨nv, nl, no, hnv, hnl, hno, e7, e8, e9, hset, hvok, hvz, hlok, hlz, hok, hoz, hw⟩ := id hO
  refine Ct.ofG vX10_sells.1.2.2.1 (Nat.le_of_ble_eq_true rfl) ?_
  show G X RX10 cX10_sells 3 (some .int) "sells" (Rm 4 0 0) (Fm X (Ex (.int (F_sell r w z).1) (hr X h n1 (F_sell r w z).2)) 0 0) 0 0 0 [(0, .ref a), (1, .int w), (2, .int z)] [] h
  refine g_aload_n dX10_sells_0 (by rfl) (by first | exact isRf_r | exact isRf_n | exact isRf_o | assumption) ?_
  refine g_iload_n dX10_sells_1 (by rfl) ?_
  refine g_cV1x dX10_sells_2 lX10_94 vX10_isLot (ct_X10_isLot X (n := nl) (by first | exact hM | exact hM.hr) (by omega) e8) (by first | exact m0 | exact hr_a dA m0) rfl ⟨Nat.le_of_ble_eq_true rfl, Nat.le_of_ble_eq_true rfl⟩ (Nat.le_of_ble_eq_true rfl) ⟨Nat.le_of_ble_eq_true rfl, Nat.le_of_ble_eq_true rfl⟩ ?_
  refine g_if_eq (tgt := 16) dX10_sells_5 (by decide) (fun c1 => ?_) (fun c1 => ?_)
  · skip
    have eF : F_sell r w z = (-1, r) := by
      unfold F_sell
      rw [e8, show okB (nI nl) w = false from bI_0 c1]
      rfl
    refine g_iconst (v := (-1)) dX10_sells_16 (by decide) ?_
    refine g_iret dX10_sells_17 rfl (Nat.le_refl _) (Nat.le_refl _) ?_
    rw [eF]
    first | exact Ex.i rfl rfl | exact Ex.i rfl (hr_id m1).symm
  · skip
    have hk : okB (nI nl) w = true := bI_1 c1
    obtain ⟨l, hl, rfl⟩ := okB_i (by omega) hk
    have cj : cl (nI l) = l := cl_nI (by omega)
    have hlo := hlok l hl
    have hl20 : l < 20 := by omega
    refine g_aload_n dX10_sells_8 (by rfl) (by first | exact isRf_r | exact isRf_n | exact isRf_o | assumption) ?_
    refine g_iload_n dX10_sells_9 (by rfl) ?_
    refine g_cV1x dX10_sells_10 lX10_147 vX10_isOrder (ct_X10_isOrder X (n := no) (by first | exact hM | exact hM.hr) (by omega) e9) (by first | exact m0 | exact hr_a dA m0) rfl ⟨Nat.le_of_ble_eq_true rfl, Nat.le_of_ble_eq_true rfl⟩ (Nat.le_of_ble_eq_true rfl) ⟨Nat.le_of_ble_eq_true rfl, Nat.le_of_ble_eq_true rfl⟩ ?_
    refine g_if_ne (tgt := 18) dX10_sells_13 (by decide) (fun c2 => ?_) (fun c2 => ?_)
    · skip
      have hko : okB (nI no) z = true := bI_1 c2
      obtain ⟨o, ho, rfl⟩ := okB_i (by omega) hko
      have co : cl (nI o) = o := cl_nI (by omega)
      have hob := hok o ho
      refine g_aload_n dX10_sells_18 (by rfl) (by first | exact isRf_r | exact isRf_n | exact isRf_o | assumption) ?_
      refine g_iload_n dX10_sells_19 (by rfl) ?_
      refine g_cV1x dX10_sells_20 lX10_97 vX10_isSold (ct_X10_isSold X (l := l) hM (by omega) hlo.s13) (by first | exact m0 | exact hr_a dA m0) rfl ⟨Nat.le_of_ble_eq_true rfl, Nat.le_of_ble_eq_true rfl⟩ (Nat.le_of_ble_eq_true rfl) ⟨Nat.le_of_ble_eq_true rfl, Nat.le_of_ble_eq_true rfl⟩ ?_
      refine g_if_ne (tgt := 53) dX10_sells_23 (by decide) (fun c3 => ?_) (fun c3 => ?_)
      · skip
        have eF : F_sell r (nI l) (nI o) = (-2, r) := by
          unfold F_sell
          rw [e8, e9, hk, hko, cj, show sold r l = true from bI_1 c3]
          rfl
        refine g_bipush (v := (-2)) dX10_sells_53 (by decide) ?_
        refine g_iret dX10_sells_55 rfl (Nat.le_refl _) (Nat.le_refl _) ?_
        rw [eF]
        first | exact Ex.i rfl rfl | exact Ex.i rfl (hr_id m1).symm
      · skip
        have hs0 := bI_0 c3
        refine g_aload_n dX10_sells_26 (by rfl) (by first | exact isRf_r | exact isRf_n | exact isRf_o | assumption) ?_
        refine g_iload_n dX10_sells_27 (by rfl) ?_
        refine g_cV1x dX10_sells_28 lX10_100 vX10_hangs (ct_X10_hangs X (l := l) hM (by omega) hlo.b10) (by first | exact m0 | exact hr_a dA m0) rfl ⟨Nat.le_of_ble_eq_true rfl, Nat.le_of_ble_eq_true rfl⟩ (Nat.le_of_ble_eq_true rfl) ⟨Nat.le_of_ble_eq_true rfl, Nat.le_of_ble_eq_true rfl⟩ ?_
        refine g_if_eq (tgt := 53) dX10_sells_31 (by decide) (fun c4 => ?_) (fun c4 => ?_)
        · skip
          have eF : F_sell r (nI l) (nI o) = (-2, r) := by
            unfold F_sell
            rw [e8, e9, hk, hko, cj, hs0, show hangs r l = false from bI_0 c4]
            rfl
          refine g_bipush (v := (-2)) dX10_sells_53 (by decide) ?_
          refine g_iret dX10_sells_55 rfl (Nat.le_refl _) (Nat.le_refl _) ?_
          rw [eF]
          first | exact Ex.i rfl rfl | exact Ex.i rfl (hr_id m1).symm
        · skip
          have hh0 := bI_1 c4
          refine g_aload_n dX10_sells_34 (by rfl) (by first | exact isRf_r | exact isRf_n | exact isRf_o | assumption) ?_
          refine g_iload_n dX10_sells_35 (by rfl) ?_
          refine g_iload_n dX10_sells_36 (by rfl) ?_
          refine g_cV2x dX10_sells_37 lX10_150 vX10_fits (ct_X10_fits X (l := l) (o := o) hM hl20 (by omega) hlo.pos) (by first | exact m0 | exact hr_a dA m0) rfl ⟨Nat.le_of_ble_eq_true rfl, Nat.le_of_ble_eq_true rfl⟩ (Nat.le_of_ble_eq_true rfl) ⟨Nat.le_of_ble_eq_true rfl, Nat.le_of_ble_eq_true rfl⟩ ?_
          refine g_if_eq (tgt := 53) dX10_sells_40 (by decide) (fun c5 => ?_) (fun c5 => ?_)
          · skip
            have eF : F_sell r (nI l) (nI o) = (-2, r) := by
              unfold F_sell
              rw [e8, e9, hk, hko, cj, co, hs0, hh0, show fitB (ltx r l) (od r o) r = false from bI_0 c5, Bool.not_false, Bool.or_true]
              rfl
            refine g_bipush (v := (-2)) dX10_sells_53 (by decide) ?_
            refine g_iret dX10_sells_55 rfl (Nat.le_refl _) (Nat.le_refl _) ?_
            rw [eF]
            first | exact Ex.i rfl rfl | exact Ex.i rfl (hr_id m1).symm
          · skip
            have hf0 : fitB (ltx r l) (od r o) r = true := bI_1 c5
            refine g_aload_n dX10_sells_43 (by rfl) (by first | exact isRf_r | exact isRf_n | exact isRf_o | assumption) ?_
            refine g_iload_n dX10_sells_44 (by rfl) ?_
            refine g_iconst (v := 4) dX10_sells_45 (by decide) ?_
            refine g_cV2x dX10_sells_46 lX10_134 vX10_orderNumber (ct_X10_orderNumber X (i := o) (k := 4) (by first | exact hM | exact hM.hr) (by omega)) (by first | exact m0 | exact hr_a dA m0) rfl ⟨Nat.le_of_ble_eq_true rfl, Nat.le_of_ble_eq_true rfl⟩ (Nat.le_of_ble_eq_true rfl) ⟨Nat.le_of_ble_eq_true rfl, Nat.le_of_ble_eq_true rfl⟩ ?_
            refine g_iconst (v := 1) dX10_sells_49 (by decide) ?_
            refine g_icmp_ne (tgt := 56) dX10_sells_50 (by decide) (fun c6 => ?_) (fun c6 => ?_)
            · skip
              have hv1 : ¬ ¬ od r o 4 = 0 := fun y => y (by
                rcases hob with u | u
                · exact u
                · exact absurd u c6)
              have eF : F_sell r (nI l) (nI o) = (ltx r l 1, upd (upd (upd r (43 + 15 * l + 13) (nI o + 1)) (43 + 15 * l + 10) 0) (343 + 5 * o + 4) 1) := by
                unfold F_sell
                rw [e8, e9, hk, hko, cj, co, hs0, hh0, decide_eq_false hv1, hf0]
                rfl
              refine g_aload_n dX10_sells_56 (by rfl) (by first | exact isRf_r | exact isRf_n | exact isRf_o | assumption) ?_
              refine g_iload_n dX10_sells_57 (by rfl) ?_
              refine g_bipush (v := 10) dX10_sells_58 (by decide) ?_
              refine g_iconst (v := 0) dX10_sells_60 (by decide) ?_
              refine g_cV3v dX10_sells_61 lX10_80 vX10_puts (ct_X10_puts X (i := l) (k := 10) (by first | exact hM | exact hM.hr) (by omega)) (by first | exact m0 | exact hr_a dA m0) rfl ⟨Nat.le_of_ble_eq_true rfl, Nat.le_of_ble_eq_true rfl⟩ (Nat.le_of_ble_eq_true rfl) ⟨Nat.le_of_ble_eq_true rfl, Nat.le_of_ble_eq_true rfl⟩ ?_
              try rw [hrr]
              refine g_aload_n dX10_sells_64 (by rfl) (by first | exact isRf_r | exact isRf_n | exact isRf_o | assumption) ?_
              refine g_iload_n dX10_sells_65 (by rfl) ?_
              refine g_bipush (v := 13) dX10_sells_66 (by decide) ?_
              refine g_iload_n dX10_sells_68 (by rfl) ?_
              refine g_iconst (v := 1) dX10_sells_69 (by decide) ?_
              refine g_iadd dX10_sells_70 ?_
              refine g_cV3v dX10_sells_71 lX10_80 vX10_puts (ct_X10_puts X (i := l) (k := 13) (by first | exact hM | exact hM.hr) (by omega)) (by first | exact m0 | exact hr_a dA m0) rfl ⟨Nat.le_of_ble_eq_true rfl, Nat.le_of_ble_eq_true rfl⟩ (Nat.le_of_ble_eq_true rfl) ⟨Nat.le_of_ble_eq_true rfl, Nat.le_of_ble_eq_true rfl⟩ ?_
              rw [hrr]
              refine g_aload_n dX10_sells_74 (by rfl) (by first | exact isRf_r | exact isRf_n | exact isRf_o | assumption) ?_
              refine g_getf dX10_sells_75 fX10_7 (by first | exact m0 | exact hr_a dA m0) (by rfl) ?_
              refine g_sipush (v := 343) dX10_sells_78 (by decide) ?_
              refine g_iconst (v := 5) dX10_sells_81 (by decide) ?_
              refine g_iload_n dX10_sells_82 (by rfl) ?_
              refine g_imul dX10_sells_83 ?_
              refine g_iadd dX10_sells_84 ?_
              refine g_iconst (v := 4) dX10_sells_85 (by decide) ?_
              refine g_iadd dX10_sells_86 ?_
              refine g_iconst (v := 1) dX10_sells_87 (by decide) ?_
              first | refine g_isH (343 + 5 * o + 4) dX10_sells_88 (by first | rfl | exact lin3 | exact lin3a | exact linA | exact linB) (by omega) ?_ | refine g_isM (343 + 5 * o + 4) dX10_sells_88 (by first | exact m1 | exact hr_n) (by first | rfl | exact lin3 | exact lin3a | exact linA | exact linB) (by omega) ?_
              refine g_aload_n dX10_sells_89 (by rfl) (by first | exact isRf_r | exact isRf_n | exact isRf_o | assumption) ?_
              refine g_iload_n dX10_sells_90 (by rfl) ?_
              refine g_iconst (v := 1) dX10_sells_91 (by decide) ?_
              refine g_cV2x dX10_sells_92 lX10_35 vX10_lotNumber (ct_X10_lotNumber X (i := l) (k := 1) (by first | exact hM | exact hM.hr) (by omega)) (by first | exact m0 | exact hr_a dA m0) rfl ⟨Nat.le_of_ble_eq_true rfl, Nat.le_of_ble_eq_true rfl⟩ (Nat.le_of_ble_eq_true rfl) ⟨Nat.le_of_ble_eq_true rfl, Nat.le_of_ble_eq_true rfl⟩ ?_
              rw [upd_n (by omega), upd_n (by omega), upd_n (by omega)]
              refine g_iret dX10_sells_95 rfl (Nat.le_refl _) (Nat.le_refl _) ?_
              rw [eF, show upd (upd (upd r (43 + 15 * l + 13) (nI o + 1)) (43 + 15 * l + 10) 0) (343 + 5 * o + 4) 1 = upd (upd (upd r (43 + 15 * l + 10) 0) (43 + 15 * l + 13) (nI o + 1)) (343 + 5 * o + 4) 1 from by rw [upd_c (i := 43 + 15 * l + 13) (j := 43 + 15 * l + 10) (by omega)]]
              exact Ex.i rfl rfl
            · skip
              have hv1 : ¬ od r o 4 = 0 := by
                rw [show od r o 4 = 1 from c6]
                decide
              have eF : F_sell r (nI l) (nI o) = (-2, r) := by
                unfold F_sell
                rw [e8, e9, hk, hko, cj, co, hs0, hh0, decide_eq_true hv1]
                rfl
              refine g_bipush (v := (-2)) dX10_sells_53 (by decide) ?_
              refine g_iret dX10_sells_55 rfl (Nat.le_refl _) (Nat.le_refl _) ?_
              rw [eF]
              first | exact Ex.i rfl rfl | exact Ex.i rfl (hr_id m1).symm
    · skip
      have eF : F_sell r (nI l) z = (-1, r) := by
        unfold F_sell
        rw [e8, e9, hk, show okB (nI no) z = false from bI_0 c2]
        rfl
      refine g_iconst (v := (-1)) dX10_sells_16 (by decide) ?_
      refine g_iret dX10_sells_17 rfl (Nat.le_refl _) (Nat.le_refl _) ?_
      rw [eF]
      first | exact Ex.i rfl rfl | exact Ex.i rfl (hr_id m1).symm

set_option maxHeartbeats 4000000 in
set_option maxRecDepth 100000 in
theorem ct_X10_drain (X : Cx) {h : Hp} {M : Nat → Nat} {r : Nat → Int32} {n tn : Nat} {rows : Nat → Nat → Int32} {tg : Nat → Int32} {w : Int32}  (hn : n ≤ 4) (hO : Ok r) (hD : MdAt X h M r n rows tn tg) : Ct X mX10_drain 3 0 0 [.ref (M 0), .int w] h (fun u h1 => u = some (.int (F_drain r w).1) ∧ MdTo X h h1 M (F_drain r w).2 (sysN (F_drain r w).1 n) (sysR (F_drain r w).1 n r rows) tn tg) := by
  obtain ⟨s0, hS⟩ := id hD
  have hM := hS.mo
  obtain ⟨⟨n2, st, n3, n4, le, n5, at0, lt, n6, fl, n7, m0⟩, m1⟩ := id hM
  unfold mdl at m0
  have dA := hM.ne
  refine Ct.ofG vX10_drain.1.2.2.1 (Nat.le_of_ble_eq_true rfl) ?_
  show G X RX10 cX10_drain 2 (some .int) "drain" (Rm 3 0 0) (Fm X (fun u h1 => u = some (.int (F_drain r w).1) ∧ MdTo X h h1 M (F_drain r w).2 (sysN (F_drain r w).1 n) (sysR (F_drain r w).1 n r rows) tn tg) 0 0) 0 0 0 [(0, .ref (M 0)), (1, .int w)] [] h
  refine g_aload_n dX10_drain_0 (by rfl) (by first | exact isRf_r | exact isRf_n | exact isRf_o | assumption) ?_
  refine g_cV0v dX10_drain_1 lX10_61 vX10_asides (ct_mAsides X hD).1 (by first | exact m0 | exact k0 | exact hr_a dA k0) rfl ⟨Nat.le_of_ble_eq_true rfl, Nat.le_of_ble_eq_true rfl⟩ (Nat.le_of_ble_eq_true rfl) ⟨Nat.le_of_ble_eq_true rfl, Nat.le_of_ble_eq_true rfl⟩ ?_
  have hS1 := (ct_mAsides X hD).2.1
  have hf1 := (ct_mAsides X hD).2.2
  generalize hu h (M 3) (oI X 643 (nr 643 r)) = hh at hS1 hf1 ⊢
  have hM1 := hS1.mo
  obtain ⟨⟨n2', st', n3', n4', le', n5', at0', lt', n6', fl', n7', k0⟩, k1⟩ := id hM1
  unfold mdl at k0
  refine g_aload_n dX10_drain_4 (by rfl) (by first | exact isRf_r | exact isRf_n | exact isRf_o | assumption) ?_
  refine g_aload_n dX10_drain_5 (by rfl) (by first | exact isRf_r | exact isRf_n | exact isRf_o | assumption) ?_
  refine g_iload_n dX10_drain_6 (by rfl) ?_
  refine g_cV1x dX10_drain_7 lX10_64 vX10_drains (ct_X10_drains X hM1 hO) (by first | exact m0 | exact k0 | exact hr_a dA k0) rfl ⟨Nat.le_of_ble_eq_true rfl, Nat.le_of_ble_eq_true rfl⟩ (Nat.le_of_ble_eq_true rfl) ⟨Nat.le_of_ble_eq_true rfl, Nat.le_of_ble_eq_true rfl⟩ ?_
  refine g_cV1 dX10_drain_10 lX10_68 vX10_done (ct_mDone X hn hS1.row) (by first | exact m0 | exact k0 | exact hr_a dA k0) rfl ⟨Nat.le_of_ble_eq_true rfl, Nat.le_of_ble_eq_true rfl⟩ (Nat.le_of_ble_eq_true rfl) ⟨Nat.le_of_ble_eq_true rfl, Nat.le_of_ble_eq_true rfl⟩ ?_
  rintro _ h2 ⟨rfl, hT⟩
  refine g_stk (st' := [.int _]) rfl ?_
  refine g_iret dX10_drain_13 rfl (Nat.le_refl _) (Nat.le_refl _) ?_
  exact ⟨rfl, hT.fr (fun q hq => (hr_out q hq).trans (hf1 q hq))⟩

set_option maxHeartbeats 4000000 in
set_option maxRecDepth 100000 in
theorem ct_X10_dip (X : Cx) {h : Hp} {M : Nat → Nat} {r : Nat → Int32} {n tn : Nat} {rows : Nat → Nat → Int32} {tg : Nat → Int32} {w z : Int32}  (hn : n ≤ 4) (hO : Ok r) (hD : MdAt X h M r n rows tn tg) : Ct X mX10_dip 5 0 0 [.ref (M 0), .int w, .int z] h (fun u h1 => u = some (.int (F_dip r w z).1) ∧ MdTo X h h1 M (F_dip r w z).2 (sysN (F_dip r w z).1 n) (sysR (F_dip r w z).1 n r rows) tn tg) := by
  obtain ⟨s0, hS⟩ := id hD
  have hM := hS.mo
  obtain ⟨⟨n2, st, n3, n4, le, n5, at0, lt, n6, fl, n7, m0⟩, m1⟩ := id hM
  unfold mdl at m0
  have dA := hM.ne
  refine Ct.ofG vX10_dip.1.2.2.1 (Nat.le_of_ble_eq_true rfl) ?_
  show G X RX10 cX10_dip 3 (some .int) "dip" (Rm 5 0 0) (Fm X (fun u h1 => u = some (.int (F_dip r w z).1) ∧ MdTo X h h1 M (F_dip r w z).2 (sysN (F_dip r w z).1 n) (sysR (F_dip r w z).1 n r rows) tn tg) 0 0) 0 0 0 [(0, .ref (M 0)), (1, .int w), (2, .int z)] [] h
  refine g_aload_n dX10_dip_0 (by rfl) (by first | exact isRf_r | exact isRf_n | exact isRf_o | assumption) ?_
  refine g_cV0v dX10_dip_1 lX10_61 vX10_asides (ct_mAsides X hD).1 (by first | exact m0 | exact k0 | exact hr_a dA k0) rfl ⟨Nat.le_of_ble_eq_true rfl, Nat.le_of_ble_eq_true rfl⟩ (Nat.le_of_ble_eq_true rfl) ⟨Nat.le_of_ble_eq_true rfl, Nat.le_of_ble_eq_true rfl⟩ ?_
  have hS1 := (ct_mAsides X hD).2.1
  have hf1 := (ct_mAsides X hD).2.2
  generalize hu h (M 3) (oI X 643 (nr 643 r)) = hh at hS1 hf1 ⊢
  have hM1 := hS1.mo
  obtain ⟨⟨n2', st', n3', n4', le', n5', at0', lt', n6', fl', n7', k0⟩, k1⟩ := id hM1
  unfold mdl at k0
  refine g_aload_n dX10_dip_4 (by rfl) (by first | exact isRf_r | exact isRf_n | exact isRf_o | assumption) ?_
  refine g_aload_n dX10_dip_5 (by rfl) (by first | exact isRf_r | exact isRf_n | exact isRf_o | assumption) ?_
  refine g_iload_n dX10_dip_6 (by rfl) ?_
  refine g_iload_n dX10_dip_7 (by rfl) ?_
  refine g_cV2x dX10_dip_8 lX10_106 vX10_dips (ct_X10_dips X hM1 hO) (by first | exact m0 | exact k0 | exact hr_a dA k0) rfl ⟨Nat.le_of_ble_eq_true rfl, Nat.le_of_ble_eq_true rfl⟩ (Nat.le_of_ble_eq_true rfl) ⟨Nat.le_of_ble_eq_true rfl, Nat.le_of_ble_eq_true rfl⟩ ?_
  refine g_cV1 dX10_dip_11 lX10_68 vX10_done (ct_mDone X hn hS1.row) (by first | exact m0 | exact k0 | exact hr_a dA k0) rfl ⟨Nat.le_of_ble_eq_true rfl, Nat.le_of_ble_eq_true rfl⟩ (Nat.le_of_ble_eq_true rfl) ⟨Nat.le_of_ble_eq_true rfl, Nat.le_of_ble_eq_true rfl⟩ ?_
  rintro _ h2 ⟨rfl, hT⟩
  refine g_stk (st' := [.int _]) rfl ?_
  refine g_iret dX10_dip_14 rfl (Nat.le_refl _) (Nat.le_refl _) ?_
  exact ⟨rfl, hT.fr (fun q hq => (hr_out q hq).trans (hf1 q hq))⟩

set_option maxHeartbeats 4000000 in
set_option maxRecDepth 100000 in
theorem ct_X10_rinse (X : Cx) {h : Hp} {M : Nat → Nat} {r : Nat → Int32} {n tn : Nat} {rows : Nat → Nat → Int32} {tg : Nat → Int32} {w : Int32}  (hn : n ≤ 4) (hO : Ok r) (hD : MdAt X h M r n rows tn tg) : Ct X mX10_rinse 3 0 0 [.ref (M 0), .int w] h (fun u h1 => u = some (.int (F_rinse r w).1) ∧ MdTo X h h1 M (F_rinse r w).2 (sysN (F_rinse r w).1 n) (sysR (F_rinse r w).1 n r rows) tn tg) := by
  obtain ⟨s0, hS⟩ := id hD
  have hM := hS.mo
  obtain ⟨⟨n2, st, n3, n4, le, n5, at0, lt, n6, fl, n7, m0⟩, m1⟩ := id hM
  unfold mdl at m0
  have dA := hM.ne
  refine Ct.ofG vX10_rinse.1.2.2.1 (Nat.le_of_ble_eq_true rfl) ?_
  show G X RX10 cX10_rinse 2 (some .int) "rinse" (Rm 3 0 0) (Fm X (fun u h1 => u = some (.int (F_rinse r w).1) ∧ MdTo X h h1 M (F_rinse r w).2 (sysN (F_rinse r w).1 n) (sysR (F_rinse r w).1 n r rows) tn tg) 0 0) 0 0 0 [(0, .ref (M 0)), (1, .int w)] [] h
  refine g_aload_n dX10_rinse_0 (by rfl) (by first | exact isRf_r | exact isRf_n | exact isRf_o | assumption) ?_
  refine g_cV0v dX10_rinse_1 lX10_61 vX10_asides (ct_mAsides X hD).1 (by first | exact m0 | exact k0 | exact hr_a dA k0) rfl ⟨Nat.le_of_ble_eq_true rfl, Nat.le_of_ble_eq_true rfl⟩ (Nat.le_of_ble_eq_true rfl) ⟨Nat.le_of_ble_eq_true rfl, Nat.le_of_ble_eq_true rfl⟩ ?_
  have hS1 := (ct_mAsides X hD).2.1
  have hf1 := (ct_mAsides X hD).2.2
  generalize hu h (M 3) (oI X 643 (nr 643 r)) = hh at hS1 hf1 ⊢
  have hM1 := hS1.mo
  obtain ⟨⟨n2', st', n3', n4', le', n5', at0', lt', n6', fl', n7', k0⟩, k1⟩ := id hM1
  unfold mdl at k0
  refine g_aload_n dX10_rinse_4 (by rfl) (by first | exact isRf_r | exact isRf_n | exact isRf_o | assumption) ?_
  refine g_aload_n dX10_rinse_5 (by rfl) (by first | exact isRf_r | exact isRf_n | exact isRf_o | assumption) ?_
  refine g_iload_n dX10_rinse_6 (by rfl) ?_
  refine g_cV1x dX10_rinse_7 lX10_109 vX10_rinses (ct_X10_rinses X hM1 hO) (by first | exact m0 | exact k0 | exact hr_a dA k0) rfl ⟨Nat.le_of_ble_eq_true rfl, Nat.le_of_ble_eq_true rfl⟩ (Nat.le_of_ble_eq_true rfl) ⟨Nat.le_of_ble_eq_true rfl, Nat.le_of_ble_eq_true rfl⟩ ?_
  refine g_cV1 dX10_rinse_10 lX10_68 vX10_done (ct_mDone X hn hS1.row) (by first | exact m0 | exact k0 | exact hr_a dA k0) rfl ⟨Nat.le_of_ble_eq_true rfl, Nat.le_of_ble_eq_true rfl⟩ (Nat.le_of_ble_eq_true rfl) ⟨Nat.le_of_ble_eq_true rfl, Nat.le_of_ble_eq_true rfl⟩ ?_
  rintro _ h2 ⟨rfl, hT⟩
  refine g_stk (st' := [.int _]) rfl ?_
  refine g_iret dX10_rinse_13 rfl (Nat.le_refl _) (Nat.le_refl _) ?_
  exact ⟨rfl, hT.fr (fun q hq => (hr_out q hq).trans (hf1 q hq))⟩

set_option maxHeartbeats 4000000 in
set_option maxRecDepth 100000 in
theorem ct_X10_hang (X : Cx) {h : Hp} {M : Nat → Nat} {r : Nat → Int32} {n tn : Nat} {rows : Nat → Nat → Int32} {tg : Nat → Int32} {w k : Int32}  (hn : n ≤ 4) (hO : Ok r) (hD : MdAt X h M r n rows tn tg) (hR : ∀ k, rackN r k ≤ 4) : Ct X mX10_hang 4 0 0 [.ref (M 0), .int w, .int k] h (fun u h1 => u = some (.int (F_hang r w k).1) ∧ MdTo X h h1 M (F_hang r w k).2 (sysN (F_hang r w k).1 n) (sysR (F_hang r w k).1 n r rows) tn tg) := by
  obtain ⟨s0, hS⟩ := id hD
  have hM := hS.mo
  obtain ⟨⟨n2, st, n3, n4, le, n5, at0, lt, n6, fl, n7, m0⟩, m1⟩ := id hM
  unfold mdl at m0
  have dA := hM.ne
  refine Ct.ofG vX10_hang.1.2.2.1 (Nat.le_of_ble_eq_true rfl) ?_
  show G X RX10 cX10_hang 3 (some .int) "hang" (Rm 4 0 0) (Fm X (fun u h1 => u = some (.int (F_hang r w k).1) ∧ MdTo X h h1 M (F_hang r w k).2 (sysN (F_hang r w k).1 n) (sysR (F_hang r w k).1 n r rows) tn tg) 0 0) 0 0 0 [(0, .ref (M 0)), (1, .int w), (2, .int k)] [] h
  refine g_aload_n dX10_hang_0 (by rfl) (by first | exact isRf_r | exact isRf_n | exact isRf_o | assumption) ?_
  refine g_cV0v dX10_hang_1 lX10_61 vX10_asides (ct_mAsides X hD).1 (by first | exact m0 | exact k0 | exact hr_a dA k0) rfl ⟨Nat.le_of_ble_eq_true rfl, Nat.le_of_ble_eq_true rfl⟩ (Nat.le_of_ble_eq_true rfl) ⟨Nat.le_of_ble_eq_true rfl, Nat.le_of_ble_eq_true rfl⟩ ?_
  have hS1 := (ct_mAsides X hD).2.1
  have hf1 := (ct_mAsides X hD).2.2
  generalize hu h (M 3) (oI X 643 (nr 643 r)) = hh at hS1 hf1 ⊢
  have hM1 := hS1.mo
  obtain ⟨⟨n2', st', n3', n4', le', n5', at0', lt', n6', fl', n7', k0⟩, k1⟩ := id hM1
  unfold mdl at k0
  refine g_aload_n dX10_hang_4 (by rfl) (by first | exact isRf_r | exact isRf_n | exact isRf_o | assumption) ?_
  refine g_aload_n dX10_hang_5 (by rfl) (by first | exact isRf_r | exact isRf_n | exact isRf_o | assumption) ?_
  refine g_iload_n dX10_hang_6 (by rfl) ?_
  refine g_iload_n dX10_hang_7 (by rfl) ?_
  refine g_cV2x dX10_hang_8 lX10_115 vX10_hangsOn (ct_X10_hangsOn X hM1 hO hR) (by first | exact m0 | exact k0 | exact hr_a dA k0) rfl ⟨Nat.le_of_ble_eq_true rfl, Nat.le_of_ble_eq_true rfl⟩ (Nat.le_of_ble_eq_true rfl) ⟨Nat.le_of_ble_eq_true rfl, Nat.le_of_ble_eq_true rfl⟩ ?_
  refine g_cV1 dX10_hang_11 lX10_68 vX10_done (ct_mDone X hn hS1.row) (by first | exact m0 | exact k0 | exact hr_a dA k0) rfl ⟨Nat.le_of_ble_eq_true rfl, Nat.le_of_ble_eq_true rfl⟩ (Nat.le_of_ble_eq_true rfl) ⟨Nat.le_of_ble_eq_true rfl, Nat.le_of_ble_eq_true rfl⟩ ?_
  rintro _ h2 ⟨rfl, hT⟩
  refine g_stk (st' := [.int _]) rfl ?_
  refine g_iret dX10_hang_14 rfl (Nat.le_refl _) (Nat.le_refl _) ?_
  exact ⟨rfl, hT.fr (fun q hq => (hr_out q hq).trans (hf1 q hq))⟩

set_option maxHeartbeats 4000000 in
set_option maxRecDepth 100000 in
theorem ct_X10_take (X : Cx) {h : Hp} {M : Nat → Nat} {r : Nat → Int32} {n tn : Nat} {rows : Nat → Nat → Int32} {tg : Nat → Int32} {w : Int32}  (hn : n ≤ 4) (hO : Ok r) (hD : MdAt X h M r n rows tn tg) : Ct X mX10_take 4 0 0 [.ref (M 0), .int w] h (fun u h1 => u = some (.int (F_take r w).1) ∧ MdTo X h h1 M (F_take r w).2 (sysN (F_take r w).1 n) (sysR (F_take r w).1 n r rows) tn tg) := by
  obtain ⟨s0, hS⟩ := id hD
  have hM := hS.mo
  obtain ⟨⟨n2, st, n3, n4, le, n5, at0, lt, n6, fl, n7, m0⟩, m1⟩ := id hM
  unfold mdl at m0
  have dA := hM.ne
  refine Ct.ofG vX10_take.1.2.2.1 (Nat.le_of_ble_eq_true rfl) ?_
  show G X RX10 cX10_take 2 (some .int) "take" (Rm 4 0 0) (Fm X (fun u h1 => u = some (.int (F_take r w).1) ∧ MdTo X h h1 M (F_take r w).2 (sysN (F_take r w).1 n) (sysR (F_take r w).1 n r rows) tn tg) 0 0) 0 0 0 [(0, .ref (M 0)), (1, .int w)] [] h
  refine g_aload_n dX10_take_0 (by rfl) (by first | exact isRf_r | exact isRf_n | exact isRf_o | assumption) ?_
  refine g_cV0v dX10_take_1 lX10_61 vX10_asides (ct_mAsides X hD).1 (by first | exact m0 | exact k0 | exact hr_a dA k0) rfl ⟨Nat.le_of_ble_eq_true rfl, Nat.le_of_ble_eq_true rfl⟩ (Nat.le_of_ble_eq_true rfl) ⟨Nat.le_of_ble_eq_true rfl, Nat.le_of_ble_eq_true rfl⟩ ?_
  have hS1 := (ct_mAsides X hD).2.1
  have hf1 := (ct_mAsides X hD).2.2
  generalize hu h (M 3) (oI X 643 (nr 643 r)) = hh at hS1 hf1 ⊢
  have hM1 := hS1.mo
  obtain ⟨⟨n2', st', n3', n4', le', n5', at0', lt', n6', fl', n7', k0⟩, k1⟩ := id hM1
  unfold mdl at k0
  refine g_aload_n dX10_take_4 (by rfl) (by first | exact isRf_r | exact isRf_n | exact isRf_o | assumption) ?_
  refine g_aload_n dX10_take_5 (by rfl) (by first | exact isRf_r | exact isRf_n | exact isRf_o | assumption) ?_
  refine g_iload_n dX10_take_6 (by rfl) ?_
  refine g_cV1x dX10_take_7 lX10_118 vX10_takesDown (ct_X10_takesDown X hM1 hO) (by first | exact m0 | exact k0 | exact hr_a dA k0) rfl ⟨Nat.le_of_ble_eq_true rfl, Nat.le_of_ble_eq_true rfl⟩ (Nat.le_of_ble_eq_true rfl) ⟨Nat.le_of_ble_eq_true rfl, Nat.le_of_ble_eq_true rfl⟩ ?_
  refine g_cV1 dX10_take_10 lX10_68 vX10_done (ct_mDone X hn hS1.row) (by first | exact m0 | exact k0 | exact hr_a dA k0) rfl ⟨Nat.le_of_ble_eq_true rfl, Nat.le_of_ble_eq_true rfl⟩ (Nat.le_of_ble_eq_true rfl) ⟨Nat.le_of_ble_eq_true rfl, Nat.le_of_ble_eq_true rfl⟩ ?_
  rintro _ h2 ⟨rfl, hT⟩
  refine g_stk (st' := [.int _]) rfl ?_
  refine g_iret dX10_take_13 rfl (Nat.le_refl _) (Nat.le_refl _) ?_
  exact ⟨rfl, hT.fr (fun q hq => (hr_out q hq).trans (hf1 q hq))⟩

set_option maxHeartbeats 4000000 in
set_option maxRecDepth 100000 in
theorem ct_X10_sell (X : Cx) {h : Hp} {M : Nat → Nat} {r : Nat → Int32} {n tn : Nat} {rows : Nat → Nat → Int32} {tg : Nat → Int32} {w z : Int32}  (hn : n ≤ 4) (hO : Ok r) (hD : MdAt X h M r n rows tn tg) : Ct X mX10_sell 5 0 0 [.ref (M 0), .int w, .int z] h (fun u h1 => u = some (.int (F_sell r w z).1) ∧ MdTo X h h1 M (F_sell r w z).2 (sysN (F_sell r w z).1 n) (sysR (F_sell r w z).1 n r rows) tn tg) := by
  obtain ⟨s0, hS⟩ := id hD
  have hM := hS.mo
  obtain ⟨⟨n2, st, n3, n4, le, n5, at0, lt, n6, fl, n7, m0⟩, m1⟩ := id hM
  unfold mdl at m0
  have dA := hM.ne
  refine Ct.ofG vX10_sell.1.2.2.1 (Nat.le_of_ble_eq_true rfl) ?_
  show G X RX10 cX10_sell 3 (some .int) "sell" (Rm 5 0 0) (Fm X (fun u h1 => u = some (.int (F_sell r w z).1) ∧ MdTo X h h1 M (F_sell r w z).2 (sysN (F_sell r w z).1 n) (sysR (F_sell r w z).1 n r rows) tn tg) 0 0) 0 0 0 [(0, .ref (M 0)), (1, .int w), (2, .int z)] [] h
  refine g_aload_n dX10_sell_0 (by rfl) (by first | exact isRf_r | exact isRf_n | exact isRf_o | assumption) ?_
  refine g_cV0v dX10_sell_1 lX10_61 vX10_asides (ct_mAsides X hD).1 (by first | exact m0 | exact k0 | exact hr_a dA k0) rfl ⟨Nat.le_of_ble_eq_true rfl, Nat.le_of_ble_eq_true rfl⟩ (Nat.le_of_ble_eq_true rfl) ⟨Nat.le_of_ble_eq_true rfl, Nat.le_of_ble_eq_true rfl⟩ ?_
  have hS1 := (ct_mAsides X hD).2.1
  have hf1 := (ct_mAsides X hD).2.2
  generalize hu h (M 3) (oI X 643 (nr 643 r)) = hh at hS1 hf1 ⊢
  have hM1 := hS1.mo
  obtain ⟨⟨n2', st', n3', n4', le', n5', at0', lt', n6', fl', n7', k0⟩, k1⟩ := id hM1
  unfold mdl at k0
  refine g_aload_n dX10_sell_4 (by rfl) (by first | exact isRf_r | exact isRf_n | exact isRf_o | assumption) ?_
  refine g_aload_n dX10_sell_5 (by rfl) (by first | exact isRf_r | exact isRf_n | exact isRf_o | assumption) ?_
  refine g_iload_n dX10_sell_6 (by rfl) ?_
  refine g_iload_n dX10_sell_7 (by rfl) ?_
  refine g_cV2x dX10_sell_8 lX10_153 vX10_sells (ct_X10_sells X hM1 hO) (by first | exact m0 | exact k0 | exact hr_a dA k0) rfl ⟨Nat.le_of_ble_eq_true rfl, Nat.le_of_ble_eq_true rfl⟩ (Nat.le_of_ble_eq_true rfl) ⟨Nat.le_of_ble_eq_true rfl, Nat.le_of_ble_eq_true rfl⟩ ?_
  refine g_cV1 dX10_sell_11 lX10_68 vX10_done (ct_mDone X hn hS1.row) (by first | exact m0 | exact k0 | exact hr_a dA k0) rfl ⟨Nat.le_of_ble_eq_true rfl, Nat.le_of_ble_eq_true rfl⟩ (Nat.le_of_ble_eq_true rfl) ⟨Nat.le_of_ble_eq_true rfl, Nat.le_of_ble_eq_true rfl⟩ ?_
  rintro _ h2 ⟨rfl, hT⟩
  refine g_stk (st' := [.int _]) rfl ?_
  refine g_iret dX10_sell_14 rfl (Nat.le_refl _) (Nat.le_refl _) ?_
  exact ⟨rfl, hT.fr (fun q hq => (hr_out q hq).trans (hf1 q hq))⟩
