theorem cw3 {r : Nat → Int32} {l : Nat} (k : LOk (ltx r l)) : cntW 3 (ltx r l) = (rackB r 0 l || rackB r 1 l) ∧ (rackB r 0 l && rackB r 1 l) = false := by
  obtain ⟨k0, -⟩ := k
  unfold rackB
  show decide (¬ ltx r l 10 = 0) = (hangs r l && _ || hangs r l && _) ∧ _
  unfold hangs
  rcases k0 with z | z
  · rw [z]
    cases decide (¬ ltx r l 10 = 0) <;> decide
  · rw [z]
    cases decide (¬ ltx r l 10 = 0) <;> decide
theorem cw5 {r : Nat → Int32} {l : Nat} : cntW 5 (ltx r l) = ((sold r l == false) && decide (¬ ltx r l 12 = 0) || (sold r l == true) && decide (¬ ltx r l 12 = 0)) ∧ (((sold r l == false) && decide (¬ ltx r l 12 = 0)) && ((sold r l == true) && decide (¬ ltx r l 12 = 0))) = false := by
  show decide (¬ ltx r l 12 = 0) = _ ∧ _
  cases sold r l <;> cases decide (¬ ltx r l 12 = 0) <;> decide
theorem cw2 {r : Nat → Int32} {n : Nat} : cntN (fun l => !sold r l) n = cntN (fun l => cntW 2 (ltx r l)) n := cnt_ext (fun l _ => nsold)
theorem cw6 {r : Nat → Int32} {n : Nat} : nI n - nI (cntN (fun l => !sold r l) n) = nI (cntN (fun l => cntW 6 (ltx r l)) n) := by
  have z := cnt_all (p := sold r) (n := n)
  have e : nI n = nI (cntN (sold r) n) + nI (cntN (fun l => !sold r l) n) := by rw [nI_add, ← z]
  rw [e, Int32.add_sub_cancel]
  rfl
theorem cnt20 {k : Int32} (h : rngB 20 26 k = true) : ∃ j, j < 7 ∧ k - 20 = nI j := by
  have h2 := rng_b h
  have q1 : (20 : Int32).toInt = 20 := by decide
  have q2 : (26 : Int32).toInt = 26 := by decide
  have e : (k - 20).toInt = k.toInt - 20 := by
    rw [Int32.toInt_sub, q1]
    exact Int.bmod_eq_of_le (by omega) (by omega)
  exact i_sm (by omega) (by omega) (by omega)

set_option maxHeartbeats 4000000 in
set_option maxRecDepth 100000 in
theorem ct_X10_count (X : Cx) {h : Hp} {M : Nat → Nat} {r : Nat → Int32} {n tn : Nat} {rows : Nat → Nat → Int32} {tg : Nat → Int32} {k : Int32}  (hO : Ok r) (hD : MdAt X h M r n rows tn tg) : Ct X mX10_count 3 0 0 [.ref (M 0), .int k] h (Ex (.int (Q_count r n tn k)) h) := by
  obtain ⟨s0, hS⟩ := id hD
  have hM := hS.mo
  obtain ⟨-, ⟨at0, lt, fl, m0⟩, m1, -⟩ := id hS
  unfold mdl at m0
  have dA := hM.ne
  obtain ⟨nv, nl, no, hnv, hnl, hno, e7, e8, e9, hset, hvok, hvz, hlok, hlz, hok, hoz, hw⟩ := id hO
  refine Ct.ofG vX10_count.1.2.2.1 (Nat.le_of_ble_eq_true rfl) ?_
  show G X RX10 cX10_count 2 (some .int) "count" (Rm 3 0 0) (Fm X (Ex (.int (Q_count r n tn k)) h) 0 0) 0 0 0 [(0, .ref (M 0)), (1, .int k)] [] h
  refine g_iload_n dX10_count_0 (by rfl) ?_
  refine g_bipush (v := 20) dX10_count_1 (by decide) ?_
  refine g_bipush (v := 26) dX10_count_3 (by decide) ?_
  refine g_cS3x dX10_count_5 lX10_31 rfl vX10_in (ct_X10_in X) ⟨Nat.le_of_ble_eq_true rfl, Nat.le_of_ble_eq_true rfl⟩ (Nat.le_of_ble_eq_true rfl) ⟨Nat.le_of_ble_eq_true rfl, Nat.le_of_ble_eq_true rfl⟩ ?_
  refine g_if_eq (tgt := 21) dX10_count_8 (by decide) (fun c1 => ?_) (fun c1 => ?_)
  · skip
    have h20 := bI_0 c1
    refine g_iload_n dX10_count_21 (by rfl) ?_
    by_cases hsw : rngB 0 (nI 11) k = true
    · skip
      obtain ⟨jsw, hjsw, rfl⟩ := sw_in (m := 11) (by omega) hsw
      rcases (show jsw = 0 ∨ jsw = 1 ∨ jsw = 2 ∨ jsw = 3 ∨ jsw = 4 ∨ jsw = 5 ∨ jsw = 6 ∨ jsw = 7 ∨ jsw = 8 ∨ jsw = 9 ∨ jsw = 10 ∨ jsw = 11 by omega) with rfl | rfl | rfl | rfl | rfl | rfl | rfl | rfl | rfl | rfl | rfl | rfl
      · skip
        have eF : Q_count r n tn (nI 0) = r 7 := by
          unfold Q_count
          rw [show rngB 20 26 (nI 0) = false by decide, show rngB 0 11 (nI 0) = true by decide, show cl (nI 0) = 0 from cl_nI (by omega)]
          rfl
        refine g_tableIn (tgt := 84) (off := 62) dX10_count_22 (by decide) (by decide) (by decide) (by decide) ?_
        refine g_aload_n dX10_count_84 (by rfl) (by first | exact isRf_r | exact isRf_n | exact isRf_o | assumption) ?_
        refine g_getf dX10_count_85 fX10_7 (by first | exact m0 | exact hr_a dA m0) (by rfl) ?_
        refine g_bipush (v := 7) dX10_count_88 (by decide) ?_
        refine g_ilM (7) dX10_count_90 (by first | exact m1 | exact hr_n) (by first | rfl | exact lin3 | exact lin3a | exact linA | exact linB) (by omega) ?_
        refine g_iret dX10_count_91 rfl (Nat.le_refl _) (Nat.le_refl _) ?_
        refine Ex.i ?_ rfl
        rw [eF]
        first
          | done
          | rfl
      · skip
        have eF : Q_count r n tn (nI 1) = r 8 := by
          unfold Q_count
          rw [show rngB 20 26 (nI 1) = false by decide, show rngB 0 11 (nI 1) = true by decide, show cl (nI 1) = 1 from cl_nI (by omega)]
          rfl
        refine g_tableIn (tgt := 92) (off := 70) dX10_count_22 (by decide) (by decide) (by decide) (by decide) ?_
        refine g_aload_n dX10_count_92 (by rfl) (by first | exact isRf_r | exact isRf_n | exact isRf_o | assumption) ?_
        refine g_getf dX10_count_93 fX10_7 (by first | exact m0 | exact hr_a dA m0) (by rfl) ?_
        refine g_bipush (v := 8) dX10_count_96 (by decide) ?_
        refine g_ilM (8) dX10_count_98 (by first | exact m1 | exact hr_n) (by first | rfl | exact lin3 | exact lin3a | exact linA | exact linB) (by omega) ?_
        refine g_iret dX10_count_99 rfl (Nat.le_refl _) (Nat.le_refl _) ?_
        refine Ex.i ?_ rfl
        rw [eF]
        first
          | done
          | rfl
      · skip
        have eF : Q_count r n tn (nI 2) = nI (cntN (fun l => cntW 2 (ltx r l)) nl) := by
          unfold Q_count
          rw [show rngB 20 26 (nI 2) = false by decide, show rngB 0 11 (nI 2) = true by decide, show cl (nI 2) = 2 from cl_nI (by omega), e8, show cl (nI nl) = nl from cl_nI (by omega)]
          rfl
        refine g_tableIn (tgt := 100) (off := 78) dX10_count_22 (by decide) (by decide) (by decide) (by decide) ?_
        refine g_aload_n dX10_count_100 (by rfl) (by first | exact isRf_r | exact isRf_n | exact isRf_o | assumption) ?_
        refine g_cV0x dX10_count_101 lX10_176 vX10_inHouse (ct_X10_inHouse X hM hnl e8 hlok) (by first | exact m0 | exact hr_a dA m0) rfl ⟨Nat.le_of_ble_eq_true rfl, Nat.le_of_ble_eq_true rfl⟩ (Nat.le_of_ble_eq_true rfl) ⟨Nat.le_of_ble_eq_true rfl, Nat.le_of_ble_eq_true rfl⟩ ?_
        refine g_iret dX10_count_104 rfl (Nat.le_refl _) (Nat.le_refl _) ?_
        refine Ex.i ?_ rfl
        rw [eF, cw2]
      · skip
        have eF : Q_count r n tn (nI 3) = nI (cntN (fun l => cntW 3 (ltx r l)) nl) := by
          unfold Q_count
          rw [show rngB 20 26 (nI 3) = false by decide, show rngB 0 11 (nI 3) = true by decide, show cl (nI 3) = 3 from cl_nI (by omega), e8, show cl (nI nl) = nl from cl_nI (by omega)]
          rfl
        refine g_tableIn (tgt := 105) (off := 83) dX10_count_22 (by decide) (by decide) (by decide) (by decide) ?_
        refine g_aload_n dX10_count_105 (by rfl) (by first | exact isRf_r | exact isRf_n | exact isRf_o | assumption) ?_
        refine g_iconst (v := 0) dX10_count_106 (by decide) ?_
        refine g_cV1x dX10_count_107 lX10_112 vX10_hanging (ct_X10_hanging X hM hnl e8 hlok) (by first | exact m0 | exact hr_a dA m0) rfl ⟨Nat.le_of_ble_eq_true rfl, Nat.le_of_ble_eq_true rfl⟩ (Nat.le_of_ble_eq_true rfl) ⟨Nat.le_of_ble_eq_true rfl, Nat.le_of_ble_eq_true rfl⟩ ?_
        refine g_aload_n dX10_count_110 (by rfl) (by first | exact isRf_r | exact isRf_n | exact isRf_o | assumption) ?_
        refine g_iconst (v := 1) dX10_count_111 (by decide) ?_
        refine g_cV1x dX10_count_112 lX10_112 vX10_hanging (ct_X10_hanging X hM hnl e8 hlok) (by first | exact m0 | exact hr_a dA m0) rfl ⟨Nat.le_of_ble_eq_true rfl, Nat.le_of_ble_eq_true rfl⟩ (Nat.le_of_ble_eq_true rfl) ⟨Nat.le_of_ble_eq_true rfl, Nat.le_of_ble_eq_true rfl⟩ ?_
        refine g_iadd dX10_count_115 ?_
        refine g_iret dX10_count_116 rfl (Nat.le_refl _) (Nat.le_refl _) ?_
        refine Ex.i ?_ rfl
        rw [eF, nI_add, ← cnt_split (p := fun l => cntW 3 (ltx r l)) (fun l hl => cw3 (hlok l hl))]
      · skip
        have eF : Q_count r n tn (nI 4) = nI (cntN (fun l => cntW 4 (ltx r l)) nl) := by
          unfold Q_count
          rw [show rngB 20 26 (nI 4) = false by decide, show rngB 0 11 (nI 4) = true by decide, show cl (nI 4) = 4 from cl_nI (by omega), e8, show cl (nI nl) = nl from cl_nI (by omega)]
          rfl
        refine g_tableIn (tgt := 117) (off := 95) dX10_count_22 (by decide) (by decide) (by decide) (by decide) ?_
        refine g_aload_n dX10_count_117 (by rfl) (by first | exact isRf_r | exact isRf_n | exact isRf_o | assumption) ?_
        refine g_bipush (v := 11) dX10_count_118 (by decide) ?_
        refine g_iconst (v := 0) dX10_count_120 (by decide) ?_
        refine g_cV2x dX10_count_121 lX10_172 vX10_inLots (ct_X10_inLots X (f := 11) (b := false) hM hnl e8 hlok (by omega)) (by first | exact m0 | exact hr_a dA m0) rfl ⟨Nat.le_of_ble_eq_true rfl, Nat.le_of_ble_eq_true rfl⟩ (Nat.le_of_ble_eq_true rfl) ⟨Nat.le_of_ble_eq_true rfl, Nat.le_of_ble_eq_true rfl⟩ ?_
        refine g_iret dX10_count_124 rfl (Nat.le_refl _) (Nat.le_refl _) ?_
        refine Ex.i ?_ rfl
        rw [eF, (sum_cnt (p := fun l => sold r l == false) (q := fun l => (sold r l == false) && decide (¬ ltx r l 11 = 0)) (f := fun l => ltx r l 11) (n := nl) (fun l hl => (by obtain ⟨-, -, -, -, -, b1, -⟩ := hlok l hl; exact b1)) (fun l _ => rfl))]
        congr 1
        exact cnt_ext (fun l _ => by show ((sold r l == false) && _) = (decide (ltx r l 13 = 0) && _); rw [eqb_f, nsold])
      · skip
        have eF : Q_count r n tn (nI 5) = nI (cntN (fun l => cntW 5 (ltx r l)) nl) := by
          unfold Q_count
          rw [show rngB 20 26 (nI 5) = false by decide, show rngB 0 11 (nI 5) = true by decide, show cl (nI 5) = 5 from cl_nI (by omega), e8, show cl (nI nl) = nl from cl_nI (by omega)]
          rfl
        refine g_tableIn (tgt := 125) (off := 103) dX10_count_22 (by decide) (by decide) (by decide) (by decide) ?_
        refine g_aload_n dX10_count_125 (by rfl) (by first | exact isRf_r | exact isRf_n | exact isRf_o | assumption) ?_
        refine g_bipush (v := 12) dX10_count_126 (by decide) ?_
        refine g_iconst (v := 0) dX10_count_128 (by decide) ?_
        refine g_cV2x dX10_count_129 lX10_172 vX10_inLots (ct_X10_inLots X (f := 12) (b := false) hM hnl e8 hlok (by omega)) (by first | exact m0 | exact hr_a dA m0) rfl ⟨Nat.le_of_ble_eq_true rfl, Nat.le_of_ble_eq_true rfl⟩ (Nat.le_of_ble_eq_true rfl) ⟨Nat.le_of_ble_eq_true rfl, Nat.le_of_ble_eq_true rfl⟩ ?_
        refine g_aload_n dX10_count_132 (by rfl) (by first | exact isRf_r | exact isRf_n | exact isRf_o | assumption) ?_
        refine g_bipush (v := 12) dX10_count_133 (by decide) ?_
        refine g_iconst (v := 1) dX10_count_135 (by decide) ?_
        refine g_cV2x dX10_count_136 lX10_172 vX10_inLots (ct_X10_inLots X (f := 12) (b := true) hM hnl e8 hlok (by omega)) (by first | exact m0 | exact hr_a dA m0) rfl ⟨Nat.le_of_ble_eq_true rfl, Nat.le_of_ble_eq_true rfl⟩ (Nat.le_of_ble_eq_true rfl) ⟨Nat.le_of_ble_eq_true rfl, Nat.le_of_ble_eq_true rfl⟩ ?_
        refine g_iadd dX10_count_139 ?_
        refine g_iret dX10_count_140 rfl (Nat.le_refl _) (Nat.le_refl _) ?_
        refine Ex.i ?_ rfl
        rw [eF, (sum_cnt (p := fun l => sold r l == false) (q := fun l => (sold r l == false) && decide (¬ ltx r l 12 = 0)) (f := fun l => ltx r l 12) (n := nl) (fun l hl => (hlok l hl).b12) (fun l _ => rfl)), (sum_cnt (p := fun l => sold r l == true) (q := fun l => (sold r l == true) && decide (¬ ltx r l 12 = 0)) (f := fun l => ltx r l 12) (n := nl) (fun l hl => (hlok l hl).b12) (fun l _ => rfl)), nI_add, ← cnt_split (p := fun l => cntW 5 (ltx r l)) (fun l hl => cw5)]
      · skip
        have eF : Q_count r n tn (nI 6) = nI (cntN (fun l => cntW 6 (ltx r l)) nl) := by
          unfold Q_count
          rw [show rngB 20 26 (nI 6) = false by decide, show rngB 0 11 (nI 6) = true by decide, show cl (nI 6) = 6 from cl_nI (by omega), e8, show cl (nI nl) = nl from cl_nI (by omega)]
          rfl
        refine g_tableIn (tgt := 141) (off := 119) dX10_count_22 (by decide) (by decide) (by decide) (by decide) ?_
        refine g_aload_n dX10_count_141 (by rfl) (by first | exact isRf_r | exact isRf_n | exact isRf_o | assumption) ?_
        refine g_getf dX10_count_142 fX10_7 (by first | exact m0 | exact hr_a dA m0) (by rfl) ?_
        refine g_bipush (v := 8) dX10_count_145 (by decide) ?_
        refine g_ilM (8) dX10_count_147 (by first | exact m1 | exact hr_n) (by first | rfl | exact lin3 | exact lin3a | exact linA | exact linB) (by omega) ?_
        refine g_aload_n dX10_count_148 (by rfl) (by first | exact isRf_r | exact isRf_n | exact isRf_o | assumption) ?_
        refine g_cV0x dX10_count_149 lX10_176 vX10_inHouse (ct_X10_inHouse X hM hnl e8 hlok) (by first | exact m0 | exact hr_a dA m0) rfl ⟨Nat.le_of_ble_eq_true rfl, Nat.le_of_ble_eq_true rfl⟩ (Nat.le_of_ble_eq_true rfl) ⟨Nat.le_of_ble_eq_true rfl, Nat.le_of_ble_eq_true rfl⟩ ?_
        refine g_isub dX10_count_152 ?_
        refine g_iret dX10_count_153 rfl (Nat.le_refl _) (Nat.le_refl _) ?_
        refine Ex.i ?_ rfl
        rw [eF, e8, cw6]
      · skip
        have eF : Q_count r n tn (nI 7) = r 9 := by
          unfold Q_count
          rw [show rngB 20 26 (nI 7) = false by decide, show rngB 0 11 (nI 7) = true by decide, show cl (nI 7) = 7 from cl_nI (by omega)]
          rfl
        refine g_tableIn (tgt := 154) (off := 132) dX10_count_22 (by decide) (by decide) (by decide) (by decide) ?_
        refine g_aload_n dX10_count_154 (by rfl) (by first | exact isRf_r | exact isRf_n | exact isRf_o | assumption) ?_
        refine g_getf dX10_count_155 fX10_7 (by first | exact m0 | exact hr_a dA m0) (by rfl) ?_
        refine g_bipush (v := 9) dX10_count_158 (by decide) ?_
        refine g_ilM (9) dX10_count_160 (by first | exact m1 | exact hr_n) (by first | rfl | exact lin3 | exact lin3a | exact linA | exact linB) (by omega) ?_
        refine g_iret dX10_count_161 rfl (Nat.le_refl _) (Nat.le_refl _) ?_
        refine Ex.i ?_ rfl
        rw [eF]
        first
          | done
          | rfl
      · skip
        have eF : Q_count r n tn (nI 8) = nI (unsN r) := by
          unfold Q_count
          rw [show rngB 20 26 (nI 8) = false by decide, show rngB 0 11 (nI 8) = true by decide, show cl (nI 8) = 8 from cl_nI (by omega)]
          rfl
        refine g_tableIn (tgt := 162) (off := 140) dX10_count_22 (by decide) (by decide) (by decide) (by decide) ?_
        refine g_aload_n dX10_count_162 (by rfl) (by first | exact isRf_r | exact isRf_n | exact isRf_o | assumption) ?_
        refine g_cV0x dX10_count_163 lX10_140 vX10_unserved (ct_X10_unserved X hM hno e9 hok) (by first | exact m0 | exact hr_a dA m0) rfl ⟨Nat.le_of_ble_eq_true rfl, Nat.le_of_ble_eq_true rfl⟩ (Nat.le_of_ble_eq_true rfl) ⟨Nat.le_of_ble_eq_true rfl, Nat.le_of_ble_eq_true rfl⟩ ?_
        refine g_iret dX10_count_166 rfl (Nat.le_refl _) (Nat.le_refl _) ?_
        refine Ex.i ?_ rfl
        rw [eF]
        unfold unsN
        rw [e9, show cl (nI no) = no from cl_nI (by omega)]
      · skip
        have eF : Q_count r n tn (nI 9) = r 10 := by
          unfold Q_count
          rw [show rngB 20 26 (nI 9) = false by decide, show rngB 0 11 (nI 9) = true by decide, show cl (nI 9) = 9 from cl_nI (by omega)]
          rfl
        refine g_tableIn (tgt := 167) (off := 145) dX10_count_22 (by decide) (by decide) (by decide) (by decide) ?_
        refine g_aload_n dX10_count_167 (by rfl) (by first | exact isRf_r | exact isRf_n | exact isRf_o | assumption) ?_
        refine g_getf dX10_count_168 fX10_7 (by first | exact m0 | exact hr_a dA m0) (by rfl) ?_
        refine g_bipush (v := 10) dX10_count_171 (by decide) ?_
        refine g_ilM (10) dX10_count_173 (by first | exact m1 | exact hr_n) (by first | rfl | exact lin3 | exact lin3a | exact linA | exact linB) (by omega) ?_
        refine g_iret dX10_count_174 rfl (Nat.le_refl _) (Nat.le_refl _) ?_
        refine Ex.i ?_ rfl
        rw [eF]
        first
          | done
          | rfl
      · skip
        have eF : Q_count r n tn (nI 10) = nI n := by
          unfold Q_count
          rw [show rngB 20 26 (nI 10) = false by decide, show rngB 0 11 (nI 10) = true by decide, show cl (nI 10) = 10 from cl_nI (by omega)]
          rfl
        refine g_tableIn (tgt := 175) (off := 153) dX10_count_22 (by decide) (by decide) (by decide) (by decide) ?_
        refine g_aload_n dX10_count_175 (by rfl) (by first | exact isRf_r | exact isRf_n | exact isRf_o | assumption) ?_
        refine g_getf dX10_count_176 fX10_39 (by first | exact m0 | exact hr_a dA m0) (by rfl) ?_
        refine g_iret dX10_count_179 rfl (Nat.le_refl _) (Nat.le_refl _) ?_
        refine Ex.i ?_ rfl
        rw [eF]
        first
          | done
          | rfl
      · skip
        have eF : Q_count r n tn (nI 11) = nI tn := by
          unfold Q_count
          rw [show rngB 20 26 (nI 11) = false by decide, show rngB 0 11 (nI 11) = true by decide, show cl (nI 11) = 11 from cl_nI (by omega)]
          rfl
        refine g_tableIn (tgt := 180) (off := 158) dX10_count_22 (by decide) (by decide) (by decide) (by decide) ?_
        refine g_aload_n dX10_count_180 (by rfl) (by first | exact isRf_r | exact isRf_n | exact isRf_o | assumption) ?_
        refine g_getf dX10_count_181 fX10_179 (by first | exact m0 | exact hr_a dA m0) (by rfl) ?_
        refine g_iret dX10_count_184 rfl (Nat.le_refl _) (Nat.le_refl _) ?_
        refine Ex.i ?_ rfl
        rw [eF]
        first
          | done
          | rfl
    · skip
      have eF : Q_count r n tn k = -1 := by
        unfold Q_count
        rw [h20, show rngB 0 11 k = false from (Bool.not_eq_true _).mp hsw]
        rfl
      refine g_tableOut (tgt := 185) dX10_count_22 (sw_out (m := 11) (by omega) hsw) (by decide) ?_
      refine g_iconst (v := (-1)) dX10_count_185 (by decide) ?_
      refine g_iret dX10_count_186 rfl (Nat.le_refl _) (Nat.le_refl _) ?_
      refine Ex.i ?_ rfl
      rw [eF]
      first
        | done
        | rfl
  · skip
    have hg := bI_1 c1
    obtain ⟨j, hj, ej⟩ := cnt20 hg
    have eF : Q_count r n tn k = r j := by
      unfold Q_count
      rw [hg, ej, show cl (nI j) = j from cl_nI (by omega)]
      rfl
    refine g_aload_n dX10_count_11 (by rfl) (by first | exact isRf_r | exact isRf_n | exact isRf_o | assumption) ?_
    refine g_getf dX10_count_12 fX10_7 (by first | exact m0 | exact hr_a dA m0) (by rfl) ?_
    refine g_iload_n dX10_count_15 (by rfl) ?_
    refine g_bipush (v := 20) dX10_count_16 (by decide) ?_
    refine g_isub dX10_count_18 ?_
    refine g_ilM (j) dX10_count_19 (by first | exact m1 | exact hr_n) ej (by omega) ?_
    refine g_iret dX10_count_20 rfl (Nat.le_refl _) (Nat.le_refl _) ?_
    refine Ex.i ?_ rfl
    rw [eF]
    first
      | done
      | rfl

theorem MdS.txt {X : Cx} {h h1 : Hp} {M : Nat → Nat} {r s : Nat → Int32} {n tn tn2 : Nat} {rows : Nat → Nat → Int32} {tg tg2 : Nat → Int32} (k : MdS X h M r s n rows tn tg) (k0 : ∃ at0 lt fl, h1 (M 0) = some (ob 10 (mdl (M 1) (M 2) (nI n) (M 3) (M 4) (nI tn2) (M 5) at0 lt (M 6) fl (M 7)))) (k4 : h1 (M 4) = some (oI X 60 (nr 60 tg2))) (f : ∀ i, i < 8 → i ≠ 0 → i ≠ 4 → h1 (M i) = h (M i)) : MdS X h1 M r s n rows tn2 tg2 := by
  obtain ⟨kd, -, k1, ⟨g, k2, k2b⟩, k3, -, ⟨w5, k5⟩, ⟨w6, k6⟩, w7, k7⟩ := k
  exact ⟨kd, k0, (f 1 (by omega) (by omega) (by omega)).trans k1, ⟨g, (f 2 (by omega) (by omega) (by omega)).trans k2, k2b⟩, (f 3 (by omega) (by omega) (by omega)).trans k3, k4, ⟨w5, (f 5 (by omega) (by omega) (by omega)).trans k5⟩, ⟨w6, (f 6 (by omega) (by omega) (by omega)).trans k6⟩, w7, (f 7 (by omega) (by omega) (by omega)).trans k7⟩
theorem MdS.ne {X : Cx} {h : Hp} {M : Nat → Nat} {r s : Nat → Int32} {n tn : Nat} {rows : Nat → Nat → Int32} {tg : Nat → Int32} (k : MdS X h M r s n rows tn tg) {i j : Nat} (hi : i < 8) (hj : j < 8) (e : i ≠ j) : M i ≠ M j := fun z => e (k.1 i j hi hj z)

