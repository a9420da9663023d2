set_option maxHeartbeats 4000000 in
set_option maxRecDepth 100000 in
theorem ct_L_cell (X : Cx) {h : Hp} {b L k : Nat} {xs : Nat → Int32} (hb : h b = some (sI L xs)) (hL : L ≤ 260) (hk : k < 1000) : Ct X mL_cell 0 0 0 [.ref b, .int (nI k)] h (fun u h1 => ∃ z, u = some (.int z) ∧ 0 ≤ z.toInt ∧ h1 = h) := by
  refine Ct.ofG vL_cell.1.2.2.1 (Nat.le_of_ble_eq_true rfl) ?_
  show G X RL cL_cell 2 (some .int) "cell" (Rm 0 0 0) (Fm X (fun u h1 => ∃ z, u = some (.int z) ∧ 0 ≤ z.toInt ∧ h1 = h) 0 0) 0 0 0 [(0, .ref b), (1, .int (nI k))] [] h
  refine g_iload_n dL_cell_0 (by rfl) ?_
  refine g_aload_n dL_cell_1 (by rfl) (by first | exact isRf_r | exact isRf_n | exact isRf_o | assumption) ?_
  refine g_alenS dL_cell_2 hb ?_
  refine g_icmp_ge (tgt := 12) dL_cell_3 (by decide) (fun c1 => ?_) (fun c1 => ?_)
  · skip
    refine g_ldc dL_cell_12 cL_7 ?_
    refine g_iload_n dL_cell_14 (by rfl) ?_
    refine g_imul dL_cell_15 ?_
    refine g_sipush (v := 167) dL_cell_16 (by decide) ?_
    refine g_iadd dL_cell_19 ?_
    refine g_ldc dL_cell_20 cL_8 ?_
    refine g_iand dL_cell_22 ?_
    refine g_iret dL_cell_23 rfl (Nat.le_refl _) (Nat.le_refl _) ?_
    exact ⟨_, rfl, and_nn _, rfl⟩
  · skip
    have hkL : k < L := by
      have z := c1
      rw [i_le, nI_toInt (by omega), nI_toInt (by omega)] at z
      omega
    refine g_aload_n dL_cell_6 (by rfl) (by first | exact isRf_r | exact isRf_n | exact isRf_o | assumption) ?_
    refine g_iload_n dL_cell_7 (by rfl) ?_
    refine g_iaS dL_cell_8 hb hkL (by omega) (by rfl) ?_
    refine g_goto (tgt := 20) dL_cell_9 (by decide) ?_
    refine g_ldc dL_cell_20 cL_8 ?_
    refine g_iand dL_cell_22 ?_
    refine g_iret dL_cell_23 rfl (Nat.le_refl _) (Nat.le_refl _) ?_
    exact ⟨_, rfl, and_nn _, rfl⟩

set_option maxHeartbeats 400000 in
set_option maxRecDepth 100000 in
theorem ct_L_acts (X : Cx) {h : Hp} {A B m : Nat → Nat} {C : Nat → Nat → Nat} {r : Nat → Int32} {n tn : Nat} {rows : Nat → Nat → Int32} {tg : Nat → Int32} {z : Int32} (hz0 : 0 ≤ z.toInt) (hz : Sz r) (R : Run X h A B m C h C r n rows tn tg) : Ct X mL_acts 11 0 0 [.ref (m 0), .int z] h (LEnd X h A B m C) := by
  obtain ⟨D, hD⟩ : ∃ D, D = C := ⟨_, rfl⟩
  have R0 := R
  obtain ⟨hSep, hSys, hn, hO, hO2, hSnd, hTk, hRs, hFr⟩ := id R
  have c7 := cl_le7 hO
  have c8 := (cl_le hO).1
  have c9 := (cl_le hO).2
  obtain ⟨hz7, hz8, hz9⟩ := id hz
  refine Ct.ofG vL_acts.1.2.2.1 (Nat.le_of_ble_eq_true rfl) ?_
  show G X RL cL_acts 6 (some .boolean) "acts" (Rm 11 0 0) (Fm X (LEnd X h A B m C) 0 0) 0 0 0 [(0, .ref (m 0)), (1, .int z)] [] h
  refine g_iload_n dL_acts_0 (by rfl) ?_
  refine g_iconst (v := 4) dL_acts_1 (by decide) ?_
  refine g_ishr dL_acts_2 ?_
  refine g_istore_n (L1 := [(0, _), (1, _), (2, _)]) dL_acts_3 (by decide) (by rfl) ?_
  have hv0 := shr_nn hz0
  generalize z >>> (4 &&& 31) = v at hv0 ⊢
  refine g_iload_n dL_acts_4 (by rfl) ?_
  refine g_aload_n dL_acts_5 (by rfl) (by first | exact isRf_r | exact isRf_n | exact isRf_o | assumption) ?_
  refine g_iconst (v := 1) dL_acts_6 (by decide) ?_
  refine g_cV1x dL_acts_7 lL_9 vX9_count (ct_X9_count X hO hSys) (hSys.1) rfl ⟨Nat.le_of_ble_eq_true rfl, Nat.le_of_ble_eq_true rfl⟩ (Nat.le_of_ble_eq_true rfl) ⟨Nat.le_of_ble_eq_true rfl, Nat.le_of_ble_eq_true rfl⟩ ?_
  refine g_irem dL_acts_10 (nz_q (qc_1.trans hO.e8) (by omega) (by omega)) ?_
  obtain ⟨l, hl, el⟩ := rem_q hv0 (qc_1 (n := n) (tn := tn) |>.trans hO.e8) (by omega) (by omega)
  rw [el]
  refine g_istore_n (L1 := [(0, _), (1, _), (2, _), (3, _)]) dL_acts_11 (by decide) (by rfl) ?_
  refine g_iload_n dL_acts_12 (by rfl) ?_
  refine g_bipush (v := 32) dL_acts_13 (by decide) ?_
  refine g_idiv dL_acts_15 (by decide) ?_
  refine g_aload_n dL_acts_16 (by rfl) (by first | exact isRf_r | exact isRf_n | exact isRf_o | assumption) ?_
  refine g_iconst (v := 0) dL_acts_17 (by decide) ?_
  refine g_cV1x dL_acts_18 lL_9 vX9_count (ct_X9_count X hO hSys) (hSys.1) rfl ⟨Nat.le_of_ble_eq_true rfl, Nat.le_of_ble_eq_true rfl⟩ (Nat.le_of_ble_eq_true rfl) ⟨Nat.le_of_ble_eq_true rfl, Nat.le_of_ble_eq_true rfl⟩ ?_
  refine g_irem dL_acts_21 (nz_q (qc_0.trans hO.e7) (by omega) (by omega)) ?_
  obtain ⟨w, hw, ew⟩ := rem_q (x := v / 32) (by have q := div_q (q := 32) (m := 32) hv0 rfl (by omega) (by omega); omega) (qc_0 (n := n) (tn := tn) |>.trans hO.e7) (by omega) (by omega)
  rw [ew]
  refine g_istore (L1 := [(0, _), (1, _), (2, _), (3, _), (4, _)]) dL_acts_22 (by decide) (by rfl) ?_
  refine g_iload_n dL_acts_24 (by rfl) ?_
  refine g_sipush (v := 256) dL_acts_25 (by decide) ?_
  refine g_idiv dL_acts_28 (by decide) ?_
  refine g_aload_n dL_acts_29 (by rfl) (by first | exact isRf_r | exact isRf_n | exact isRf_o | assumption) ?_
  refine g_bipush (v := 7) dL_acts_30 (by decide) ?_
  refine g_cV1x dL_acts_32 lL_9 vX9_count (ct_X9_count X hO hSys) (hSys.1) rfl ⟨Nat.le_of_ble_eq_true rfl, Nat.le_of_ble_eq_true rfl⟩ (Nat.le_of_ble_eq_true rfl) ⟨Nat.le_of_ble_eq_true rfl, Nat.le_of_ble_eq_true rfl⟩ ?_
  refine g_irem dL_acts_35 (nz_q (qc_7.trans hO.e9) (by omega) (by omega)) ?_
  obtain ⟨i, hi, ei⟩ := rem_q (x := v / 256) (by have q := div_q (q := 256) (m := 256) hv0 rfl (by omega) (by omega); omega) (qc_7 (n := n) (tn := tn) |>.trans hO.e9) (by omega) (by omega)
  rw [ei]
  refine g_istore (L1 := [(0, _), (1, _), (2, _), (3, _), (4, _), (5, _)]) dL_acts_36 (by decide) (by rfl) ?_
  refine g_iload_n dL_acts_38 (by rfl) ?_
  refine g_bipush (v := 15) dL_acts_39 (by decide) ?_
  refine g_iand dL_acts_41 ?_
  generalize z &&& 15 = sv
  by_cases hsw : rngB 0 (nI 14) sv = true
  · skip
    obtain ⟨jsw, hjsw, rfl⟩ := sw_in (m := 14) (by omega) hsw
    rcases (show jsw = 0 ∨ jsw = 1 ∨ jsw = 2 ∨ jsw = 3 ∨ jsw = 4 ∨ jsw = 5 ∨ jsw = 6 ∨ jsw = 7 ∨ jsw = 8 ∨ jsw = 9 ∨ jsw = 10 ∨ jsw = 11 ∨ jsw = 12 ∨ jsw = 13 ∨ jsw = 14 by omega) with rfl | rfl | rfl | rfl | rfl | rfl | rfl | rfl | rfl | rfl | rfl | rfl | rfl | rfl | rfl
    · skip
      refine g_tableIn (tgt := 116) (off := 74) dL_acts_42 (by decide) (by decide) (by decide) (by decide) ?_
      refine g_aload_n dL_acts_116 (by rfl) (by first | exact isRf_r | exact isRf_n | exact isRf_o | assumption) ?_
      refine g_iload_n dL_acts_117 (by rfl) ?_
      refine g_iconst (v := 3) dL_acts_118 (by decide) ?_
      refine g_iand dL_acts_119 ?_
      refine g_bipush (v := 10) dL_acts_120 (by decide) ?_
      refine g_iload_n dL_acts_122 (by rfl) ?_
      refine g_iconst (v := 4) dL_acts_123 (by decide) ?_
      refine g_idiv dL_acts_124 (by decide) ?_
      refine g_sipush (v := 200) dL_acts_125 (by decide) ?_
      refine g_irem dL_acts_128 (by decide) ?_
      refine g_iadd dL_acts_129 ?_
      refine g_cV2 dL_acts_130 lL_85 vX9_vat (ct_X9_vat X hSep hn hO hSys) (hSys.1) rfl ⟨Nat.le_of_ble_eq_true rfl, Nat.le_of_ble_eq_true rfl⟩ (Nat.le_of_ble_eq_true rfl) ⟨Nat.le_of_ble_eq_true rfl, Nat.le_of_ble_eq_true rfl⟩ ?_
      rintro _ hh ⟨rfl, hT⟩
      have hOo := hO
      obtain ⟨D, R⟩ := R.deed hT (Ok_vat hO) (Ok2_vat hO hO2) (Snd_vat hO hSnd)
      obtain ⟨D, n, rows, R⟩ : ∃ D n rows, Run X h A B m C hh D _ n rows tn tg := ⟨_, _, _, R⟩
      obtain ⟨hSep, hSys, hn, hO, hO2, hSnd, hTk, hRs, hFr⟩ := id R
      refine g_stk (st' := [.int _]) rfl ?_
      refine g_bipush (v := (-3)) dL_acts_133 (by decide) ?_
      refine g_icmp_lt (tgt := 142) dL_acts_135 (by decide) (fun c1 => absurd c1 (ge_vat hOo)) (fun c1 => ?_)
      refine g_iconst (v := 1) dL_acts_138 (by decide) ?_
      refine g_goto (tgt := 143) dL_acts_139 (by decide) ?_
      refine g_zret dL_acts_143 rfl (by decide) (Nat.le_refl _) (Nat.le_refl _) ?_
      exact ⟨rfl, _, _, _, _, _, _, R, Sz_vat hOo hz⟩
    · skip
      refine g_tableIn (tgt := 144) (off := 102) dL_acts_42 (by decide) (by decide) (by decide) (by decide) ?_
      refine g_aload_n dL_acts_144 (by rfl) (by first | exact isRf_r | exact isRf_n | exact isRf_o | assumption) ?_
      refine g_iload dL_acts_145 (by rfl) ?_
      refine g_iconst (v := 1) dL_acts_147 (by decide) ?_
      refine g_iload_n dL_acts_148 (by rfl) ?_
      refine g_sipush (v := 256) dL_acts_149 (by decide) ?_
      refine g_idiv dL_acts_152 (by decide) ?_
      refine g_sipush (v := 20000) dL_acts_153 (by decide) ?_
      refine g_irem dL_acts_156 (by decide) ?_
      refine g_iadd dL_acts_157 ?_
      refine g_cV2 dL_acts_158 lL_88 vX9_weigh (ct_X9_weigh X hSep hn hO hSys) (hSys.1) rfl ⟨Nat.le_of_ble_eq_true rfl, Nat.le_of_ble_eq_true rfl⟩ (Nat.le_of_ble_eq_true rfl) ⟨Nat.le_of_ble_eq_true rfl, Nat.le_of_ble_eq_true rfl⟩ ?_
      rintro _ hh ⟨rfl, hT⟩
      have hOo := hO
      obtain ⟨D, R⟩ := R.deed hT (Ok_weigh hO) (Ok2_weigh hO hO2) (Snd_weigh hO hSnd)
      obtain ⟨D, n, rows, R⟩ : ∃ D n rows, Run X h A B m C hh D _ n rows tn tg := ⟨_, _, _, R⟩
      obtain ⟨hSep, hSys, hn, hO, hO2, hSnd, hTk, hRs, hFr⟩ := id R
      refine g_stk (st' := [.int _]) rfl ?_
      refine g_bipush (v := (-3)) dL_acts_161 (by decide) ?_
      refine g_icmp_lt (tgt := 170) dL_acts_163 (by decide) (fun c2 => absurd c2 (ge_weigh hOo)) (fun c2 => ?_)
      refine g_iconst (v := 1) dL_acts_166 (by decide) ?_
      refine g_goto (tgt := 171) dL_acts_167 (by decide) ?_
      refine g_zret dL_acts_171 rfl (by decide) (Nat.le_refl _) (Nat.le_refl _) ?_
      exact ⟨rfl, _, _, _, _, _, _, R, Sz_weigh hOo hz⟩
    · skip
      refine g_tableIn (tgt := 144) (off := 102) dL_acts_42 (by decide) (by decide) (by decide) (by decide) ?_
      refine g_aload_n dL_acts_144 (by rfl) (by first | exact isRf_r | exact isRf_n | exact isRf_o | assumption) ?_
      refine g_iload dL_acts_145 (by rfl) ?_
      refine g_iconst (v := 1) dL_acts_147 (by decide) ?_
      refine g_iload_n dL_acts_148 (by rfl) ?_
      refine g_sipush (v := 256) dL_acts_149 (by decide) ?_
      refine g_idiv dL_acts_152 (by decide) ?_
      refine g_sipush (v := 20000) dL_acts_153 (by decide) ?_
      refine g_irem dL_acts_156 (by decide) ?_
      refine g_iadd dL_acts_157 ?_
      refine g_cV2 dL_acts_158 lL_88 vX9_weigh (ct_X9_weigh X hSep hn hO hSys) (hSys.1) rfl ⟨Nat.le_of_ble_eq_true rfl, Nat.le_of_ble_eq_true rfl⟩ (Nat.le_of_ble_eq_true rfl) ⟨Nat.le_of_ble_eq_true rfl, Nat.le_of_ble_eq_true rfl⟩ ?_
      rintro _ hh ⟨rfl, hT⟩
      have hOo := hO
      obtain ⟨D, R⟩ := R.deed hT (Ok_weigh hO) (Ok2_weigh hO hO2) (Snd_weigh hO hSnd)
      obtain ⟨D, n, rows, R⟩ : ∃ D n rows, Run X h A B m C hh D _ n rows tn tg := ⟨_, _, _, R⟩
      obtain ⟨hSep, hSys, hn, hO, hO2, hSnd, hTk, hRs, hFr⟩ := id R
      refine g_stk (st' := [.int _]) rfl ?_
      refine g_bipush (v := (-3)) dL_acts_161 (by decide) ?_
      refine g_icmp_lt (tgt := 170) dL_acts_163 (by decide) (fun c3 => absurd c3 (ge_weigh hOo)) (fun c3 => ?_)
      refine g_iconst (v := 1) dL_acts_166 (by decide) ?_
      refine g_goto (tgt := 171) dL_acts_167 (by decide) ?_
      refine g_zret dL_acts_171 rfl (by decide) (Nat.le_refl _) (Nat.le_refl _) ?_
      exact ⟨rfl, _, _, _, _, _, _, R, Sz_weigh hOo hz⟩
    · skip
      refine g_tableIn (tgt := 172) (off := 130) dL_acts_42 (by decide) (by decide) (by decide) (by decide) ?_
      refine g_aload_n dL_acts_172 (by rfl) (by first | exact isRf_r | exact isRf_n | exact isRf_o | assumption) ?_
      refine g_iload_n dL_acts_173 (by rfl) ?_
      refine g_iconst (v := 1) dL_acts_174 (by decide) ?_
      refine g_iand dL_acts_175 ?_
      refine g_bipush (v := 100) dL_acts_176 (by decide) ?_
      refine g_iload_n dL_acts_178 (by rfl) ?_
      refine g_iconst (v := 2) dL_acts_179 (by decide) ?_
      refine g_idiv dL_acts_180 (by decide) ?_
      refine g_sipush (v := 900) dL_acts_181 (by decide) ?_
      refine g_irem dL_acts_184 (by decide) ?_
      refine g_iadd dL_acts_185 ?_
      refine g_cV2 dL_acts_186 lL_92 vX9_lot (ct_X9_lot X hSep hn hO hSys) (hSys.1) rfl ⟨Nat.le_of_ble_eq_true rfl, Nat.le_of_ble_eq_true rfl⟩ (Nat.le_of_ble_eq_true rfl) ⟨Nat.le_of_ble_eq_true rfl, Nat.le_of_ble_eq_true rfl⟩ ?_
      rintro _ hh ⟨rfl, hT⟩
      have hOo := hO
      obtain ⟨D, R⟩ := R.deed hT (Ok_lot hO) (Ok2_lot hO hO2) (Snd_lot hO hSnd)
      obtain ⟨D, n, rows, R⟩ : ∃ D n rows, Run X h A B m C hh D _ n rows tn tg := ⟨_, _, _, R⟩
      obtain ⟨hSep, hSys, hn, hO, hO2, hSnd, hTk, hRs, hFr⟩ := id R
      refine g_stk (st' := [.int _]) rfl ?_
      refine g_bipush (v := (-3)) dL_acts_189 (by decide) ?_
      refine g_icmp_lt (tgt := 198) dL_acts_191 (by decide) (fun c4 => absurd c4 (ge_lot hOo)) (fun c4 => ?_)
      refine g_iconst (v := 1) dL_acts_194 (by decide) ?_
      refine g_goto (tgt := 199) dL_acts_195 (by decide) ?_
      refine g_zret dL_acts_199 rfl (by decide) (Nat.le_refl _) (Nat.le_refl _) ?_
      exact ⟨rfl, _, _, _, _, _, _, R, Sz_lot hOo hz⟩
    · skip
      refine g_tableIn (tgt := 200) (off := 158) dL_acts_42 (by decide) (by decide) (by decide) (by decide) ?_
      refine g_aload_n dL_acts_200 (by rfl) (by first | exact isRf_r | exact isRf_n | exact isRf_o | assumption) ?_
      refine g_iload_n dL_acts_201 (by rfl) ?_
      refine g_iload dL_acts_202 (by rfl) ?_
      refine g_cV2 dL_acts_204 lL_48 vX9_dip (ct_X9_dip X hSep hn hO hSys) (hSys.1) rfl ⟨Nat.le_of_ble_eq_true rfl, Nat.le_of_ble_eq_true rfl⟩ (Nat.le_of_ble_eq_true rfl) ⟨Nat.le_of_ble_eq_true rfl, Nat.le_of_ble_eq_true rfl⟩ ?_
      rintro _ hh ⟨rfl, hT⟩
      have hOo := hO
      obtain ⟨D, R⟩ := R.deed hT (Ok_dip hO) (Ok2_dip hO hO2) (Snd_dip hO hSnd)
      obtain ⟨D, n, rows, R⟩ : ∃ D n rows, Run X h A B m C hh D _ n rows tn tg := ⟨_, _, _, R⟩
      obtain ⟨hSep, hSys, hn, hO, hO2, hSnd, hTk, hRs, hFr⟩ := id R
      refine g_stk (st' := [.int _]) rfl ?_
      refine g_bipush (v := (-2)) dL_acts_207 (by decide) ?_
      refine g_icmp_lt (tgt := 216) dL_acts_209 (by decide) (fun c5 => absurd c5 (ge_dip hOo)) (fun c5 => ?_)
      refine g_iconst (v := 1) dL_acts_212 (by decide) ?_
      refine g_goto (tgt := 217) dL_acts_213 (by decide) ?_
      refine g_zret dL_acts_217 rfl (by decide) (Nat.le_refl _) (Nat.le_refl _) ?_
      exact ⟨rfl, _, _, _, _, _, _, R, Sz_dip hOo hz⟩
    · skip
      refine g_tableIn (tgt := 200) (off := 158) dL_acts_42 (by decide) (by decide) (by decide) (by decide) ?_
      refine g_aload_n dL_acts_200 (by rfl) (by first | exact isRf_r | exact isRf_n | exact isRf_o | assumption) ?_
      refine g_iload_n dL_acts_201 (by rfl) ?_
      refine g_iload dL_acts_202 (by rfl) ?_
      refine g_cV2 dL_acts_204 lL_48 vX9_dip (ct_X9_dip X hSep hn hO hSys) (hSys.1) rfl ⟨Nat.le_of_ble_eq_true rfl, Nat.le_of_ble_eq_true rfl⟩ (Nat.le_of_ble_eq_true rfl) ⟨Nat.le_of_ble_eq_true rfl, Nat.le_of_ble_eq_true rfl⟩ ?_
      rintro _ hh ⟨rfl, hT⟩
      have hOo := hO
      obtain ⟨D, R⟩ := R.deed hT (Ok_dip hO) (Ok2_dip hO hO2) (Snd_dip hO hSnd)
      obtain ⟨D, n, rows, R⟩ : ∃ D n rows, Run X h A B m C hh D _ n rows tn tg := ⟨_, _, _, R⟩
      obtain ⟨hSep, hSys, hn, hO, hO2, hSnd, hTk, hRs, hFr⟩ := id R
      refine g_stk (st' := [.int _]) rfl ?_
      refine g_bipush (v := (-2)) dL_acts_207 (by decide) ?_
      refine g_icmp_lt (tgt := 216) dL_acts_209 (by decide) (fun c6 => absurd c6 (ge_dip hOo)) (fun c6 => ?_)
      refine g_iconst (v := 1) dL_acts_212 (by decide) ?_
      refine g_goto (tgt := 217) dL_acts_213 (by decide) ?_
      refine g_zret dL_acts_217 rfl (by decide) (Nat.le_refl _) (Nat.le_refl _) ?_
      exact ⟨rfl, _, _, _, _, _, _, R, Sz_dip hOo hz⟩
    · skip
      refine g_tableIn (tgt := 218) (off := 176) dL_acts_42 (by decide) (by decide) (by decide) (by decide) ?_
      refine g_aload_n dL_acts_218 (by rfl) (by first | exact isRf_r | exact isRf_n | exact isRf_o | assumption) ?_
      refine g_iload_n dL_acts_219 (by rfl) ?_
      refine g_cV1 dL_acts_220 lL_58 vX9_rinse (ct_X9_rinse X hSep hn hO hSys) (hSys.1) rfl ⟨Nat.le_of_ble_eq_true rfl, Nat.le_of_ble_eq_true rfl⟩ (Nat.le_of_ble_eq_true rfl) ⟨Nat.le_of_ble_eq_true rfl, Nat.le_of_ble_eq_true rfl⟩ ?_
      rintro _ hh ⟨rfl, hT⟩
      have hOo := hO
      obtain ⟨D, R⟩ := R.deed hT (Ok_rinse hO) (Ok2_rinse hO hO2) (Snd_rinse hO hSnd)
      obtain ⟨D, n, rows, R⟩ : ∃ D n rows, Run X h A B m C hh D _ n rows tn tg := ⟨_, _, _, R⟩
      obtain ⟨hSep, hSys, hn, hO, hO2, hSnd, hTk, hRs, hFr⟩ := id R
      refine g_stk (st' := [.int _]) rfl ?_
      refine g_bipush (v := (-2)) dL_acts_223 (by decide) ?_
      refine g_icmp_lt (tgt := 232) dL_acts_225 (by decide) (fun c7 => absurd c7 (ge_rinse hOo)) (fun c7 => ?_)
      refine g_iconst (v := 1) dL_acts_228 (by decide) ?_
      refine g_goto (tgt := 233) dL_acts_229 (by decide) ?_
      refine g_zret dL_acts_233 rfl (by decide) (Nat.le_refl _) (Nat.le_refl _) ?_
      exact ⟨rfl, _, _, _, _, _, _, R, Sz_rinse hOo hz⟩
    · skip
      refine g_tableIn (tgt := 234) (off := 192) dL_acts_42 (by decide) (by decide) (by decide) (by decide) ?_
      refine g_aload_n dL_acts_234 (by rfl) (by first | exact isRf_r | exact isRf_n | exact isRf_o | assumption) ?_
      refine g_iload_n dL_acts_235 (by rfl) ?_
      refine g_aload_n dL_acts_236 (by rfl) (by first | exact isRf_r | exact isRf_n | exact isRf_o | assumption) ?_
      refine g_iload_n dL_acts_237 (by rfl) ?_
      refine g_iconst (v := 0) dL_acts_238 (by decide) ?_
      refine g_cV2x dL_acts_239 lL_26 vX9_lotOf (ct_X9_lotOf X hO hSys) (hSys.1) rfl ⟨Nat.le_of_ble_eq_true rfl, Nat.le_of_ble_eq_true rfl⟩ (Nat.le_of_ble_eq_true rfl) ⟨Nat.le_of_ble_eq_true rfl, Nat.le_of_ble_eq_true rfl⟩ ?_
      refine g_cV2 dL_acts_242 lL_61 vX9_hang (ct_X9_hang X hSep hn hO hSys) (hSys.1) rfl ⟨Nat.le_of_ble_eq_true rfl, Nat.le_of_ble_eq_true rfl⟩ (Nat.le_of_ble_eq_true rfl) ⟨Nat.le_of_ble_eq_true rfl, Nat.le_of_ble_eq_true rfl⟩ ?_
      rintro _ hh ⟨rfl, hT⟩
      have hOo := hO
      obtain ⟨D, R⟩ := R.deed hT (Ok_hang hO) (Ok2_hang hO hO2) (Snd_hang hO hSnd)
      obtain ⟨D, n, rows, R⟩ : ∃ D n rows, Run X h A B m C hh D _ n rows tn tg := ⟨_, _, _, R⟩
      obtain ⟨hSep, hSys, hn, hO, hO2, hSnd, hTk, hRs, hFr⟩ := id R
      refine g_stk (st' := [.int _]) rfl ?_
      refine g_bipush (v := (-3)) dL_acts_245 (by decide) ?_
      refine g_icmp_lt (tgt := 272) dL_acts_247 (by decide) (fun c8 => absurd c8 (ge_hang hOo)) (fun c8 => ?_)
      have hlh : l < cl ((F_hang r (nI l) (Q_lotOf r (nI l) 0)).2 8) := by
        rw [(Sz_hang hz).2]
        exact hl
      refine g_aload_n dL_acts_250 (by rfl) (by first | exact isRf_r | exact isRf_n | exact isRf_o | assumption) ?_
      refine g_iload_n dL_acts_251 (by rfl) ?_
      refine g_iconst (v := 1) dL_acts_252 (by decide) ?_
      refine g_aload_n dL_acts_253 (by rfl) (by first | exact isRf_r | exact isRf_n | exact isRf_o | assumption) ?_
      refine g_iload_n dL_acts_254 (by rfl) ?_
      refine g_iconst (v := 0) dL_acts_255 (by decide) ?_
      refine g_cV2x dL_acts_256 lL_26 vX9_lotOf (ct_X9_lotOf X hO hSys) (hSys.1) rfl ⟨Nat.le_of_ble_eq_true rfl, Nat.le_of_ble_eq_true rfl⟩ (Nat.le_of_ble_eq_true rfl) ⟨Nat.le_of_ble_eq_true rfl, Nat.le_of_ble_eq_true rfl⟩ ?_
      refine g_isub dL_acts_259 ?_
      refine g_cV2 dL_acts_260 lL_61 vX9_hang (ct_X9_hang X hSep hn hO hSys) (hSys.1) rfl ⟨Nat.le_of_ble_eq_true rfl, Nat.le_of_ble_eq_true rfl⟩ (Nat.le_of_ble_eq_true rfl) ⟨Nat.le_of_ble_eq_true rfl, Nat.le_of_ble_eq_true rfl⟩ ?_
      rintro _ hh ⟨rfl, hT⟩
      obtain ⟨D, R⟩ := R.no hT (hang_w hO hlh) (by decide)
      refine g_stk (st' := [.int (-2)]) (congrArg (fun z : Int32 × (Nat → Int32) => [Value.int z.1]) (hang_w hO hlh)) ?_
      refine g_bipush (v := (-2)) dL_acts_263 (by decide) ?_
      refine g_icmp_ne (tgt := 272) dL_acts_265 (by decide) (fun c9 => absurd rfl c9) (fun c9 => ?_)
      refine g_iconst (v := 1) dL_acts_268 (by decide) ?_
      refine g_goto (tgt := 273) dL_acts_269 (by decide) ?_
      refine g_zret dL_acts_273 rfl (by decide) (Nat.le_refl _) (Nat.le_refl _) ?_
      exact ⟨rfl, _, _, _, _, _, _, R, (Sz_hang hz).1⟩
    · skip
      refine g_tableIn (tgt := 274) (off := 232) dL_acts_42 (by decide) (by decide) (by decide) (by decide) ?_
      refine g_aload_n dL_acts_274 (by rfl) (by first | exact isRf_r | exact isRf_n | exact isRf_o | assumption) ?_
      refine g_iload_n dL_acts_275 (by rfl) ?_
      refine g_cV1 dL_acts_276 lL_45 vX9_take (ct_X9_take X hSep hn hO hSys) (hSys.1) rfl ⟨Nat.le_of_ble_eq_true rfl, Nat.le_of_ble_eq_true rfl⟩ (Nat.le_of_ble_eq_true rfl) ⟨Nat.le_of_ble_eq_true rfl, Nat.le_of_ble_eq_true rfl⟩ ?_
      rintro _ hh ⟨rfl, hT⟩
      have hOo := hO
      obtain ⟨D, R⟩ := R.deed hT (Ok_take hO) (Ok2_take hO hO2) (Snd_take hO hSnd)
      obtain ⟨D, n, rows, R⟩ : ∃ D n rows, Run X h A B m C hh D _ n rows tn tg := ⟨_, _, _, R⟩
      obtain ⟨hSep, hSys, hn, hO, hO2, hSnd, hTk, hRs, hFr⟩ := id R
      refine g_stk (st' := [.int _]) rfl ?_
      refine g_bipush (v := (-2)) dL_acts_279 (by decide) ?_
      refine g_icmp_lt (tgt := 288) dL_acts_281 (by decide) (fun c10 => absurd c10 (ge_take hOo)) (fun c10 => ?_)
      refine g_iconst (v := 1) dL_acts_284 (by decide) ?_
      refine g_goto (tgt := 289) dL_acts_285 (by decide) ?_
      refine g_zret dL_acts_289 rfl (by decide) (Nat.le_refl _) (Nat.le_refl _) ?_
      exact ⟨rfl, _, _, _, _, _, _, R, Sz_take hz⟩
    · skip
      refine g_tableIn (tgt := 290) (off := 248) dL_acts_42 (by decide) (by decide) (by decide) (by decide) ?_
      refine g_aload_n dL_acts_290 (by rfl) (by first | exact isRf_r | exact isRf_n | exact isRf_o | assumption) ?_
      refine g_aload_n dL_acts_291 (by rfl) (by first | exact isRf_r | exact isRf_n | exact isRf_o | assumption) ?_
      refine g_iload_n dL_acts_292 (by rfl) ?_
      refine g_iconst (v := 0) dL_acts_293 (by decide) ?_
      refine g_cV2x dL_acts_294 lL_95 vX9_shade (ct_X9_shade X hO hSys) (hSys.1) rfl ⟨Nat.le_of_ble_eq_true rfl, Nat.le_of_ble_eq_true rfl⟩ (Nat.le_of_ble_eq_true rfl) ⟨Nat.le_of_ble_eq_true rfl, Nat.le_of_ble_eq_true rfl⟩ ?_
      refine g_aload_n dL_acts_297 (by rfl) (by first | exact isRf_r | exact isRf_n | exact isRf_o | assumption) ?_
      refine g_iload_n dL_acts_298 (by rfl) ?_
      refine g_iconst (v := 1) dL_acts_299 (by decide) ?_
      refine g_cV2x dL_acts_300 lL_95 vX9_shade (ct_X9_shade X hO hSys) (hSys.1) rfl ⟨Nat.le_of_ble_eq_true rfl, Nat.le_of_ble_eq_true rfl⟩ (Nat.le_of_ble_eq_true rfl) ⟨Nat.le_of_ble_eq_true rfl, Nat.le_of_ble_eq_true rfl⟩ ?_
      refine g_iload_n dL_acts_303 (by rfl) ?_
      refine g_sipush (v := 256) dL_acts_304 (by decide) ?_
      refine g_idiv dL_acts_307 (by decide) ?_
      refine g_sipush (v := 300) dL_acts_308 (by decide) ?_
      refine g_irem dL_acts_311 (by decide) ?_
      refine g_iadd dL_acts_312 ?_
      refine g_aload_n dL_acts_313 (by rfl) (by first | exact isRf_r | exact isRf_n | exact isRf_o | assumption) ?_
      refine g_iload_n dL_acts_314 (by rfl) ?_
      refine g_iconst (v := 2) dL_acts_315 (by decide) ?_
      refine g_cV2x dL_acts_316 lL_95 vX9_shade (ct_X9_shade X hO hSys) (hSys.1) rfl ⟨Nat.le_of_ble_eq_true rfl, Nat.le_of_ble_eq_true rfl⟩ (Nat.le_of_ble_eq_true rfl) ⟨Nat.le_of_ble_eq_true rfl, Nat.le_of_ble_eq_true rfl⟩ ?_
      refine g_aload_n dL_acts_319 (by rfl) (by first | exact isRf_r | exact isRf_n | exact isRf_o | assumption) ?_
      refine g_iload_n dL_acts_320 (by rfl) ?_
      refine g_iconst (v := 3) dL_acts_321 (by decide) ?_
      refine g_cV2x dL_acts_322 lL_95 vX9_shade (ct_X9_shade X hO hSys) (hSys.1) rfl ⟨Nat.le_of_ble_eq_true rfl, Nat.le_of_ble_eq_true rfl⟩ (Nat.le_of_ble_eq_true rfl) ⟨Nat.le_of_ble_eq_true rfl, Nat.le_of_ble_eq_true rfl⟩ ?_
      refine g_cV4 dL_acts_325 lL_101 vX9_order (ct_X9_order X hSep hn hO hSys) (hSys.1) rfl ⟨Nat.le_of_ble_eq_true rfl, Nat.le_of_ble_eq_true rfl⟩ (Nat.le_of_ble_eq_true rfl) ⟨Nat.le_of_ble_eq_true rfl, Nat.le_of_ble_eq_true rfl⟩ ?_
      rintro _ hh ⟨rfl, hT⟩
      have hOo := hO
      obtain ⟨D, R⟩ := R.deed hT (Ok_order hO) (Ok2_order hO hO2) (Snd_order hO hSnd)
      obtain ⟨D, n, rows, R⟩ : ∃ D n rows, Run X h A B m C hh D _ n rows tn tg := ⟨_, _, _, R⟩
      obtain ⟨hSep, hSys, hn, hO, hO2, hSnd, hTk, hRs, hFr⟩ := id R
      refine g_stk (st' := [.int _]) rfl ?_
      refine g_bipush (v := (-3)) dL_acts_328 (by decide) ?_
      refine g_icmp_lt (tgt := 337) dL_acts_330 (by decide) (fun c11 => absurd c11 (ge_order hOo)) (fun c11 => ?_)
      refine g_iconst (v := 1) dL_acts_333 (by decide) ?_
      refine g_goto (tgt := 338) dL_acts_334 (by decide) ?_
      refine g_zret dL_acts_338 rfl (by decide) (Nat.le_refl _) (Nat.le_refl _) ?_
      exact ⟨rfl, _, _, _, _, _, _, R, Sz_order hOo hz⟩
    · skip
      refine g_tableIn (tgt := 339) (off := 297) dL_acts_42 (by decide) (by decide) (by decide) (by decide) ?_
      refine g_aload_n dL_acts_339 (by rfl) (by first | exact isRf_r | exact isRf_n | exact isRf_o | assumption) ?_
      refine g_iload_n dL_acts_340 (by rfl) ?_
      refine g_iload dL_acts_341 (by rfl) ?_
      refine g_cV2 dL_acts_343 lL_105 vX9_sell (ct_X9_sell X hSep hn hO hSys) (hSys.1) rfl ⟨Nat.le_of_ble_eq_true rfl, Nat.le_of_ble_eq_true rfl⟩ (Nat.le_of_ble_eq_true rfl) ⟨Nat.le_of_ble_eq_true rfl, Nat.le_of_ble_eq_true rfl⟩ ?_
      rintro _ hh ⟨rfl, hT⟩
      have hOo := hO
      obtain ⟨D, R⟩ := R.deed hT (Ok_sell hO) (Ok2_sell hO hO2) (Snd_sell hO hSnd)
      obtain ⟨D, n, rows, R⟩ : ∃ D n rows, Run X h A B m C hh D _ n rows tn tg := ⟨_, _, _, R⟩
      obtain ⟨hSep, hSys, hn, hO, hO2, hSnd, hTk, hRs, hFr⟩ := id R
      refine g_stk (st' := [.int _]) rfl ?_
      refine g_bipush (v := (-2)) dL_acts_346 (by decide) ?_
      refine g_icmp_lt (tgt := 355) dL_acts_348 (by decide) (fun c12 => absurd c12 (ge_sell hOo)) (fun c12 => ?_)
      refine g_iconst (v := 1) dL_acts_351 (by decide) ?_
      refine g_goto (tgt := 356) dL_acts_352 (by decide) ?_
      refine g_zret dL_acts_356 rfl (by decide) (Nat.le_refl _) (Nat.le_refl _) ?_
      exact ⟨rfl, _, _, _, _, _, _, R, Sz_sell hz⟩
    · skip
      refine g_tableIn (tgt := 339) (off := 297) dL_acts_42 (by decide) (by decide) (by decide) (by decide) ?_
      refine g_aload_n dL_acts_339 (by rfl) (by first | exact isRf_r | exact isRf_n | exact isRf_o | assumption) ?_
      refine g_iload_n dL_acts_340 (by rfl) ?_
      refine g_iload dL_acts_341 (by rfl) ?_
      refine g_cV2 dL_acts_343 lL_105 vX9_sell (ct_X9_sell X hSep hn hO hSys) (hSys.1) rfl ⟨Nat.le_of_ble_eq_true rfl, Nat.le_of_ble_eq_true rfl⟩ (Nat.le_of_ble_eq_true rfl) ⟨Nat.le_of_ble_eq_true rfl, Nat.le_of_ble_eq_true rfl⟩ ?_
      rintro _ hh ⟨rfl, hT⟩
      have hOo := hO
      obtain ⟨D, R⟩ := R.deed hT (Ok_sell hO) (Ok2_sell hO hO2) (Snd_sell hO hSnd)
      obtain ⟨D, n, rows, R⟩ : ∃ D n rows, Run X h A B m C hh D _ n rows tn tg := ⟨_, _, _, R⟩
      obtain ⟨hSep, hSys, hn, hO, hO2, hSnd, hTk, hRs, hFr⟩ := id R
      refine g_stk (st' := [.int _]) rfl ?_
      refine g_bipush (v := (-2)) dL_acts_346 (by decide) ?_
      refine g_icmp_lt (tgt := 355) dL_acts_348 (by decide) (fun c13 => absurd c13 (ge_sell hOo)) (fun c13 => ?_)
      refine g_iconst (v := 1) dL_acts_351 (by decide) ?_
      refine g_goto (tgt := 356) dL_acts_352 (by decide) ?_
      refine g_zret dL_acts_356 rfl (by decide) (Nat.le_refl _) (Nat.le_refl _) ?_
      exact ⟨rfl, _, _, _, _, _, _, R, Sz_sell hz⟩
    · skip
      refine g_tableIn (tgt := 357) (off := 315) dL_acts_42 (by decide) (by decide) (by decide) (by decide) ?_
      refine g_aload_n dL_acts_357 (by rfl) (by first | exact isRf_r | exact isRf_n | exact isRf_o | assumption) ?_
      refine g_iload_n dL_acts_358 (by rfl) ?_
      refine g_iload dL_acts_359 (by rfl) ?_
      refine g_cS3 dL_acts_361 lL_111 rfl vL_plans (ct_L_plans X (l := l) (i := i) hl hi hz R.anew) ⟨Nat.le_of_ble_eq_true rfl, Nat.le_of_ble_eq_true rfl⟩ (Nat.le_of_ble_eq_true rfl) ⟨Nat.le_of_ble_eq_true rfl, Nat.le_of_ble_eq_true rfl⟩ ?_
      rintro _ hh ⟨rfl, D2, r2, n2, rows2, tn2, tg2, R2, hz2⟩
      have R := R.chain R2
      refine g_stk (st' := [.int 1]) rfl ?_
      refine g_zret dL_acts_364 rfl (by decide) (Nat.le_refl _) (Nat.le_refl _) ?_
      exact ⟨rfl, _, _, _, _, _, _, R, hz2⟩
    · skip
      refine g_tableIn (tgt := 365) (off := 323) dL_acts_42 (by decide) (by decide) (by decide) (by decide) ?_
      refine g_aload_n dL_acts_365 (by rfl) (by first | exact isRf_r | exact isRf_n | exact isRf_o | assumption) ?_
      refine g_iload_n dL_acts_366 (by rfl) ?_
      refine g_iload dL_acts_367 (by rfl) ?_
      refine g_iconst (v := 1) dL_acts_369 (by decide) ?_
      refine g_iload_n dL_acts_370 (by rfl) ?_
      refine g_ldc dL_acts_371 cL_115 ?_
      refine g_idiv dL_acts_373 (by decide) ?_
      refine g_bipush (v := 9) dL_acts_374 (by decide) ?_
      refine g_irem dL_acts_376 (by decide) ?_
      refine g_iadd dL_acts_377 ?_
      obtain ⟨q, hq, eq⟩ := rem_q (x := v / 65536) (q := 9) (m := 9) (by have q := div_q (q := 65536) (m := 65536) hv0 rfl (by omega) (by omega); omega) rfl (by omega) (by omega)
      rw [eq, show (1 : Int32) + nI q = nI (q + 1) by rw [← nI_1]; exact Int32.add_comm _ _]
      refine g_cS4 dL_acts_378 lL_116 rfl vL_takes (ct_L_takes X (l := l) (v := w) (t := q + 1) hl hw (by omega) (by omega) hz R.anew) ⟨Nat.le_of_ble_eq_true rfl, Nat.le_of_ble_eq_true rfl⟩ (Nat.le_of_ble_eq_true rfl) ⟨Nat.le_of_ble_eq_true rfl, Nat.le_of_ble_eq_true rfl⟩ ?_
      rintro _ hh ⟨rfl, D2, r2, n2, rows2, tn2, tg2, R2, hz2⟩
      have R := R.chain R2
      refine g_stk (st' := [.int 1]) rfl ?_
      refine g_zret dL_acts_381 rfl (by decide) (Nat.le_refl _) (Nat.le_refl _) ?_
      exact ⟨rfl, _, _, _, _, _, _, R, hz2⟩
    · skip
      refine g_tableIn (tgt := 382) (off := 340) dL_acts_42 (by decide) (by decide) (by decide) (by decide) ?_
      refine g_aload_n dL_acts_382 (by rfl) (by first | exact isRf_r | exact isRf_n | exact isRf_o | assumption) ?_
      refine g_iload_n dL_acts_383 (by rfl) ?_
      refine g_iload dL_acts_384 (by rfl) ?_
      refine g_cS3 dL_acts_386 lL_119 rfl vL_plays (ct_L_plays X (l := l) (v := w) hl hw hz R.anew) ⟨Nat.le_of_ble_eq_true rfl, Nat.le_of_ble_eq_true rfl⟩ (Nat.le_of_ble_eq_true rfl) ⟨Nat.le_of_ble_eq_true rfl, Nat.le_of_ble_eq_true rfl⟩ ?_
      rintro _ hh ⟨rfl, D2, r2, n2, rows2, tn2, tg2, R2, hz2⟩
      have R := R.chain R2
      refine g_stk (st' := [.int 1]) rfl ?_
      refine g_zret dL_acts_389 rfl (by decide) (Nat.le_refl _) (Nat.le_refl _) ?_
      exact ⟨rfl, _, _, _, _, _, _, R, hz2⟩
  · skip
    refine g_tableOut (tgt := 390) dL_acts_42 (sw_out (m := 14) (by omega) hsw) (by decide) ?_
    refine g_iload_n dL_acts_390 (by rfl) ?_
    refine g_iconst (v := 1) dL_acts_391 (by decide) ?_
    refine g_iand dL_acts_392 ?_
    refine g_if_ne (tgt := 413) dL_acts_393 (by decide) (fun c14 => ?_) (fun c14 => ?_)
    · skip
      refine g_aload_n dL_acts_413 (by rfl) (by first | exact isRf_r | exact isRf_n | exact isRf_o | assumption) ?_
      refine g_iconst (v := 4) dL_acts_414 (by decide) ?_
      refine g_iload_n dL_acts_415 (by rfl) ?_
      refine g_iconst (v := 2) dL_acts_416 (by decide) ?_
      refine g_idiv dL_acts_417 (by decide) ?_
      refine g_sipush (v := 900) dL_acts_418 (by decide) ?_
      refine g_irem dL_acts_421 (by decide) ?_
      obtain ⟨q, hq, eq⟩ := rem_q (x := v / 2) (q := 900) (m := 900) (by have q := div_q (q := 2) (m := 2) hv0 rfl (by omega) (by omega); omega) rfl (by omega) (by omega)
      rw [eq]
      refine g_cV2 dL_acts_422 lL_108 vX9_set (ct_X9_set X hSep hn hO hSys) (hSys.1) rfl ⟨Nat.le_of_ble_eq_true rfl, Nat.le_of_ble_eq_true rfl⟩ (Nat.le_of_ble_eq_true rfl) ⟨Nat.le_of_ble_eq_true rfl, Nat.le_of_ble_eq_true rfl⟩ ?_
      rintro _ hh ⟨rfl, hT⟩
      have hOo := hO
      obtain ⟨D, R⟩ := R.deed hT (Ok_set hO) (Ok2_set hO hO2) (Snd_set hO hSnd)
      obtain ⟨D, n, rows, R⟩ : ∃ D n rows, Run X h A B m C hh D _ n rows tn tg := ⟨_, _, _, R⟩
      obtain ⟨hSep, hSys, hn, hO, hO2, hSnd, hTk, hRs, hFr⟩ := id R
      refine g_stk (st' := [.int _]) rfl ?_
      refine g_if_lt (tgt := 432) dL_acts_425 (by decide) (fun c15 => absurd c15 (set_4 hOo (by omega))) (fun c15 => ?_)
      have hzz := Sz_set (a := 4) (b := nI q) hz
      refine g_iconst (v := 1) dL_acts_428 (by decide) ?_
      refine g_goto (tgt := 433) dL_acts_429 (by decide) ?_
      refine g_zret dL_acts_433 rfl (by decide) (Nat.le_refl _) (Nat.le_refl _) ?_
      exact ⟨rfl, _, _, _, _, _, _, R, hzz⟩
    · skip
      refine g_aload_n dL_acts_396 (by rfl) (by first | exact isRf_r | exact isRf_n | exact isRf_o | assumption) ?_
      refine g_iload dL_acts_397 (by rfl) ?_
      refine g_cV1 dL_acts_399 lL_82 vX9_drain (ct_X9_drain X hSep hn hO hSys) (hSys.1) rfl ⟨Nat.le_of_ble_eq_true rfl, Nat.le_of_ble_eq_true rfl⟩ (Nat.le_of_ble_eq_true rfl) ⟨Nat.le_of_ble_eq_true rfl, Nat.le_of_ble_eq_true rfl⟩ ?_
      rintro _ hh ⟨rfl, hT⟩
      have hOo := hO
      obtain ⟨D, R⟩ := R.deed hT (Ok_drain hO) (Ok2_drain hO hO2) (Snd_drain hO hSnd)
      obtain ⟨D, n, rows, R⟩ : ∃ D n rows, Run X h A B m C hh D _ n rows tn tg := ⟨_, _, _, R⟩
      obtain ⟨hSep, hSys, hn, hO, hO2, hSnd, hTk, hRs, hFr⟩ := id R
      refine g_stk (st' := [.int _]) rfl ?_
      refine g_if_lt (tgt := 409) dL_acts_402 (by decide) (fun c16 => absurd c16 (drn_y hOo hw).1) (fun c16 => ?_)
      have hzz := Sz_drain hOo hw hz
      refine g_iconst (v := 1) dL_acts_405 (by decide) ?_
      refine g_goto (tgt := 433) dL_acts_406 (by decide) ?_
      refine g_zret dL_acts_433 rfl (by decide) (Nat.le_refl _) (Nat.le_refl _) ?_
      exact ⟨rfl, _, _, _, _, _, _, R, hzz⟩
