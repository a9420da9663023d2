set_option maxHeartbeats 4000000 in
set_option maxRecDepth 100000 in
theorem ct_X10_dyes (X : Cx) {h : Hp} {a n1 : Nat} {r : Nat → Int32} {l v d : Nat} {t : Int32}  (hM : MoAt X h a n1 r) (hO : Ok r) (hl : l < 20) (hv : v < 6) (hlo : LOk (ltx r l)) (hvo : VOk (vt r v)) (hd : d < 4) (ed : vt r v 0 = nI d) (ht : tkR r l v = t) : Ct X mX10_dyes 3 0 0 [.ref a, .int (nI l), .int (nI v)] h (Ex (.int t) (hr X h n1 (dyeR r l v))) := by
  obtain ⟨⟨n2, st, n3, n4, le, n5, at0, lt, n6, fl, n7, m0⟩, m1⟩ := id hM
  unfold mdl at m0
  have dA := hM.ne
  have hk := dok_of hO.set hvo hlo
  have hO6 := Ok_dye hO hl hv hlo hvo
  have hG := GB_of hO6 hl
  have hp6 : 0 < ((ltx (dy6 r l v d t) l) 1).toInt := by
    show 0 < (dy6 r l v d t (43 + 15 * l + 1)).toInt
    rw [dy6_l (by omega), soakG_m (by omega) (by omega) (by omega)]
    exact hlo.pos
  have hb6 : GB (ltx (dy6 r l v d t) l) := by
    intro e he
    have q := hG e he
    have e1 : ∀ k, k < 10 → ltx (dyeR r l v) l k = ltx (dy6 r l v d t) l k := by
      intro k hk
      rw [dye_ll (by omega), ed, cl_nI (by omega), ht, soakF_o (by omega) (by omega)]
      exact (dy6_l (by omega)).symm
    rw [e1 _ (by omega), e1 _ (by omega)] at q
    exact q
  have eD : depC (ltx (dy6 r l v d t) l) = depC (soakG (ltx r l) r d t) := dep_ext (fun k hk => dy6_l (by omega))
  refine Ct.ofG vX10_dyes.1.2.2.1 (Nat.le_of_ble_eq_true rfl) ?_
  show G X RX10 cX10_dyes 8 (some .int) "dyes" (Rm 3 0 0) (Fm X (Ex (.int t) (hr X h n1 (dyeR r l v))) 0 0) 0 0 0 [(0, .ref a), (1, .int (nI l)), (2, .int (nI v))] [] h
  refine g_bipush (v := 19) dX10_dyes_0 (by decide) ?_
  refine g_iconst (v := 4) dX10_dyes_2 (by decide) ?_
  refine g_iload_n dX10_dyes_3 (by rfl) ?_
  refine g_imul dX10_dyes_4 ?_
  refine g_iadd dX10_dyes_5 ?_
  rw [show (19 : Int32) + 4 * nI v = nI (19 + 4 * v) from lin3a]
  refine g_istore_n (L1 := [(0, _), (1, _), (2, _), (3, _)]) dX10_dyes_6 (by decide) (by rfl) ?_
  refine g_aload_n dX10_dyes_7 (by rfl) (by first | exact isRf_r | exact isRf_n | exact isRf_o | assumption) ?_
  refine g_getf dX10_dyes_8 fX10_7 (by first | exact m0 | exact hr_a dA m0) (by rfl) ?_
  refine g_iload_n dX10_dyes_11 (by rfl) ?_
  refine g_ilM (19 + 4 * v) dX10_dyes_12 (by first | exact m1 | exact hr_n) (by first | rfl | exact lin3 | exact lin3a | exact linA | exact linB) (by omega) ?_
  rw [show r (19 + 4 * v) = nI d from ed]
  refine g_istore (L1 := [(0, _), (1, _), (2, _), (3, _), (4, _)]) dX10_dyes_13 (by decide) (by rfl) ?_
  refine g_aload_n dX10_dyes_15 (by rfl) (by first | exact isRf_r | exact isRf_n | exact isRf_o | assumption) ?_
  refine g_iload_n dX10_dyes_16 (by rfl) ?_
  refine g_iload_n dX10_dyes_17 (by rfl) ?_
  refine g_aload_n dX10_dyes_18 (by rfl) (by first | exact isRf_r | exact isRf_n | exact isRf_o | assumption) ?_
  refine g_getf dX10_dyes_19 fX10_7 (by first | exact m0 | exact hr_a dA m0) (by rfl) ?_
  refine g_iload_n dX10_dyes_22 (by rfl) ?_
  refine g_iconst (v := 2) dX10_dyes_23 (by decide) ?_
  refine g_iadd dX10_dyes_24 ?_
  refine g_ilM (19 + 4 * v + 2) dX10_dyes_25 (by first | exact m1 | exact hr_n) (by first | rfl | exact lin3 | exact lin3a | exact linA | exact linB) (by omega) ?_
  refine g_cV3x dX10_dyes_26 lX10_84 vX10_taken (ct_X10_taken X hM hl hv hk) (by first | exact m0 | exact hr_a dA m0) rfl ⟨Nat.le_of_ble_eq_true rfl, Nat.le_of_ble_eq_true rfl⟩ (Nat.le_of_ble_eq_true rfl) ⟨Nat.le_of_ble_eq_true rfl, Nat.le_of_ble_eq_true rfl⟩ ?_
  rw [show takF (r 0) (ltx r l) (r (19 + 4 * v + 2)) (vt r v 1) = t from ht]
  refine g_istore (L1 := [(0, _), (1, _), (2, _), (3, _), (4, _), (5, _)]) dX10_dyes_29 (by decide) (by rfl) ?_
  refine g_iload dX10_dyes_31 (by rfl) ?_
  refine g_aload_n dX10_dyes_33 (by rfl) (by first | exact isRf_r | exact isRf_n | exact isRf_o | assumption) ?_
  refine g_getf dX10_dyes_34 fX10_7 (by first | exact m0 | exact hr_a dA m0) (by rfl) ?_
  refine g_iconst (v := 5) dX10_dyes_37 (by decide) ?_
  refine g_ilM (5) dX10_dyes_38 (by first | exact m1 | exact hr_n) (by first | rfl | exact lin3 | exact lin3a | exact linA | exact linB) (by omega) ?_
  refine g_imul dX10_dyes_39 ?_
  refine g_bipush (v := 100) dX10_dyes_40 (by decide) ?_
  refine g_idiv dX10_dyes_42 (by decide) ?_
  refine g_istore (L1 := [(0, _), (1, _), (2, _), (3, _), (4, _), (5, _), (6, _)]) dX10_dyes_43 (by decide) (by rfl) ?_
  refine g_aload_n dX10_dyes_45 (by rfl) (by first | exact isRf_r | exact isRf_n | exact isRf_o | assumption) ?_
  refine g_getf dX10_dyes_46 fX10_7 (by first | exact m0 | exact hr_a dA m0) (by rfl) ?_
  refine g_iload_n dX10_dyes_49 (by rfl) ?_
  refine g_iconst (v := 3) dX10_dyes_50 (by decide) ?_
  refine g_iadd dX10_dyes_51 ?_
  refine g_ilM (19 + 4 * v + 3) dX10_dyes_52 (by first | exact m1 | exact hr_n) (by first | rfl | exact lin3 | exact lin3a | exact linA | exact linB) (by omega) ?_
  refine g_aload_n dX10_dyes_53 (by rfl) (by first | exact isRf_r | exact isRf_n | exact isRf_o | assumption) ?_
  refine g_getf dX10_dyes_54 fX10_7 (by first | exact m0 | exact hr_a dA m0) (by rfl) ?_
  refine g_iconst (v := 2) dX10_dyes_57 (by decide) ?_
  refine g_ilM (2) dX10_dyes_58 (by first | exact m1 | exact hr_n) (by first | rfl | exact lin3 | exact lin3a | exact linA | exact linB) (by omega) ?_
  have J67 : G X RX10 cX10_dyes 8 (some .int) "dyes" (Rm 3 0 0) (Fm X (Ex (.int t) (hr X h n1 (dyeR r l v))) 0 0) 0 0 67 [(0, .ref a), (1, .int (nI l)), (2, .int (nI v)), (3, .int (nI (19 + 4 * v))), (4, .int (nI d)), (5, .int t), (6, .int (t * r 5 / 100))] [.int (bI (decide (r 2 < r (19 + 4 * v + 3))))] h := by
    refine g_istore (L1 := [(0, _), (1, _), (2, _), (3, _), (4, _), (5, _), (6, _), (7, _)]) dX10_dyes_67 (by decide) (by rfl) ?_
    refine g_aload_n dX10_dyes_69 (by rfl) (by first | exact isRf_r | exact isRf_n | exact isRf_o | assumption) ?_
    refine g_getf dX10_dyes_70 fX10_7 (by first | exact m0 | exact hr_a dA m0) (by rfl) ?_
    refine g_iload_n dX10_dyes_73 (by rfl) ?_
    refine g_iconst (v := 2) dX10_dyes_74 (by decide) ?_
    refine g_iadd dX10_dyes_75 ?_
    refine g_dup2 dX10_dyes_76 (by rfl) (by rfl) ?_
    refine g_ilM (19 + 4 * v + 2) dX10_dyes_77 (by first | exact m1 | exact hr_n) (by first | rfl | exact lin3 | exact lin3a | exact linA | exact linB) (by omega) ?_
    refine g_iload dX10_dyes_78 (by rfl) ?_
    refine g_isub dX10_dyes_80 ?_
    first | refine g_isH (19 + 4 * v + 2) dX10_dyes_81 (by first | rfl | exact lin3 | exact lin3a | exact linA | exact linB) (by omega) ?_ | refine g_isM (19 + 4 * v + 2) dX10_dyes_81 (by first | exact m1 | exact hr_n) (by first | rfl | exact lin3 | exact lin3a | exact linA | exact linB) (by omega) ?_
    refine g_aload_n dX10_dyes_82 (by rfl) (by first | exact isRf_r | exact isRf_n | exact isRf_o | assumption) ?_
    refine g_getf dX10_dyes_83 fX10_7 (by first | exact m0 | exact hr_a dA m0) (by rfl) ?_
    refine g_iload_n dX10_dyes_86 (by rfl) ?_
    refine g_iconst (v := 3) dX10_dyes_87 (by decide) ?_
    refine g_iadd dX10_dyes_88 ?_
    refine g_dup2 dX10_dyes_89 (by rfl) (by rfl) ?_
    refine g_ilM (19 + 4 * v + 3) dX10_dyes_90 (by first | exact m1 | exact hr_n) (by first | rfl | exact lin3 | exact lin3a | exact linA | exact linB) (by omega) ?_
    rw [upd_n (by omega)]
    refine g_aload_n dX10_dyes_91 (by rfl) (by first | exact isRf_r | exact isRf_n | exact isRf_o | assumption) ?_
    refine g_iload_n dX10_dyes_92 (by rfl) ?_
    refine g_iconst (v := 1) dX10_dyes_93 (by decide) ?_
    refine g_cV2x dX10_dyes_94 lX10_35 vX10_lotNumber (ct_X10_lotNumber X (i := l) (k := 1) (by first | exact hM | exact hM.hr) (by omega)) (by first | exact m0 | exact hr_a dA m0) rfl ⟨Nat.le_of_ble_eq_true rfl, Nat.le_of_ble_eq_true rfl⟩ (Nat.le_of_ble_eq_true rfl) ⟨Nat.le_of_ble_eq_true rfl, Nat.le_of_ble_eq_true rfl⟩ ?_
    rw [upd_n (by omega)]
    refine g_aload_n dX10_dyes_97 (by rfl) (by first | exact isRf_r | exact isRf_n | exact isRf_o | assumption) ?_
    refine g_getf dX10_dyes_98 fX10_7 (by first | exact m0 | exact hr_a dA m0) (by rfl) ?_
    refine g_iconst (v := 1) dX10_dyes_101 (by decide) ?_
    refine g_ilM (1) dX10_dyes_102 (by first | exact m1 | exact hr_n) (by first | rfl | exact lin3 | exact lin3a | exact linA | exact linB) (by omega) ?_
    rw [upd_n (by omega)]
    refine g_imul dX10_dyes_103 ?_
    refine g_sipush (v := 999) dX10_dyes_104 (by decide) ?_
    refine g_iadd dX10_dyes_107 ?_
    refine g_sipush (v := 1000) dX10_dyes_108 (by decide) ?_
    refine g_idiv dX10_dyes_111 (by decide) ?_
    refine g_iadd dX10_dyes_112 ?_
    first | refine g_isH (19 + 4 * v + 3) dX10_dyes_113 (by first | rfl | exact lin3 | exact lin3a | exact linA | exact linB) (by omega) ?_ | refine g_isM (19 + 4 * v + 3) dX10_dyes_113 (by first | exact m1 | exact hr_n) (by first | rfl | exact lin3 | exact lin3a | exact linA | exact linB) (by omega) ?_
    refine g_aload_n dX10_dyes_114 (by rfl) (by first | exact isRf_r | exact isRf_n | exact isRf_o | assumption) ?_
    refine g_iload_n dX10_dyes_115 (by rfl) ?_
    refine g_bipush (v := 6) dX10_dyes_116 (by decide) ?_
    refine g_iload dX10_dyes_118 (by rfl) ?_
    refine g_iadd dX10_dyes_120 ?_
    rw [show (6 : Int32) + nI d = nI (6 + d) from linA]
    refine g_aload_n dX10_dyes_121 (by rfl) (by first | exact isRf_r | exact isRf_n | exact isRf_o | assumption) ?_
    refine g_iload_n dX10_dyes_122 (by rfl) ?_
    refine g_bipush (v := 6) dX10_dyes_123 (by decide) ?_
    refine g_iload dX10_dyes_125 (by rfl) ?_
    refine g_iadd dX10_dyes_127 ?_
    rw [show (6 : Int32) + nI d = nI (6 + d) from linA]
    refine g_cV2x dX10_dyes_128 lX10_35 vX10_lotNumber (ct_X10_lotNumber X (i := l) (k := 6 + d) (by first | exact hM | exact hM.hr) (by omega)) (by first | exact m0 | exact hr_a dA m0) rfl ⟨Nat.le_of_ble_eq_true rfl, Nat.le_of_ble_eq_true rfl⟩ (Nat.le_of_ble_eq_true rfl) ⟨Nat.le_of_ble_eq_true rfl, Nat.le_of_ble_eq_true rfl⟩ ?_
    rw [upd_n (by omega), upd_n (by omega)]
    refine g_iload dX10_dyes_131 (by rfl) ?_
    refine g_iadd dX10_dyes_133 ?_
    refine g_cV3v dX10_dyes_134 lX10_80 vX10_puts (ct_X10_puts X (i := l) (k := 6 + d) (by first | exact hM | exact hM.hr) (by omega)) (by first | exact m0 | exact hr_a dA m0) rfl ⟨Nat.le_of_ble_eq_true rfl, Nat.le_of_ble_eq_true rfl⟩ (Nat.le_of_ble_eq_true rfl) ⟨Nat.le_of_ble_eq_true rfl, Nat.le_of_ble_eq_true rfl⟩ ?_
    rw [hrr]
    refine g_aload_n dX10_dyes_137 (by rfl) (by first | exact isRf_r | exact isRf_n | exact isRf_o | assumption) ?_
    refine g_iload_n dX10_dyes_138 (by rfl) ?_
    refine g_iconst (v := 2) dX10_dyes_139 (by decide) ?_
    refine g_iload dX10_dyes_140 (by rfl) ?_
    refine g_iadd dX10_dyes_142 ?_
    rw [show (2 : Int32) + nI d = nI (2 + d) from linA]
    refine g_aload_n dX10_dyes_143 (by rfl) (by first | exact isRf_r | exact isRf_n | exact isRf_o | assumption) ?_
    refine g_iload_n dX10_dyes_144 (by rfl) ?_
    refine g_iconst (v := 2) dX10_dyes_145 (by decide) ?_
    refine g_iload dX10_dyes_146 (by rfl) ?_
    refine g_iadd dX10_dyes_148 ?_
    rw [show (2 : Int32) + nI d = nI (2 + d) from linA]
    refine g_cV2x dX10_dyes_149 lX10_35 vX10_lotNumber (ct_X10_lotNumber X (i := l) (k := 2 + d) (by first | exact hM | exact hM.hr) (by omega)) (by first | exact m0 | exact hr_a dA m0) rfl ⟨Nat.le_of_ble_eq_true rfl, Nat.le_of_ble_eq_true rfl⟩ (Nat.le_of_ble_eq_true rfl) ⟨Nat.le_of_ble_eq_true rfl, Nat.le_of_ble_eq_true rfl⟩ ?_
    rw [upd_n (by omega), upd_n (by omega), upd_n (by omega)]
    refine g_iload dX10_dyes_152 (by rfl) ?_
    refine g_iadd dX10_dyes_154 ?_
    refine g_iload dX10_dyes_155 (by rfl) ?_
    refine g_isub dX10_dyes_157 ?_
    refine g_cV3v dX10_dyes_158 lX10_80 vX10_puts (ct_X10_puts X (i := l) (k := 2 + d) (by first | exact hM | exact hM.hr) (by omega)) (by first | exact m0 | exact hr_a dA m0) rfl ⟨Nat.le_of_ble_eq_true rfl, Nat.le_of_ble_eq_true rfl⟩ (Nat.le_of_ble_eq_true rfl) ⟨Nat.le_of_ble_eq_true rfl, Nat.le_of_ble_eq_true rfl⟩ ?_
    rw [hrr]
    refine g_aload_n dX10_dyes_161 (by rfl) (by first | exact isRf_r | exact isRf_n | exact isRf_o | assumption) ?_
    refine g_iload_n dX10_dyes_162 (by rfl) ?_
    refine g_bipush (v := 14) dX10_dyes_163 (by decide) ?_
    refine g_aload_n dX10_dyes_165 (by rfl) (by first | exact isRf_r | exact isRf_n | exact isRf_o | assumption) ?_
    refine g_iload_n dX10_dyes_166 (by rfl) ?_
    refine g_bipush (v := 14) dX10_dyes_167 (by decide) ?_
    refine g_cV2x dX10_dyes_169 lX10_35 vX10_lotNumber (ct_X10_lotNumber X (i := l) (k := 14) (by first | exact hM | exact hM.hr) (by omega)) (by first | exact m0 | exact hr_a dA m0) rfl ⟨Nat.le_of_ble_eq_true rfl, Nat.le_of_ble_eq_true rfl⟩ (Nat.le_of_ble_eq_true rfl) ⟨Nat.le_of_ble_eq_true rfl, Nat.le_of_ble_eq_true rfl⟩ ?_
    rw [upd_n (by omega), upd_n (by omega), upd_n (by omega), upd_n (by omega)]
    refine g_iconst (v := 1) dX10_dyes_172 (by decide) ?_
    refine g_iadd dX10_dyes_173 ?_
    refine g_cV3v dX10_dyes_174 lX10_80 vX10_puts (ct_X10_puts X (i := l) (k := 14) (by first | exact hM | exact hM.hr) (by omega)) (by first | exact m0 | exact hr_a dA m0) rfl ⟨Nat.le_of_ble_eq_true rfl, Nat.le_of_ble_eq_true rfl⟩ (Nat.le_of_ble_eq_true rfl) ⟨Nat.le_of_ble_eq_true rfl, Nat.le_of_ble_eq_true rfl⟩ ?_
    rw [hrr]
    refine g_aload_n dX10_dyes_177 (by rfl) (by first | exact isRf_r | exact isRf_n | exact isRf_o | assumption) ?_
    refine g_getf dX10_dyes_178 fX10_7 (by first | exact m0 | exact hr_a dA m0) (by rfl) ?_
    refine g_bipush (v := 10) dX10_dyes_181 (by decide) ?_
    refine g_dup2 dX10_dyes_183 (by rfl) (by rfl) ?_
    refine g_ilM (10) dX10_dyes_184 (by first | exact m1 | exact hr_n) (by first | rfl | exact lin3 | exact lin3a | exact linA | exact linB) (by omega) ?_
    rw [upd_n (by omega), upd_n (by omega), upd_n (by omega), upd_n (by omega), upd_n (by omega)]
    refine g_iconst (v := 1) dX10_dyes_185 (by decide) ?_
    refine g_iadd dX10_dyes_186 ?_
    first | refine g_isH (10) dX10_dyes_187 (by first | rfl | exact lin3 | exact lin3a | exact linA | exact linB) (by omega) ?_ | refine g_isM (10) dX10_dyes_187 (by first | exact m1 | exact hr_n) (by first | rfl | exact lin3 | exact lin3a | exact linA | exact linB) (by omega) ?_
    rw [hr_e (dy6_e hl hv hd)]
    refine g_iload dX10_dyes_188 (by rfl) ?_
    have J225 : ∀ s, s = spoV (ltx r l) (vt r v) r d t → G X RX10 cX10_dyes 8 (some .int) "dyes" (Rm 3 0 0) (Fm X (Ex (.int t) (hr X h n1 (dyeR r l v))) 0 0) 0 0 225 [(0, .ref a), (1, .int (nI l)), (4, .int (nI d)), (5, .int t)] [] (hr X h n1 (upd (dy6 r l v d t) (43 + 15 * l + 11) s)) := by
      intro s hs
      have hpS : 0 < ((ltx (upd (dy6 r l v d t) (43 + 15 * l + 11) s) l) 1).toInt := by
        show 0 < (upd (dy6 r l v d t) (43 + 15 * l + 11) s (43 + 15 * l + 1)).toInt
        rw [upd_n (by omega)]
        exact hp6
      have eS : shF (ltx (upd (dy6 r l v d t) (43 + 15 * l + 11) s) l) 3 = shF (soakG (ltx r l) r d t) 3 := by
        refine shF_ext (by omega) (fun k hk => ?_)
        show upd (dy6 r l v d t) (43 + 15 * l + 11) s (43 + 15 * l + k) = _
        rw [upd_n (by omega)]
        exact dy6_l (by omega)
      have hsz : bz s := by
        rw [hs]
        obtain ⟨-, -, -, -, -, b1, -⟩ := hlo
        exact spoV_bz b1
      refine g_aload_n dX10_dyes_225 (by rfl) (by first | exact isRf_r | exact isRf_n | exact isRf_o | assumption) ?_
      refine g_iload_n dX10_dyes_226 (by rfl) ?_
      refine g_bipush (v := 11) dX10_dyes_227 (by decide) ?_
      refine g_cV2x dX10_dyes_229 lX10_35 vX10_lotNumber (ct_X10_lotNumber X (i := l) (k := 11) (by first | exact hM | exact hM.hr) (by omega)) (by first | exact m0 | exact hr_a dA m0) rfl ⟨Nat.le_of_ble_eq_true rfl, Nat.le_of_ble_eq_true rfl⟩ (Nat.le_of_ble_eq_true rfl) ⟨Nat.le_of_ble_eq_true rfl, Nat.le_of_ble_eq_true rfl⟩ ?_
      rw [upd_s]
      refine g_iconst (v := 1) dX10_dyes_232 (by decide) ?_
      refine g_icmp_ne (tgt := 274) dX10_dyes_233 (by decide) (fun c1 => ?_) (fun c1 => ?_)
      · skip
        have hz : ¬ savP (ltx r l) r d t (spoV (ltx r l) (vt r v) r d t) := fun z => c1 (by
          rw [← hs] at z
          rcases hsz with y | y
          · exact absurd y z.1
          · exact y)
        refine g_iload dX10_dyes_274 (by rfl) ?_
        refine g_iret dX10_dyes_276 rfl (Nat.le_refl _) (Nat.le_refl _) ?_
        refine Ex.i rfl (hr_e ?_)
        first
          | exact dye_t hd ed ht hz
          | exact dye_f hd ed ht hs hz
      · skip
        have c_one : s = 1 := c1
        refine g_iload dX10_dyes_236 (by rfl) ?_
        refine g_iconst (v := 3) dX10_dyes_238 (by decide) ?_
        refine g_icmp_ne (tgt := 274) dX10_dyes_239 (by decide) (fun c2 => ?_) (fun c2 => ?_)
        · skip
          have hz : ¬ savP (ltx r l) r d t (spoV (ltx r l) (vt r v) r d t) := fun z => c2 (by rw [z.2.1]; rfl)
          refine g_iload dX10_dyes_274 (by rfl) ?_
          refine g_iret dX10_dyes_276 rfl (Nat.le_refl _) (Nat.le_refl _) ?_
          refine Ex.i rfl (hr_e ?_)
          first
            | exact dye_t hd ed ht hz
            | exact dye_f hd ed ht hs hz
        · skip
          have d3 := c_eq (b := 3) (by omega) (by omega) (show nI d = nI 3 from c2)
          refine g_aload_n dX10_dyes_242 (by rfl) (by first | exact isRf_r | exact isRf_n | exact isRf_o | assumption) ?_
          refine g_iload_n dX10_dyes_243 (by rfl) ?_
          refine g_iconst (v := 3) dX10_dyes_244 (by decide) ?_
          refine g_cV2x dX10_dyes_245 lX10_91 vX10_shadeOf (ct_X10_shadeOf X (d := 3) hM.hr hl (by omega) hpS) (by first | exact m0 | exact hr_a dA m0) rfl ⟨Nat.le_of_ble_eq_true rfl, Nat.le_of_ble_eq_true rfl⟩ (Nat.le_of_ble_eq_true rfl) ⟨Nat.le_of_ble_eq_true rfl, Nat.le_of_ble_eq_true rfl⟩ ?_
          rw [eS]
          refine g_aload_n dX10_dyes_248 (by rfl) (by first | exact isRf_r | exact isRf_n | exact isRf_o | assumption) ?_
          refine g_getf dX10_dyes_249 fX10_7 (by first | exact m0 | exact hr_a dA m0) (by rfl) ?_
          refine g_bipush (v := 6) dX10_dyes_252 (by decide) ?_
          refine g_ilM (6) dX10_dyes_254 (by first | exact m1 | exact hr_n) (by first | rfl | exact lin3 | exact lin3a | exact linA | exact linB) (by omega) ?_
          rw [upd_n (by omega), dy6_lo (by omega)]
          refine g_icmp_lt (tgt := 274) dX10_dyes_255 (by decide) (fun c3 => ?_) (fun c3 => ?_)
          · skip
            have hz : ¬ savP (ltx r l) r d t (spoV (ltx r l) (vt r v) r d t) := fun z => i_nle c3 z.2.2
            refine g_iload dX10_dyes_274 (by rfl) ?_
            refine g_iret dX10_dyes_276 rfl (Nat.le_refl _) (Nat.le_refl _) ?_
            refine Ex.i rfl (hr_e ?_)
            first
              | exact dye_t hd ed ht hz
              | exact dye_f hd ed ht hs hz
          · skip
            have hz : savP (ltx r l) r d t (spoV (ltx r l) (vt r v) r d t) := ⟨by rw [← hs, c_one]; decide, d3, i_nlt c3⟩
            refine g_aload_n dX10_dyes_258 (by rfl) (by first | exact isRf_r | exact isRf_n | exact isRf_o | assumption) ?_
            refine g_iload_n dX10_dyes_259 (by rfl) ?_
            refine g_bipush (v := 11) dX10_dyes_260 (by decide) ?_
            refine g_iconst (v := 0) dX10_dyes_262 (by decide) ?_
            refine g_cV3v dX10_dyes_263 lX10_80 vX10_puts (ct_X10_puts X (i := l) (k := 11) (by first | exact hM | exact hM.hr) (by omega)) (by first | exact m0 | exact hr_a dA m0) rfl ⟨Nat.le_of_ble_eq_true rfl, Nat.le_of_ble_eq_true rfl⟩ (Nat.le_of_ble_eq_true rfl) ⟨Nat.le_of_ble_eq_true rfl, Nat.le_of_ble_eq_true rfl⟩ ?_
            rw [hrr]
            refine g_aload_n dX10_dyes_266 (by rfl) (by first | exact isRf_r | exact isRf_n | exact isRf_o | assumption) ?_
            refine g_iload_n dX10_dyes_267 (by rfl) ?_
            refine g_bipush (v := 12) dX10_dyes_268 (by decide) ?_
            refine g_iconst (v := 1) dX10_dyes_270 (by decide) ?_
            refine g_cV3v dX10_dyes_271 lX10_80 vX10_puts (ct_X10_puts X (i := l) (k := 12) (by first | exact hM | exact hM.hr) (by omega)) (by first | exact m0 | exact hr_a dA m0) rfl ⟨Nat.le_of_ble_eq_true rfl, Nat.le_of_ble_eq_true rfl⟩ (Nat.le_of_ble_eq_true rfl) ⟨Nat.le_of_ble_eq_true rfl, Nat.le_of_ble_eq_true rfl⟩ ?_
            rw [hrr]
            refine g_iload dX10_dyes_274 (by rfl) ?_
            refine g_iret dX10_dyes_276 rfl (Nat.le_refl _) (Nat.le_refl _) ?_
            refine Ex.i rfl (hr_e ?_)
            first
              | exact dye_t hd ed ht hz
              | exact dye_f hd ed ht hs hz
    refine g_if_ne (tgt := 207) dX10_dyes_190 (by decide) (fun c4 => ?_) (fun c4 => ?_)
    · skip
      have hq2 : r 2 < vt r v 3 ∨ r 3 < depC (soakG (ltx r l) r d t) := Or.inl (bI_d1 _ c4)
      refine g_aload_n dX10_dyes_207 (by rfl) (by first | exact isRf_r | exact isRf_n | exact isRf_o | assumption) ?_
      refine g_iload_n dX10_dyes_208 (by rfl) ?_
      refine g_bipush (v := 12) dX10_dyes_209 (by decide) ?_
      refine g_cV2x dX10_dyes_211 lX10_35 vX10_lotNumber (ct_X10_lotNumber X (i := l) (k := 12) (by first | exact hM | exact hM.hr) (by omega)) (by first | exact m0 | exact hr_a dA m0) rfl ⟨Nat.le_of_ble_eq_true rfl, Nat.le_of_ble_eq_true rfl⟩ (Nat.le_of_ble_eq_true rfl) ⟨Nat.le_of_ble_eq_true rfl, Nat.le_of_ble_eq_true rfl⟩ ?_
      rw [dy6_l (by omega), soakG_m (by omega) (by omega) (by omega)]
      refine g_if_ne (tgt := 225) dX10_dyes_214 (by decide) (fun c5 => ?_) (fun c5 => ?_)
      · skip
        have hs0 := spo_f (x := ltx r l) (y := vt r v) (r := r) (d := d) (t := t) (fun z => c5 z.1)
        refine g_pick [0, 1, 4, 5] rfl ?_
        first
          | exact J225 1 hs1
          | (have j := J225 _ hs0; rw [upd_same (show dy6 r l v d t (43 + 15 * l + 11) = ltx r l 11 from (dy6_l (by omega)).trans (soakG_m (by omega) (by omega) (by omega)))] at j; exact j)
      · skip
        have hs1 := spo_t (x := ltx r l) (y := vt r v) (r := r) (d := d) (t := t) ⟨c5, hq2⟩
        refine g_aload_n dX10_dyes_217 (by rfl) (by first | exact isRf_r | exact isRf_n | exact isRf_o | assumption) ?_
        refine g_iload_n dX10_dyes_218 (by rfl) ?_
        refine g_bipush (v := 11) dX10_dyes_219 (by decide) ?_
        refine g_iconst (v := 1) dX10_dyes_221 (by decide) ?_
        refine g_cV3v dX10_dyes_222 lX10_80 vX10_puts (ct_X10_puts X (i := l) (k := 11) (by first | exact hM | exact hM.hr) (by omega)) (by first | exact m0 | exact hr_a dA m0) rfl ⟨Nat.le_of_ble_eq_true rfl, Nat.le_of_ble_eq_true rfl⟩ (Nat.le_of_ble_eq_true rfl) ⟨Nat.le_of_ble_eq_true rfl, Nat.le_of_ble_eq_true rfl⟩ ?_
        rw [hrr]
        refine g_pick [0, 1, 4, 5] rfl ?_
        first
          | exact J225 1 hs1
          | (have j := J225 _ hs0; rw [upd_same (show dy6 r l v d t (43 + 15 * l + 11) = ltx r l 11 from (dy6_l (by omega)).trans (soakG_m (by omega) (by omega) (by omega)))] at j; exact j)
    · skip
      have hq : ¬ r 2 < vt r v 3 := bI_d0 _ c4
      refine g_aload_n dX10_dyes_193 (by rfl) (by first | exact isRf_r | exact isRf_n | exact isRf_o | assumption) ?_
      refine g_iload_n dX10_dyes_194 (by rfl) ?_
      refine g_cV1x dX10_dyes_195 lX10_88 vX10_depth (ct_X10_depth X hM.hr hl hp6 hb6) (by first | exact m0 | exact hr_a dA m0) rfl ⟨Nat.le_of_ble_eq_true rfl, Nat.le_of_ble_eq_true rfl⟩ (Nat.le_of_ble_eq_true rfl) ⟨Nat.le_of_ble_eq_true rfl, Nat.le_of_ble_eq_true rfl⟩ ?_
      rw [eD]
      refine g_aload_n dX10_dyes_198 (by rfl) (by first | exact isRf_r | exact isRf_n | exact isRf_o | assumption) ?_
      refine g_getf dX10_dyes_199 fX10_7 (by first | exact m0 | exact hr_a dA m0) (by rfl) ?_
      refine g_iconst (v := 3) dX10_dyes_202 (by decide) ?_
      refine g_ilM (3) dX10_dyes_203 (by first | exact m1 | exact hr_n) (by first | rfl | exact lin3 | exact lin3a | exact linA | exact linB) (by omega) ?_
      rw [dy6_lo (by omega)]
      refine g_icmp_le (tgt := 225) dX10_dyes_204 (by decide) (fun c6 => ?_) (fun c6 => ?_)
      · skip
        have hs0 := spo_f (x := ltx r l) (y := vt r v) (r := r) (d := d) (t := t) (fun z => by
          rcases z.2 with z | z
          · exact hq z
          · exact i_nle z c6)
        refine g_pick [0, 1, 4, 5] rfl ?_
        first
          | exact J225 1 hs1
          | (have j := J225 _ hs0; rw [upd_same (show dy6 r l v d t (43 + 15 * l + 11) = ltx r l 11 from (dy6_l (by omega)).trans (soakG_m (by omega) (by omega) (by omega)))] at j; exact j)
      · skip
        have hq2 : r 2 < vt r v 3 ∨ r 3 < depC (soakG (ltx r l) r d t) := Or.inr (i_ngt c6)
        refine g_aload_n dX10_dyes_207 (by rfl) (by first | exact isRf_r | exact isRf_n | exact isRf_o | assumption) ?_
        refine g_iload_n dX10_dyes_208 (by rfl) ?_
        refine g_bipush (v := 12) dX10_dyes_209 (by decide) ?_
        refine g_cV2x dX10_dyes_211 lX10_35 vX10_lotNumber (ct_X10_lotNumber X (i := l) (k := 12) (by first | exact hM | exact hM.hr) (by omega)) (by first | exact m0 | exact hr_a dA m0) rfl ⟨Nat.le_of_ble_eq_true rfl, Nat.le_of_ble_eq_true rfl⟩ (Nat.le_of_ble_eq_true rfl) ⟨Nat.le_of_ble_eq_true rfl, Nat.le_of_ble_eq_true rfl⟩ ?_
        rw [dy6_l (by omega), soakG_m (by omega) (by omega) (by omega)]
        refine g_if_ne (tgt := 225) dX10_dyes_214 (by decide) (fun c7 => ?_) (fun c7 => ?_)
        · skip
          have hs0 := spo_f (x := ltx r l) (y := vt r v) (r := r) (d := d) (t := t) (fun z => c7 z.1)
          refine g_pick [0, 1, 4, 5] rfl ?_
          first
            | exact J225 1 hs1
            | (have j := J225 _ hs0; rw [upd_same (show dy6 r l v d t (43 + 15 * l + 11) = ltx r l 11 from (dy6_l (by omega)).trans (soakG_m (by omega) (by omega) (by omega)))] at j; exact j)
        · skip
          have hs1 := spo_t (x := ltx r l) (y := vt r v) (r := r) (d := d) (t := t) ⟨c7, hq2⟩
          refine g_aload_n dX10_dyes_217 (by rfl) (by first | exact isRf_r | exact isRf_n | exact isRf_o | assumption) ?_
          refine g_iload_n dX10_dyes_218 (by rfl) ?_
          refine g_bipush (v := 11) dX10_dyes_219 (by decide) ?_
          refine g_iconst (v := 1) dX10_dyes_221 (by decide) ?_
          refine g_cV3v dX10_dyes_222 lX10_80 vX10_puts (ct_X10_puts X (i := l) (k := 11) (by first | exact hM | exact hM.hr) (by omega)) (by first | exact m0 | exact hr_a dA m0) rfl ⟨Nat.le_of_ble_eq_true rfl, Nat.le_of_ble_eq_true rfl⟩ (Nat.le_of_ble_eq_true rfl) ⟨Nat.le_of_ble_eq_true rfl, Nat.le_of_ble_eq_true rfl⟩ ?_
          rw [hrr]
          refine g_pick [0, 1, 4, 5] rfl ?_
          first
            | exact J225 1 hs1
            | (have j := J225 _ hs0; rw [upd_same (show dy6 r l v d t (43 + 15 * l + 11) = ltx r l 11 from (dy6_l (by omega)).trans (soakG_m (by omega) (by omega) (by omega)))] at j; exact j)
  refine g_icmp_le (tgt := 66) dX10_dyes_59 (by decide) (fun c8 => ?_) (fun c8 => ?_)
  · skip
    have hq : bI (decide (r 2 < r (19 + 4 * v + 3))) = 0 := (bI_f (fun z => i_nle z c8)).symm
    refine g_iconst (v := 0) dX10_dyes_66 (by decide) ?_
    rw [hq] at J67
    exact J67
  · skip
    have hq : bI (decide (r 2 < r (19 + 4 * v + 3))) = 1 := (bI_t (i_ngt c8)).symm
    refine g_iconst (v := 1) dX10_dyes_62 (by decide) ?_
    refine g_goto (tgt := 67) dX10_dyes_63 (by decide) ?_
    rw [hq] at J67
    exact J67
