theorem hang_n {r : Nat → Int32} {l : Nat} (o : Ok r) (hl : l < cl (r 8)) (h : bI (decide (Q_lotOf r (nI l) 5 = 1)) = 0) : hangs r l = false := by
  have q := bI_d0 _ h
  rw [(ql_all o hl).2.2.2.2.1, bz_h o hl] at q
  cases e : hangs r l with
  | false => rfl
  | true =>
    rw [e] at q
    exact absurd rfl q
theorem hang_y {r : Nat → Int32} {l : Nat} (o : Ok r) (hl : l < cl (r 8)) (h : ¬ bI (decide (Q_lotOf r (nI l) 5 = 1)) = 0) : hangs r l = true := by
  have q := bI_d1 _ h
  rw [(ql_all o hl).2.2.2.2.1, bz_h o hl] at q
  cases e : hangs r l with
  | true => rfl
  | false =>
    rw [e] at q
    exact absurd q (by decide)

set_option maxHeartbeats 4000000 in
set_option maxRecDepth 100000 in
theorem ct_L_plans (X : Cx) {h : Hp} {A B m : Nat → Nat} {C : Nat → Nat → Nat} {r : Nat → Int32} {n tn : Nat} {rows : Nat → Nat → Int32} {tg : Nat → Int32} {l i : Nat} (hl : l < cl (r 8)) (hi : i < cl (r 9)) (hz : Sz r) (R : Run X h A B m C h C r n rows tn tg) : Ct X mL_plans 10 0 0 [.ref (m 0), .int (nI l), .int (nI i)] h (LEnd X h A B m C) := by
  obtain ⟨hSep, hSys, hn, hO, hO2, hSnd, hTk, hRs, hFr⟩ := id R
  refine Ct.ofG vL_plans.1.2.2.1 (Nat.le_of_ble_eq_true rfl) ?_
  show G X RL cL_plans 13 (some .boolean) "plans" (Rm 10 0 0) (Fm X (LEnd X h A B m C) 0 0) 0 0 0 [(0, .ref (m 0)), (1, .int (nI l)), (2, .int (nI i))] [] h
  refine g_aload_n dL_plans_0 (by rfl) (by first | exact isRf_r | exact isRf_n | exact isRf_o | assumption) ?_
  refine g_iload_n dL_plans_1 (by rfl) ?_
  refine g_iload_n dL_plans_2 (by rfl) ?_
  refine g_iconst (v := (-1)) dL_plans_3 (by decide) ?_
  refine g_cV3 dL_plans_4 lL_41 vX9_plan (ct_X9_plan X hSep hn hO hSys) (hSys.1) rfl ⟨Nat.le_of_ble_eq_true rfl, Nat.le_of_ble_eq_true rfl⟩ (Nat.le_of_ble_eq_true rfl) ⟨Nat.le_of_ble_eq_true rfl, Nat.le_of_ble_eq_true rfl⟩ ?_
  rintro _ hh ⟨rfl, hT⟩
  obtain ⟨D, R⟩ := R.same hT
  obtain ⟨hSep, hSys, hn, hO, hO2, hSnd, hTk, hRs, hFr⟩ := id R
  refine g_stk (st' := [.int _]) rfl ?_
  refine g_istore_n (L1 := [(0, _), (1, _), (2, _), (3, _)]) dL_plans_7 (by decide) (by rfl) ?_
  refine g_aload_n dL_plans_8 (by rfl) (by first | exact isRf_r | exact isRf_n | exact isRf_o | assumption) ?_
  refine g_iload_n dL_plans_9 (by rfl) ?_
  refine g_bipush (v := 8) dL_plans_10 (by decide) ?_
  refine g_cV2x dL_plans_12 lL_26 vX9_lotOf (ct_X9_lotOf X hO hSys) (hSys.1) rfl ⟨Nat.le_of_ble_eq_true rfl, Nat.le_of_ble_eq_true rfl⟩ (Nat.le_of_ble_eq_true rfl) ⟨Nat.le_of_ble_eq_true rfl, Nat.le_of_ble_eq_true rfl⟩ ?_
  refine g_if_lt (tgt := 30) dL_plans_15 (by decide) (fun c1 => ?_) (fun c1 => ?_)
  · skip
    have hs := fl_8n hSnd hO hl c1
    refine g_aload_n dL_plans_30 (by rfl) (by first | exact isRf_r | exact isRf_n | exact isRf_o | assumption) ?_
    refine g_iload_n dL_plans_31 (by rfl) ?_
    refine g_iconst (v := 5) dL_plans_32 (by decide) ?_
    refine g_cV2x dL_plans_33 lL_26 vX9_lotOf (ct_X9_lotOf X hO hSys) (hSys.1) rfl ⟨Nat.le_of_ble_eq_true rfl, Nat.le_of_ble_eq_true rfl⟩ (Nat.le_of_ble_eq_true rfl) ⟨Nat.le_of_ble_eq_true rfl, Nat.le_of_ble_eq_true rfl⟩ ?_
    refine g_iconst (v := 1) dL_plans_36 (by decide) ?_
    refine g_icmpD_ne dL_plans_37 dL_plans_40 dL_plans_41 dL_plans_44 ?_
    refine g_istore (L1 := [(0, _), (1, _), (2, _), (3, _), (4, _)]) dL_plans_45 (by decide) (by rfl) ?_
    refine g_aload_n dL_plans_47 (by rfl) (by first | exact isRf_r | exact isRf_n | exact isRf_o | assumption) ?_
    refine g_iload_n dL_plans_48 (by rfl) ?_
    refine g_iload_n dL_plans_49 (by rfl) ?_
    refine g_iconst (v := 0) dL_plans_50 (by decide) ?_
    refine g_cV3 dL_plans_51 lL_41 vX9_plan (ct_X9_plan X hSep hn hO hSys) (hSys.1) rfl ⟨Nat.le_of_ble_eq_true rfl, Nat.le_of_ble_eq_true rfl⟩ (Nat.le_of_ble_eq_true rfl) ⟨Nat.le_of_ble_eq_true rfl, Nat.le_of_ble_eq_true rfl⟩ ?_
    rintro _ hh ⟨rfl, hT⟩
    obtain ⟨D, R⟩ := R.same hT
    obtain ⟨hSep, hSys, hn, hO, hO2, hSnd, hTk, hRs, hFr⟩ := id R
    refine g_stk (st' := [.int _]) rfl ?_
    refine g_istore (L1 := [(0, _), (1, _), (2, _), (3, _), (4, _), (5, _)]) dL_plans_54 (by decide) (by rfl) ?_
    refine g_aload_n dL_plans_56 (by rfl) (by first | exact isRf_r | exact isRf_n | exact isRf_o | assumption) ?_
    refine g_iload_n dL_plans_57 (by rfl) ?_
    refine g_iload_n dL_plans_58 (by rfl) ?_
    refine g_iconst (v := 1) dL_plans_59 (by decide) ?_
    refine g_cV3 dL_plans_60 lL_41 vX9_plan (ct_X9_plan X hSep hn hO hSys) (hSys.1) rfl ⟨Nat.le_of_ble_eq_true rfl, Nat.le_of_ble_eq_true rfl⟩ (Nat.le_of_ble_eq_true rfl) ⟨Nat.le_of_ble_eq_true rfl, Nat.le_of_ble_eq_true rfl⟩ ?_
    rintro _ hh ⟨rfl, hT⟩
    obtain ⟨D, R⟩ := R.same hT
    obtain ⟨hSep, hSys, hn, hO, hO2, hSnd, hTk, hRs, hFr⟩ := id R
    refine g_stk (st' := [.int _]) rfl ?_
    refine g_istore (L1 := [(0, _), (1, _), (2, _), (3, _), (4, _), (5, _), (6, _)]) dL_plans_63 (by decide) (by rfl) ?_
    refine g_aload_n dL_plans_65 (by rfl) (by first | exact isRf_r | exact isRf_n | exact isRf_o | assumption) ?_
    refine g_iload_n dL_plans_66 (by rfl) ?_
    refine g_iload_n dL_plans_67 (by rfl) ?_
    refine g_iconst (v := 2) dL_plans_68 (by decide) ?_
    refine g_cV3 dL_plans_69 lL_41 vX9_plan (ct_X9_plan X hSep hn hO hSys) (hSys.1) rfl ⟨Nat.le_of_ble_eq_true rfl, Nat.le_of_ble_eq_true rfl⟩ (Nat.le_of_ble_eq_true rfl) ⟨Nat.le_of_ble_eq_true rfl, Nat.le_of_ble_eq_true rfl⟩ ?_
    rintro _ hh ⟨rfl, hT⟩
    obtain ⟨D, R⟩ := R.same hT
    obtain ⟨hSep, hSys, hn, hO, hO2, hSnd, hTk, hRs, hFr⟩ := id R
    refine g_stk (st' := [.int _]) rfl ?_
    refine g_istore (L1 := [(0, _), (1, _), (2, _), (3, _), (4, _), (5, _), (6, _), (7, _)]) dL_plans_72 (by decide) (by rfl) ?_
    refine g_aload_n dL_plans_74 (by rfl) (by first | exact isRf_r | exact isRf_n | exact isRf_o | assumption) ?_
    refine g_iload_n dL_plans_75 (by rfl) ?_
    refine g_iload_n dL_plans_76 (by rfl) ?_
    refine g_iconst (v := 3) dL_plans_77 (by decide) ?_
    refine g_cV3 dL_plans_78 lL_41 vX9_plan (ct_X9_plan X hSep hn hO hSys) (hSys.1) rfl ⟨Nat.le_of_ble_eq_true rfl, Nat.le_of_ble_eq_true rfl⟩ (Nat.le_of_ble_eq_true rfl) ⟨Nat.le_of_ble_eq_true rfl, Nat.le_of_ble_eq_true rfl⟩ ?_
    rintro _ hh ⟨rfl, hT⟩
    obtain ⟨D, R⟩ := R.same hT
    obtain ⟨hSep, hSys, hn, hO, hO2, hSnd, hTk, hRs, hFr⟩ := id R
    refine g_stk (st' := [.int _]) rfl ?_
    refine g_istore (L1 := [(0, _), (1, _), (2, _), (3, _), (4, _), (5, _), (6, _), (7, _), (8, _)]) dL_plans_81 (by decide) (by rfl) ?_
    refine g_iload_n dL_plans_83 (by rfl) ?_
    refine g_iconst (v := 4) dL_plans_84 (by decide) ?_
    refine g_icmp_gt (tgt := 200) dL_plans_85 (by decide) (fun c2 => absurd c2 (fp_4 hO hl hi hs)) (fun c2 => ?_)
    refine g_iload_n dL_plans_88 (by rfl) ?_
    refine g_iconst (v := (-1)) dL_plans_89 (by decide) ?_
    refine g_icmp_eq (tgt := 200) dL_plans_90 (by decide) (fun c3 => absurd c3 (fp_m hO hl hi hs)) (fun c3 => ?_)
    refine g_iload_n dL_plans_93 (by rfl) ?_
    refine g_ifD_le dL_plans_94 dL_plans_97 dL_plans_98 dL_plans_101 ?_
    refine g_iload dL_plans_102 (by rfl) ?_
    refine g_ifD_lt dL_plans_104 dL_plans_107 dL_plans_108 dL_plans_111 ?_
    refine g_icmp_ne (tgt := 200) dL_plans_112 (by decide) (fun c4 => absurd (fp_g (j := 0) hO hl hi hs (by omega)) c4) (fun c4 => ?_)
    refine g_iload_n dL_plans_115 (by rfl) ?_
    refine g_iconst (v := 1) dL_plans_116 (by decide) ?_
    refine g_icmpD_le dL_plans_117 dL_plans_120 dL_plans_121 dL_plans_124 ?_
    refine g_iload dL_plans_125 (by rfl) ?_
    refine g_ifD_lt dL_plans_127 dL_plans_130 dL_plans_131 dL_plans_134 ?_
    refine g_icmp_ne (tgt := 200) dL_plans_135 (by decide) (fun c5 => absurd (fp_g (j := 1) hO hl hi hs (by omega)) c5) (fun c5 => ?_)
    refine g_iload_n dL_plans_138 (by rfl) ?_
    refine g_iconst (v := 2) dL_plans_139 (by decide) ?_
    refine g_icmpD_le dL_plans_140 dL_plans_143 dL_plans_144 dL_plans_147 ?_
    refine g_iload dL_plans_148 (by rfl) ?_
    refine g_ifD_lt dL_plans_150 dL_plans_153 dL_plans_154 dL_plans_157 ?_
    refine g_icmp_ne (tgt := 200) dL_plans_158 (by decide) (fun c6 => absurd (fp_g (j := 2) hO hl hi hs (by omega)) c6) (fun c6 => ?_)
    refine g_iload_n dL_plans_161 (by rfl) ?_
    refine g_iconst (v := 3) dL_plans_162 (by decide) ?_
    refine g_icmpD_le dL_plans_163 dL_plans_166 dL_plans_167 dL_plans_170 ?_
    refine g_iload dL_plans_171 (by rfl) ?_
    refine g_ifD_lt dL_plans_173 dL_plans_176 dL_plans_177 dL_plans_180 ?_
    refine g_icmp_ne (tgt := 200) dL_plans_181 (by decide) (fun c7 => absurd (fp_g (j := 3) hO hl hi hs (by omega)) c7) (fun c7 => ?_)
    refine g_aload_n dL_plans_184 (by rfl) (by first | exact isRf_r | exact isRf_n | exact isRf_o | assumption) ?_
    refine g_iload_n dL_plans_185 (by rfl) ?_
    refine g_iload_n dL_plans_186 (by rfl) ?_
    refine g_iconst (v := 4) dL_plans_187 (by decide) ?_
    refine g_cV3 dL_plans_188 lL_41 vX9_plan (ct_X9_plan X hSep hn hO hSys) (hSys.1) rfl ⟨Nat.le_of_ble_eq_true rfl, Nat.le_of_ble_eq_true rfl⟩ (Nat.le_of_ble_eq_true rfl) ⟨Nat.le_of_ble_eq_true rfl, Nat.le_of_ble_eq_true rfl⟩ ?_
    rintro _ hh ⟨rfl, hT⟩
    obtain ⟨D, R⟩ := R.same hT
    obtain ⟨hSep, hSys, hn, hO, hO2, hSnd, hTk, hRs, hFr⟩ := id R
    refine g_stk (st' := [.int _]) rfl ?_
    refine g_bipush (v := (-4)) dL_plans_191 (by decide) ?_
    refine g_icmp_ne (tgt := 200) dL_plans_193 (by decide) (fun c8 => absurd (fp_e hO hl hi hs) c8) (fun c8 => ?_)
    refine g_iconst (v := 1) dL_plans_196 (by decide) ?_
    refine g_goto (tgt := 201) dL_plans_197 (by decide) ?_
    refine g_istore (L1 := [(0, _), (1, _), (2, _), (3, _), (4, _), (5, _), (6, _), (7, _), (8, _), (9, _)]) dL_plans_201 (by decide) (by rfl) ?_
    refine g_iload dL_plans_203 (by rfl) ?_
    refine g_if_eq (tgt := 225) dL_plans_205 (by decide) (fun c9 => absurd c9 (by decide)) (fun c9 => ?_)
    have hOr := hO
    have J221 : ∀ (hh : Hp) (D : Nat → Nat → Nat) (n : Nat) (rows : Nat → Nat → Int32) (r2 : Nat → Int32), TkD l r r2 → Run X h A B m C hh D r2 n rows tn tg → G X RL cL_plans 13 (some .boolean) "plans" (Rm 10 0 0) (Fm X (LEnd X h A B m C) 0 0) 0 0 221 [(0, .ref (m 0)), (1, .int (nI l)), (2, .int (nI i)), (3, .int (Q_plan r (nI l) (nI i) (-1))), (5, .int (Q_plan r (nI l) (nI i) 0)), (6, .int (Q_plan r (nI l) (nI i) 1)), (7, .int (Q_plan r (nI l) (nI i) 2)), (8, .int (Q_plan r (nI l) (nI i) 3))] [] hh := by
      intro hh D n rows r2 htd R
      obtain ⟨hSep, hSys, hn, hO, hO2, hSnd, hTk, hRs, hFr⟩ := id R
      have hl2 : l < cl (r2 8) := by
        rw [htd.1 8 (by omega)]
        exact hl
      have hi2 : i < cl (r2 9) := by
        rw [htd.1 9 (by omega)]
        exact hi
      have hs2 := htd.2.1
      have hh2 := htd.2.2.1
      have hOq := hO
      obtain ⟨hpl, d, f, hd4, hdN, hdf, hdV, hex, hun, hlast⟩ := pl_data hOr hO hl hi hs htd
      refine g_iconst (v := 1) dL_plans_221 (by decide) ?_
      refine g_goto (tgt := 226) dL_plans_222 (by decide) ?_
      refine g_istore (L1 := [(0, _), (1, _), (2, _), (3, _), (5, _), (6, _), (7, _), (8, _), (9, _)]) dL_plans_226 (by decide) (by rfl) ?_
      refine g_aload_n dL_plans_228 (by rfl) (by first | exact isRf_r | exact isRf_n | exact isRf_o | assumption) ?_
      refine g_iload_n dL_plans_229 (by rfl) ?_
      refine g_iconst (v := 5) dL_plans_230 (by decide) ?_
      refine g_cV2x dL_plans_231 lL_29 vX9_orderOf (ct_X9_orderOf X hO hSys) (hSys.1) rfl ⟨Nat.le_of_ble_eq_true rfl, Nat.le_of_ble_eq_true rfl⟩ (Nat.le_of_ble_eq_true rfl) ⟨Nat.le_of_ble_eq_true rfl, Nat.le_of_ble_eq_true rfl⟩ ?_
      refine g_istore (L1 := [(0, _), (1, _), (2, _), (3, _), (5, _), (6, _), (7, _), (8, _), (9, _), (10, _)]) dL_plans_234 (by decide) (by rfl) ?_
      have J310 : ∀ (hh : Hp) (D : Nat → Nat → Nat) (n : Nat) (rows : Nat → Nat → Int32), Run X h A B m C hh D r2 n rows tn tg → G X RL cL_plans 13 (some .boolean) "plans" (Rm 10 0 0) (Fm X (LEnd X h A B m C) 0 0) 0 0 310 [(0, .ref (m 0)), (1, .int (nI l)), (2, .int (nI i)), (3, .int (Q_plan r (nI l) (nI i) (-1))), (5, .int (Q_plan r (nI l) (nI i) 0)), (6, .int (Q_plan r (nI l) (nI i) 1)), (7, .int (Q_plan r (nI l) (nI i) 2)), (8, .int (Q_plan r (nI l) (nI i) 3)), (9, .int 1), (10, .int (Q_orderOf r2 (nI i) 5))] [] hh := by
        intro hh D n rows R
        obtain ⟨hSep, hSys, hn, hO, hO2, hSnd, hTk, hRs, hFr⟩ := id R
        refine g_iconst (v := 0) dL_plans_310 (by decide) ?_
        refine g_istore (L1 := [(0, _), (1, _), (2, _), (3, _), (5, _), (6, _), (7, _), (8, _), (9, _), (10, _), (11, _)]) dL_plans_311 (by decide) (by rfl) ?_
        have loop313 : ∀ k, k ≤ d → ∀ (hh : Hp) (D : Nat → Nat → Nat) (n : Nat) (rows : Nat → Nat → Int32) (rk : Nat → Int32), goF l f r2 k = some rk → Run X h A B m C hh D rk n rows tn tg → G X RL cL_plans 13 (some .boolean) "plans" (Rm 10 0 0) (Fm X (LEnd X h A B m C) 0 0) 0 0 313 [(0, .ref (m 0)), (1, .int (nI l)), (2, .int (nI i)), (3, .int (Q_plan r (nI l) (nI i) (-1))), (5, .int (Q_plan r (nI l) (nI i) 0)), (6, .int (Q_plan r (nI l) (nI i) 1)), (7, .int (Q_plan r (nI l) (nI i) 2)), (8, .int (Q_plan r (nI l) (nI i) 3)), (9, .int 1), (10, .int (Q_orderOf r2 (nI i) 5)), (11, .int (nI k))] [] hh := by
          refine up_ind d (fun k hk ih => ?_)
          intro hh D n rows rk hgo R
          obtain ⟨hSep, hSys, hn, hO, hO2, hSnd, hTk, hRs, hFr⟩ := id R
          obtain ⟨hsim, -⟩ := goF_sim hOq hl2 (fun j hj => hdf j (by omega)) hgo
          have hlk : l < cl (rk 8) := by
            rw [hsim.1 8 (by omega)]
            exact hl2
          have hzk : Sz rk := (hz.of htd.1).of hsim.1
          refine g_iload dL_plans_313 (by rfl) ?_
          refine g_iload_n dL_plans_315 (by rfl) ?_
          refine g_icmp_ge (tgt := 394) dL_plans_316 (by decide) (fun c10 => ?_) (fun c10 => ?_)
          · skip
            have ek := (hdN k hk).mp c10
            refine g_iload dL_plans_394 (by rfl) ?_
            refine g_if_eq (tgt := 431) dL_plans_396 (by decide) (fun c11 => absurd c11 (by decide)) (fun c11 => ?_)
            refine g_iload_n dL_plans_399 (by rfl) ?_
            refine g_iconst (v := 1) dL_plans_400 (by decide) ?_
            refine g_icmp_lt (tgt := 427) dL_plans_401 (by decide) (fun c12 => ?_) (fun c12 => ?_)
            · skip
              refine g_iconst (v := 1) dL_plans_427 (by decide) ?_
              refine g_goto (tgt := 432) dL_plans_428 (by decide) ?_
              refine g_zret dL_plans_432 rfl (by decide) (Nat.le_refl _) (Nat.le_refl _) ?_
              exact ⟨rfl, D, _, _, _, _, _, R, hzk⟩
            · skip
              obtain ⟨hd1, hfit⟩ := hlast c12
              have hgd : goF l f r2 d = some rk := by
                rw [← ek]
                exact hgo
              have hf1 := sim_y hOq hO hl2 hs2 hi2 hsim (hun 0 r2 (by omega) rfl) (hfit rk hgd)
              refine g_aload_n dL_plans_404 (by rfl) (by first | exact isRf_r | exact isRf_n | exact isRf_o | assumption) ?_
              refine g_iload_n dL_plans_405 (by rfl) ?_
              refine g_iconst (v := 5) dL_plans_406 (by decide) ?_
              refine g_cV2x dL_plans_407 lL_29 vX9_orderOf (ct_X9_orderOf X hO hSys) (hSys.1) rfl ⟨Nat.le_of_ble_eq_true rfl, Nat.le_of_ble_eq_true rfl⟩ (Nat.le_of_ble_eq_true rfl) ⟨Nat.le_of_ble_eq_true rfl, Nat.le_of_ble_eq_true rfl⟩ ?_
              refine g_iload dL_plans_410 (by rfl) ?_
              refine g_iconst (v := 1) dL_plans_412 (by decide) ?_
              refine g_iadd dL_plans_413 ?_
              refine g_icmp_ne (tgt := 431) dL_plans_414 (by decide) (fun c13 => absurd hf1 c13) (fun c13 => ?_)
              refine g_aload_n dL_plans_417 (by rfl) (by first | exact isRf_r | exact isRf_n | exact isRf_o | assumption) ?_
              refine g_iload_n dL_plans_418 (by rfl) ?_
              refine g_bipush (v := 6) dL_plans_419 (by decide) ?_
              refine g_cV2x dL_plans_421 lL_26 vX9_lotOf (ct_X9_lotOf X hO hSys) (hSys.1) rfl ⟨Nat.le_of_ble_eq_true rfl, Nat.le_of_ble_eq_true rfl⟩ (Nat.le_of_ble_eq_true rfl) ⟨Nat.le_of_ble_eq_true rfl, Nat.le_of_ble_eq_true rfl⟩ ?_
              refine g_if_ne (tgt := 431) dL_plans_424 (by decide) (fun c14 => absurd (fit_6 hO hlk (hfit rk hgd)) c14) (fun c14 => ?_)
              refine g_iconst (v := 1) dL_plans_427 (by decide) ?_
              refine g_goto (tgt := 432) dL_plans_428 (by decide) ?_
              refine g_zret dL_plans_432 rfl (by decide) (Nat.le_refl _) (Nat.le_refl _) ?_
              exact ⟨rfl, D, _, _, _, _, _, R, hzk⟩
          · skip
            have hkd : k < d := by
              have q := mt (hdN k hk).mpr c10
              omega
            have hfk := sim_n hOq hO hi2 hsim (hun 0 r2 (by omega) rfl) (hun k rk hkd hgo)
            refine g_iload dL_plans_319 (by rfl) ?_
            refine g_if_eq (tgt := 394) dL_plans_321 (by decide) (fun c15 => absurd c15 (by decide)) (fun c15 => ?_)
            have J358 : G X RL cL_plans 13 (some .boolean) "plans" (Rm 10 0 0) (Fm X (LEnd X h A B m C) 0 0) 0 0 358 [(0, .ref (m 0)), (1, .int (nI l)), (2, .int (nI i)), (3, .int (Q_plan r (nI l) (nI i) (-1))), (5, .int (Q_plan r (nI l) (nI i) 0)), (6, .int (Q_plan r (nI l) (nI i) 1)), (7, .int (Q_plan r (nI l) (nI i) 2)), (8, .int (Q_plan r (nI l) (nI i) 3)), (9, .int 1), (10, .int (Q_orderOf r2 (nI i) 5)), (11, .int (nI k))] [.int (nI (f k))] hh := by
              skip
              refine g_istore (L1 := [(0, _), (1, _), (2, _), (3, _), (5, _), (6, _), (7, _), (8, _), (9, _), (10, _), (11, _), (12, _)]) dL_plans_358 (by decide) (by rfl) ?_
              obtain ⟨rd, hrd⟩ := hex
              obtain ⟨rn, hrn⟩ := goF_le hrd (k + 1) (by omega)
              obtain ⟨hg, hge⟩ := goF_go hgo hrn
              have hgk : goF l f r2 (k + 1) = some (dyeR rk l (f k)) := by
                rw [← hge]
                exact hrn
              have hfv : f k < cl (rk 7) := by
                rw [hsim.1 7 (by omega)]
                exact hdf k hkd
              have hsk : sold rk l = false := by
                unfold sold at hs2 ⊢
                rw [hsim.2.2.2.1]
                exact hs2
              have hhk : hangs rk l = false := by
                unfold hangs at hh2 ⊢
                rw [hsim.2.2.2.2]
                exact hh2
              have hdp := dip_ok hO hlk hfv hsk hhk hg
              refine g_aload_n dL_plans_360 (by rfl) (by first | exact isRf_r | exact isRf_n | exact isRf_o | assumption) ?_
              refine g_iload_n dL_plans_361 (by rfl) ?_
              refine g_iconst (v := 5) dL_plans_362 (by decide) ?_
              refine g_cV2x dL_plans_363 lL_29 vX9_orderOf (ct_X9_orderOf X hO hSys) (hSys.1) rfl ⟨Nat.le_of_ble_eq_true rfl, Nat.le_of_ble_eq_true rfl⟩ (Nat.le_of_ble_eq_true rfl) ⟨Nat.le_of_ble_eq_true rfl, Nat.le_of_ble_eq_true rfl⟩ ?_
              refine g_iload dL_plans_366 (by rfl) ?_
              refine g_icmp_ne (tgt := 385) dL_plans_368 (by decide) (fun c16 => absurd hfk c16) (fun c16 => ?_)
              refine g_aload_n dL_plans_371 (by rfl) (by first | exact isRf_r | exact isRf_n | exact isRf_o | assumption) ?_
              refine g_iload_n dL_plans_372 (by rfl) ?_
              refine g_iload dL_plans_373 (by rfl) ?_
              refine g_cV2 dL_plans_375 lL_48 vX9_dip (ct_X9_dip X hSep hn hO hSys) (hSys.1) rfl ⟨Nat.le_of_ble_eq_true rfl, Nat.le_of_ble_eq_true rfl⟩ (Nat.le_of_ble_eq_true rfl) ⟨Nat.le_of_ble_eq_true rfl, Nat.le_of_ble_eq_true rfl⟩ ?_
              have hn0 := hn
              have hO0 := hO
              have hO20 := hO2
              have hSnd0 := hSnd
              rintro _ hh ⟨rfl, hT⟩
              obtain ⟨D, R⟩ := R.deed hT (Ok_dip hO) (Ok2_dip hO hO2) (Snd_dip hO hSnd)
              rw [hdp.1] at R
              have R : Run X h A B m C hh D (dyeR rk l (f k)) (sysN (tkR rk l (f k)) n) (sysR (tkR rk l (f k)) n rk rows) tn tg := R
              obtain ⟨hSep, hSys, hn, hO, hO2, hSnd, hTk, hRs, hFr⟩ := id R
              refine g_stk (st' := [.int (tkR rk l (f k))]) (by rw [hdp.1]; rfl) ?_
              refine g_if_lt (tgt := 385) dL_plans_378 (by decide) (fun c17 => absurd c17 hdp.2) (fun c17 => ?_)
              refine g_iconst (v := 1) dL_plans_381 (by decide) ?_
              refine g_goto (tgt := 386) dL_plans_382 (by decide) ?_
              refine g_istore (L1 := [(0, _), (1, _), (2, _), (3, _), (5, _), (6, _), (7, _), (8, _), (9, _), (10, _), (11, _), (12, _)]) dL_plans_386 (by decide) (by rfl) ?_
              refine g_iinc (v := nI (k + 1)) (L1 := [(0, _), (1, _), (2, _), (3, _), (5, _), (6, _), (7, _), (8, _), (9, _), (10, _), (11, _), (12, _)]) dL_plans_388 (by rfl) (nI_1 k) (by decide) (by rfl) ?_
              refine g_goto (tgt := 313) dL_plans_391 (by decide) ?_
              refine g_pick [0, 1, 2, 3, 4, 5, 6, 7, 8, 9, 10] rfl ?_
              exact ih hkd _ _ _ _ _ hgk R
            refine g_iload dL_plans_324 (by rfl) ?_
            refine g_if_ne (tgt := 334) dL_plans_326 (by decide) (fun c18 => ?_) (fun c18 => ?_)
            · skip
              have n0 : k ≠ 0 := fun e => c18 (by rw [e]; rfl)
              refine g_iload dL_plans_334 (by rfl) ?_
              refine g_iconst (v := 1) dL_plans_336 (by decide) ?_
              refine g_icmp_ne (tgt := 345) dL_plans_337 (by decide) (fun c19 => ?_) (fun c19 => ?_)
              · skip
                have n1 : k ≠ 1 := fun e => c19 (by rw [e]; rfl)
                refine g_iload dL_plans_345 (by rfl) ?_
                refine g_iconst (v := 2) dL_plans_347 (by decide) ?_
                refine g_icmp_ne (tgt := 356) dL_plans_348 (by decide) (fun c20 => ?_) (fun c20 => ?_)
                · skip
                  have n2 : k ≠ 2 := fun e => c20 (by rw [e]; rfl)
                  have e0 : k = 3 := by omega
                  have hv : Q_plan r (nI l) (nI i) 3 = nI (f k) := by
                    rw [e0]
                    exact hdV 3 (by omega)
                  refine g_iload dL_plans_356 (by rfl) ?_
                  exact g_stk (by rw [hv]) J358
                · skip
                  have e0 : k = 2 := (nI_eq (b := 2) (by omega) (by omega)).mp c20
                  have hv : Q_plan r (nI l) (nI i) 2 = nI (f k) := by
                    rw [e0]
                    exact hdV 2 (by omega)
                  refine g_iload dL_plans_351 (by rfl) ?_
                  refine g_goto (tgt := 358) dL_plans_353 (by decide) ?_
                  exact g_stk (by rw [hv]) J358
              · skip
                have e0 : k = 1 := (nI_eq (b := 1) (by omega) (by omega)).mp c19
                have hv : Q_plan r (nI l) (nI i) 1 = nI (f k) := by
                  rw [e0]
                  exact hdV 1 (by omega)
                refine g_iload dL_plans_340 (by rfl) ?_
                refine g_goto (tgt := 358) dL_plans_342 (by decide) ?_
                exact g_stk (by rw [hv]) J358
            · skip
              have e0 : k = 0 := (nI_z (by omega)).mp c18
              have hv : Q_plan r (nI l) (nI i) 0 = nI (f k) := by
                rw [e0]
                exact hdV 0 (by omega)
              refine g_iload dL_plans_329 (by rfl) ?_
              refine g_goto (tgt := 358) dL_plans_331 (by decide) ?_
              exact g_stk (by rw [hv]) J358
        exact loop313 0 (Nat.zero_le _) _ _ _ _ _ rfl R
      refine g_iconst (v := 0) dL_plans_236 (by decide) ?_
      refine g_istore (L1 := [(0, _), (1, _), (2, _), (3, _), (5, _), (6, _), (7, _), (8, _), (9, _), (10, _), (11, _)]) dL_plans_237 (by decide) (by rfl) ?_
      have loop239 : ∀ w, w ≤ cl (r2 7) → ∀ (hh : Hp) (D : Nat → Nat → Nat) (n : Nat) (rows : Nat → Nat → Int32), Run X h A B m C hh D r2 n rows tn tg → G X RL cL_plans 13 (some .boolean) "plans" (Rm 10 0 0) (Fm X (LEnd X h A B m C) 0 0) 0 0 239 [(0, .ref (m 0)), (1, .int (nI l)), (2, .int (nI i)), (3, .int (Q_plan r (nI l) (nI i) (-1))), (5, .int (Q_plan r (nI l) (nI i) 0)), (6, .int (Q_plan r (nI l) (nI i) 1)), (7, .int (Q_plan r (nI l) (nI i) 2)), (8, .int (Q_plan r (nI l) (nI i) 3)), (9, .int 1), (10, .int (Q_orderOf r2 (nI i) 5)), (11, .int (nI w))] [] hh := by
        refine up_ind (cl (r2 7)) (fun w hw ih => ?_)
        intro hh D n rows R
        obtain ⟨hSep, hSys, hn, hO, hO2, hSnd, hTk, hRs, hFr⟩ := id R
        refine g_iload dL_plans_239 (by rfl) ?_
        refine g_aload_n dL_plans_241 (by rfl) (by first | exact isRf_r | exact isRf_n | exact isRf_o | assumption) ?_
        refine g_iconst (v := 0) dL_plans_242 (by decide) ?_
        refine g_cV1x dL_plans_243 lL_9 vX9_count (ct_X9_count X hO hSys) (hSys.1) rfl ⟨Nat.le_of_ble_eq_true rfl, Nat.le_of_ble_eq_true rfl⟩ (Nat.le_of_ble_eq_true rfl) ⟨Nat.le_of_ble_eq_true rfl, Nat.le_of_ble_eq_true rfl⟩ ?_
        refine g_icmp_ge (tgt := 310) dL_plans_246 (by decide) (fun c21 => ?_) (fun c21 => ?_)
        · skip
          refine g_pick [0, 1, 2, 3, 4, 5, 6, 7, 8, 9] rfl ?_
          exact J310 _ _ _ _ R
        · skip
          have hww := nge_nI (qc_0.trans hO.e7) (cl7_k hO) hw c21
          refine g_iload dL_plans_249 (by rfl) ?_
          refine g_if_eq (tgt := 310) dL_plans_251 (by decide) (fun c22 => absurd c22 (by decide)) (fun c22 => ?_)
          refine g_iload_n dL_plans_254 (by rfl) ?_
          refine g_iconst (v := 1) dL_plans_255 (by decide) ?_
          refine g_icmp_le (tgt := 310) dL_plans_256 (by decide) (fun c23 => ?_) (fun c23 => ?_)
          · skip
            refine g_pick [0, 1, 2, 3, 4, 5, 6, 7, 8, 9] rfl ?_
            exact J310 _ _ _ _ R
          · skip
            have hN := c23
            refine g_aload_n dL_plans_259 (by rfl) (by first | exact isRf_r | exact isRf_n | exact isRf_o | assumption) ?_
            refine g_iload dL_plans_260 (by rfl) ?_
            refine g_iconst (v := 2) dL_plans_262 (by decide) ?_
            refine g_cV2x dL_plans_263 lL_38 vX9_vatOf (ct_X9_vatOf X hO hSys) (hSys.1) rfl ⟨Nat.le_of_ble_eq_true rfl, Nat.le_of_ble_eq_true rfl⟩ (Nat.le_of_ble_eq_true rfl) ⟨Nat.le_of_ble_eq_true rfl, Nat.le_of_ble_eq_true rfl⟩ ?_
            refine g_if_le (tgt := 304) dL_plans_266 (by decide) (fun c24 => ?_) (fun c24 => ?_)
            · skip
              refine g_iinc (v := nI (w + 1)) (L1 := [(0, _), (1, _), (2, _), (3, _), (5, _), (6, _), (7, _), (8, _), (9, _), (10, _), (11, _)]) dL_plans_304 (by rfl) (nI_1 w) (by decide) (by rfl) ?_
              refine g_goto (tgt := 239) dL_plans_307 (by decide) ?_
              exact ih hww _ _ _ _ R
            · skip
              have hg : 0 < vt r2 w 2 := by
                have z := c24
                rw [(qv_all hO hww).2.2.1] at z
                exact i_ngt z
              have hdp := dip_ok hO hl2 hww hs2 hh2 hg
              have hft : Q_orderOf (dyeR r2 l w) (nI i) 5 = Q_orderOf r2 (nI i) 5 := sim_n hO (Ok_dye hO (hO.lk hl2).1 (hO.vk hww).1 (hO.lk hl2).2 (hO.vk hww).2) hi2 (Sim_dye hO (hO.lk hl2).1 hww) (hpl hN).1 ((hpl hN).2 w hww hg)
              refine g_aload_n dL_plans_269 (by rfl) (by first | exact isRf_r | exact isRf_n | exact isRf_o | assumption) ?_
              refine g_iload_n dL_plans_270 (by rfl) ?_
              refine g_iload dL_plans_271 (by rfl) ?_
              refine g_cV2 dL_plans_273 lL_48 vX9_dip (ct_X9_dip X hSep hn hO hSys) (hSys.1) rfl ⟨Nat.le_of_ble_eq_true rfl, Nat.le_of_ble_eq_true rfl⟩ (Nat.le_of_ble_eq_true rfl) ⟨Nat.le_of_ble_eq_true rfl, Nat.le_of_ble_eq_true rfl⟩ ?_
              have hn0 := hn
              have hO0 := hO
              have hO20 := hO2
              have hSnd0 := hSnd
              rintro _ hh ⟨rfl, hT⟩
              obtain ⟨D, R⟩ := R.deed hT (Ok_dip hO) (Ok2_dip hO hO2) (Snd_dip hO hSnd)
              rw [hdp.1] at R
              have R : Run X h A B m C hh D (dyeR r2 l w) (sysN (tkR r2 l w) n) (sysR (tkR r2 l w) n r2 rows) tn tg := R
              obtain ⟨hSep, hSys, hn, hO, hO2, hSnd, hTk, hRs, hFr⟩ := id R
              refine g_stk (st' := [.int (tkR r2 l w)]) (by rw [hdp.1]; rfl) ?_
              refine g_if_lt (tgt := 301) dL_plans_276 (by decide) (fun c25 => absurd c25 hdp.2) (fun c25 => ?_)
              refine g_aload_n dL_plans_279 (by rfl) (by first | exact isRf_r | exact isRf_n | exact isRf_o | assumption) ?_
              refine g_iload_n dL_plans_280 (by rfl) ?_
              refine g_iconst (v := 5) dL_plans_281 (by decide) ?_
              refine g_cV2x dL_plans_282 lL_29 vX9_orderOf (ct_X9_orderOf X hO hSys) (hSys.1) rfl ⟨Nat.le_of_ble_eq_true rfl, Nat.le_of_ble_eq_true rfl⟩ (Nat.le_of_ble_eq_true rfl) ⟨Nat.le_of_ble_eq_true rfl, Nat.le_of_ble_eq_true rfl⟩ ?_
              refine g_iload dL_plans_285 (by rfl) ?_
              refine g_icmp_ne (tgt := 301) dL_plans_287 (by decide) (fun c26 => absurd hft c26) (fun c26 => ?_)
              refine g_aload_n dL_plans_290 (by rfl) (by first | exact isRf_r | exact isRf_n | exact isRf_o | assumption) ?_
              refine g_cV0 dL_plans_291 lL_51 vX9_undo (ct_undoD hdp.2 hn0 hO0 hO20 hSnd0 R) (hSys.1) rfl ⟨Nat.le_of_ble_eq_true rfl, Nat.le_of_ble_eq_true rfl⟩ (Nat.le_of_ble_eq_true rfl) ⟨Nat.le_of_ble_eq_true rfl, Nat.le_of_ble_eq_true rfl⟩ ?_
              rintro _ hh ⟨q, rfl, hq4, D, n, rows, R⟩
              obtain ⟨hSep, hSys, hn, hO, hO2, hSnd, hTk, hRs, hFr⟩ := id R
              refine g_stk (st' := [.int (nI q)]) rfl ?_
              refine g_if_lt (tgt := 301) dL_plans_294 (by decide) (fun c27 => absurd c27 (n_neg (by rw [nI_toInt (by omega)]; omega))) (fun c27 => ?_)
              refine g_iconst (v := 1) dL_plans_297 (by decide) ?_
              refine g_goto (tgt := 302) dL_plans_298 (by decide) ?_
              refine g_istore (L1 := [(0, _), (1, _), (2, _), (3, _), (5, _), (6, _), (7, _), (8, _), (9, _), (10, _), (11, _)]) dL_plans_302 (by decide) (by rfl) ?_
              refine g_iinc (v := nI (w + 1)) (L1 := [(0, _), (1, _), (2, _), (3, _), (5, _), (6, _), (7, _), (8, _), (9, _), (10, _), (11, _)]) dL_plans_304 (by rfl) (nI_1 w) (by decide) (by rfl) ?_
              refine g_goto (tgt := 239) dL_plans_307 (by decide) ?_
              exact ih hww _ _ _ _ R
      exact loop239 0 (Nat.zero_le _) _ _ _ _ R
    refine g_iload dL_plans_208 (by rfl) ?_
    refine g_if_eq (tgt := 221) dL_plans_210 (by decide) (fun c28 => ?_) (fun c28 => ?_)
    · skip
      have hh0 : hangs r l = false := hang_n hO hl c28
      refine g_pick [0, 1, 2, 3, 5, 6, 7, 8] rfl ?_
      first
        | exact J221 _ _ _ _ _ (tkd_self hs hh0) R
        | exact J221 _ _ _ _ _ (tkd_take hOr hl hs) R
    · skip
      have hh1 : hangs r l = true := hang_y hO hl c28
      refine g_aload_n dL_plans_213 (by rfl) (by first | exact isRf_r | exact isRf_n | exact isRf_o | assumption) ?_
      refine g_iload_n dL_plans_214 (by rfl) ?_
      refine g_cV1 dL_plans_215 lL_45 vX9_take (ct_X9_take X hSep hn hO hSys) (hSys.1) rfl ⟨Nat.le_of_ble_eq_true rfl, Nat.le_of_ble_eq_true rfl⟩ (Nat.le_of_ble_eq_true rfl) ⟨Nat.le_of_ble_eq_true rfl, Nat.le_of_ble_eq_true rfl⟩ ?_
      rintro _ hh ⟨rfl, hT⟩
      obtain ⟨D, R⟩ := R.deed hT (Ok_take hO) (Ok2_take hO hO2) (Snd_take hO hSnd)
      obtain ⟨x, htk, hx⟩ := take_ok hO hl hh1
      rw [htk] at R
      obtain ⟨hSep, hSys, hn, hO, hO2, hSnd, hTk, hRs, hFr⟩ := id R
      refine g_stk (st' := [.int (nI x)]) (by rw [htk]; rfl) ?_
      refine g_if_lt (tgt := 225) dL_plans_218 (by decide) (fun c29 => absurd c29 (n_neg (by rw [nI_toInt (by omega)]; omega))) (fun c29 => ?_)
      refine g_pick [0, 1, 2, 3, 5, 6, 7, 8] rfl ?_
      first
        | exact J221 _ _ _ _ _ (tkd_self hs hh0) R
        | exact J221 _ _ _ _ _ (tkd_take hOr hl hs) R
  · skip
    have hs := (fl_8 hSnd hO hl).mp c1
    refine g_iload_n dL_plans_18 (by rfl) ?_
    refine g_bipush (v := (-2)) dL_plans_19 (by decide) ?_
    refine g_icmp_ne (tgt := 28) dL_plans_21 (by decide) (fun c30 => absurd (fp_s hO hl hi hs) c30) (fun c30 => ?_)
    refine g_iconst (v := 1) dL_plans_24 (by decide) ?_
    refine g_goto (tgt := 29) dL_plans_25 (by decide) ?_
    refine g_zret dL_plans_29 rfl (by decide) (Nat.le_refl _) (Nat.le_refl _) ?_
    exact ⟨rfl, D, _, _, _, _, _, R, hz⟩
