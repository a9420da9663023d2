set_option maxHeartbeats 4000000 in
set_option maxRecDepth 100000 in
theorem ct_L_takes (X : Cx) {h : Hp} {A B m : Nat → Nat} {C : Nat → Nat → Nat} {r : Nat → Int32} {n tn : Nat} {rows : Nat → Nat → Int32} {tg : Nat → Int32} {l v t : Nat} (hl : l < cl (r 8)) (hv : v < cl (r 7)) (ht1 : 1 ≤ t) (ht2 : t ≤ 30) (hz : Sz r) (R : Run X h A B m C h C r n rows tn tg) : Ct X mL_takes 6 0 0 [.ref (m 0), .int (nI l), .int (nI v), .int (nI t)] h (LEnd X h A B m C) := by
  obtain ⟨hSep, hSys, hn, hO, hO2, hSnd, hTk, hRs, hFr⟩ := id R
  refine Ct.ofG vL_takes.1.2.2.1 (Nat.le_of_ble_eq_true rfl) ?_
  show G X RL cL_takes 8 (some .boolean) "takes" (Rm 6 0 0) (Fm X (LEnd X h A B m C) 0 0) 0 0 0 [(0, .ref (m 0)), (1, .int (nI l)), (2, .int (nI v)), (3, .int (nI t))] [] h
  refine g_aload_n dL_takes_0 (by rfl) (by first | exact isRf_r | exact isRf_n | exact isRf_o | assumption) ?_
  refine g_iload_n dL_takes_1 (by rfl) ?_
  refine g_iload_n dL_takes_2 (by rfl) ?_
  refine g_iload_n dL_takes_3 (by rfl) ?_
  refine g_cV3x dL_takes_4 lL_55 vX9_takes (ct_X9_takes X hO hSys) (hSys.1) rfl ⟨Nat.le_of_ble_eq_true rfl, Nat.le_of_ble_eq_true rfl⟩ (Nat.le_of_ble_eq_true rfl) ⟨Nat.le_of_ble_eq_true rfl, Nat.le_of_ble_eq_true rfl⟩ ?_
  refine g_istore (L1 := [(0, _), (1, _), (2, _), (3, _), (4, _)]) dL_takes_7 (by decide) (by rfl) ?_
  refine g_aload_n dL_takes_9 (by rfl) (by first | exact isRf_r | exact isRf_n | exact isRf_o | assumption) ?_
  refine g_iload_n dL_takes_10 (by rfl) ?_
  refine g_bipush (v := 8) dL_takes_11 (by decide) ?_
  refine g_cV2x dL_takes_13 lL_26 vX9_lotOf (ct_X9_lotOf X hO hSys) (hSys.1) rfl ⟨Nat.le_of_ble_eq_true rfl, Nat.le_of_ble_eq_true rfl⟩ (Nat.le_of_ble_eq_true rfl) ⟨Nat.le_of_ble_eq_true rfl, Nat.le_of_ble_eq_true rfl⟩ ?_
  refine g_if_lt (tgt := 53) dL_takes_16 (by decide) (fun c1 => ?_) (fun c1 => ?_)
  · skip
    have hs := fl_8n hSnd hO hl c1
    refine g_aload_n dL_takes_53 (by rfl) (by first | exact isRf_r | exact isRf_n | exact isRf_o | assumption) ?_
    refine g_iload_n dL_takes_54 (by rfl) ?_
    refine g_iconst (v := 5) dL_takes_55 (by decide) ?_
    refine g_cV2x dL_takes_56 lL_26 vX9_lotOf (ct_X9_lotOf X hO hSys) (hSys.1) rfl ⟨Nat.le_of_ble_eq_true rfl, Nat.le_of_ble_eq_true rfl⟩ (Nat.le_of_ble_eq_true rfl) ⟨Nat.le_of_ble_eq_true rfl, Nat.le_of_ble_eq_true rfl⟩ ?_
    refine g_iconst (v := 1) dL_takes_59 (by decide) ?_
    refine g_icmp_ne (tgt := 119) dL_takes_60 (by decide) (fun c2 => ?_) (fun c2 => ?_)
    · skip
      have hh0 : hangs r l = false := hang_n hO hl (bI_f c2).symm
      refine g_aload_n dL_takes_119 (by rfl) (by first | exact isRf_r | exact isRf_n | exact isRf_o | assumption) ?_
      refine g_iload_n dL_takes_120 (by rfl) ?_
      refine g_iconst (v := 3) dL_takes_121 (by decide) ?_
      refine g_cV2x dL_takes_122 lL_26 vX9_lotOf (ct_X9_lotOf X hO hSys) (hSys.1) rfl ⟨Nat.le_of_ble_eq_true rfl, Nat.le_of_ble_eq_true rfl⟩ (Nat.le_of_ble_eq_true rfl) ⟨Nat.le_of_ble_eq_true rfl, Nat.le_of_ble_eq_true rfl⟩ ?_
      refine g_aload_n dL_takes_125 (by rfl) (by first | exact isRf_r | exact isRf_n | exact isRf_o | assumption) ?_
      refine g_iload_n dL_takes_126 (by rfl) ?_
      refine g_iconst (v := 4) dL_takes_127 (by decide) ?_
      refine g_cV2x dL_takes_128 lL_26 vX9_lotOf (ct_X9_lotOf X hO hSys) (hSys.1) rfl ⟨Nat.le_of_ble_eq_true rfl, Nat.le_of_ble_eq_true rfl⟩ (Nat.le_of_ble_eq_true rfl) ⟨Nat.le_of_ble_eq_true rfl, Nat.le_of_ble_eq_true rfl⟩ ?_
      refine g_iadd dL_takes_131 ?_
      refine g_istore (L1 := [(0, _), (1, _), (2, _), (3, _), (4, _), (5, _)]) dL_takes_132 (by decide) (by rfl) ?_
      refine g_iconst (v := 0) dL_takes_134 (by decide) ?_
      refine g_istore (L1 := [(0, _), (1, _), (2, _), (3, _), (4, _), (5, _), (6, _)]) dL_takes_135 (by decide) (by rfl) ?_
      refine g_iconst (v := 0) dL_takes_137 (by decide) ?_
      refine g_istore (L1 := [(0, _), (1, _), (2, _), (3, _), (4, _), (5, _), (6, _), (7, _)]) dL_takes_138 (by decide) (by rfl) ?_
      have hOr := hO
      have loop140 : ∀ k, k ≤ t → ∀ (hh : Hp) (D : Nat → Nat → Nat) (n : Nat) (rows : Nat → Nat → Int32) (rk : Nat → Int32), Tk l v r rk k → Run X h A B m C hh D rk n rows tn tg → G X RL cL_takes 8 (some .boolean) "takes" (Rm 6 0 0) (Fm X (LEnd X h A B m C) 0 0) 0 0 140 [(0, .ref (m 0)), (1, .int (nI l)), (2, .int (nI v)), (3, .int (nI t)), (4, .int (Q_takes r (nI l) (nI v) (nI t))), (5, .int (Q_lotOf r (nI l) 3 + Q_lotOf r (nI l) 4)), (6, .int (vt r v 2 - vt rk v 2)), (7, .int (nI k))] [] hh := by
        refine up_ind t (fun k hk ih => ?_)
        intro hh D n rows rk htk R
        obtain ⟨hSep, hSys, hn, hO, hO2, hSnd, hTk, hRs, hFr⟩ := id R
        have hlk : l < cl (rk 8) := by
          rw [htk.1.1 8 (by omega)]
          exact hl
        have hvk : v < cl (rk 7) := by
          rw [htk.1.1 7 (by omega)]
          exact hv
        have hsk : sold rk l = false := by
          unfold sold at hs ⊢
          rw [htk.1.2.2.2.1]
          exact hs
        have hhk : hangs rk l = false := by
          unfold hangs at hh0 ⊢
          rw [htk.1.2.2.2.2]
          exact hh0
        have J172 : k = t ∨ vt rk v 2 ≤ 0 → G X RL cL_takes 8 (some .boolean) "takes" (Rm 6 0 0) (Fm X (LEnd X h A B m C) 0 0) 0 0 172 [(0, .ref (m 0)), (1, .int (nI l)), (2, .int (nI v)), (3, .int (nI t)), (4, .int (Q_takes r (nI l) (nI v) (nI t))), (5, .int (Q_lotOf r (nI l) 3 + Q_lotOf r (nI l) 4)), (6, .int (vt r v 2 - vt rk v 2))] [] hh := by
          intro hen
          have htold := Tk_end hOr hl hv ht1 ht2 hs hk htk hen
          have hgot := htk.2.2.2.2.2
          refine g_iload dL_takes_172 (by rfl) ?_
          refine g_iload dL_takes_174 (by rfl) ?_
          refine g_icmp_ne (tgt := 214) dL_takes_176 (by decide) (fun c3 => absurd htold c3) (fun c3 => ?_)
          refine g_aload_n dL_takes_179 (by rfl) (by first | exact isRf_r | exact isRf_n | exact isRf_o | assumption) ?_
          refine g_iload_n dL_takes_180 (by rfl) ?_
          refine g_iconst (v := 3) dL_takes_181 (by decide) ?_
          refine g_cV2x dL_takes_182 lL_26 vX9_lotOf (ct_X9_lotOf X hO hSys) (hSys.1) rfl ⟨Nat.le_of_ble_eq_true rfl, Nat.le_of_ble_eq_true rfl⟩ (Nat.le_of_ble_eq_true rfl) ⟨Nat.le_of_ble_eq_true rfl, Nat.le_of_ble_eq_true rfl⟩ ?_
          refine g_aload_n dL_takes_185 (by rfl) (by first | exact isRf_r | exact isRf_n | exact isRf_o | assumption) ?_
          refine g_iload_n dL_takes_186 (by rfl) ?_
          refine g_iconst (v := 4) dL_takes_187 (by decide) ?_
          refine g_cV2x dL_takes_188 lL_26 vX9_lotOf (ct_X9_lotOf X hO hSys) (hSys.1) rfl ⟨Nat.le_of_ble_eq_true rfl, Nat.le_of_ble_eq_true rfl⟩ (Nat.le_of_ble_eq_true rfl) ⟨Nat.le_of_ble_eq_true rfl, Nat.le_of_ble_eq_true rfl⟩ ?_
          refine g_iadd dL_takes_191 ?_
          refine g_iload dL_takes_192 (by rfl) ?_
          refine g_iload dL_takes_194 (by rfl) ?_
          refine g_iadd dL_takes_196 ?_
          refine g_icmp_ne (tgt := 214) dL_takes_197 (by decide) (fun c4 => absurd hgot c4) (fun c4 => ?_)
          refine g_aload_n dL_takes_200 (by rfl) (by first | exact isRf_r | exact isRf_n | exact isRf_o | assumption) ?_
          refine g_iload_n dL_takes_201 (by rfl) ?_
          refine g_cV1 dL_takes_202 lL_45 vX9_take (ct_X9_take X hSep hn hO hSys) (hSys.1) rfl ⟨Nat.le_of_ble_eq_true rfl, Nat.le_of_ble_eq_true rfl⟩ (Nat.le_of_ble_eq_true rfl) ⟨Nat.le_of_ble_eq_true rfl, Nat.le_of_ble_eq_true rfl⟩ ?_
          rintro _ hh ⟨rfl, hT⟩
          obtain ⟨D, R⟩ := R.deed hT (Ok_take hO) (Ok2_take hO hO2) (Snd_take hO hSnd)
          have hno := take_no hO hlk hhk
          rw [hno] at R
          obtain ⟨D, n, rows, R⟩ : ∃ D n rows, Run X h A B m C hh D rk n rows tn tg := ⟨_, _, _, R⟩
          obtain ⟨hSep, hSys, hn, hO, hO2, hSnd, hTk, hRs, hFr⟩ := id R
          refine g_stk (st' := [.int (-2)]) (by rw [hno]; rfl) ?_
          refine g_bipush (v := (-2)) dL_takes_205 (by decide) ?_
          refine g_icmp_ne (tgt := 214) dL_takes_207 (by decide) (fun c5 => absurd rfl c5) (fun c5 => ?_)
          refine g_iconst (v := 1) dL_takes_210 (by decide) ?_
          refine g_goto (tgt := 215) dL_takes_211 (by decide) ?_
          refine g_zret dL_takes_215 rfl (by decide) (Nat.le_refl _) (Nat.le_refl _) ?_
          exact ⟨rfl, D, _, _, _, _, _, R, hz.of htk.1.1⟩
        refine g_iload dL_takes_140 (by rfl) ?_
        refine g_iload_n dL_takes_142 (by rfl) ?_
        refine g_icmp_ge (tgt := 172) dL_takes_143 (by decide) (fun c6 => ?_) (fun c6 => ?_)
        · skip
          have hend : k = t := by
            rw [i_le, nI_toInt (by omega), nI_toInt (by omega)] at c6
            omega
          refine g_pick [0, 1, 2, 3, 4, 5, 6] rfl ?_
          first
            | exact J172 (Or.inl hend)
            | exact J172 (Or.inr hend)
        · skip
          have hkt : k < t := by
            rw [i_le, nI_toInt (by omega), nI_toInt (by omega)] at c6
            omega
          refine g_aload_n dL_takes_146 (by rfl) (by first | exact isRf_r | exact isRf_n | exact isRf_o | assumption) ?_
          refine g_iload_n dL_takes_147 (by rfl) ?_
          refine g_iconst (v := 2) dL_takes_148 (by decide) ?_
          refine g_cV2x dL_takes_149 lL_38 vX9_vatOf (ct_X9_vatOf X hO hSys) (hSys.1) rfl ⟨Nat.le_of_ble_eq_true rfl, Nat.le_of_ble_eq_true rfl⟩ (Nat.le_of_ble_eq_true rfl) ⟨Nat.le_of_ble_eq_true rfl, Nat.le_of_ble_eq_true rfl⟩ ?_
          refine g_if_le (tgt := 172) dL_takes_152 (by decide) (fun c7 => ?_) (fun c7 => ?_)
          · skip
            have hend : vt rk v 2 ≤ 0 := by
              have z := c7
              rw [(qv_all hO hvk).2.2.1] at z
              exact z
            refine g_pick [0, 1, 2, 3, 4, 5, 6] rfl ?_
            first
              | exact J172 (Or.inl hend)
              | exact J172 (Or.inr hend)
          · skip
            have hg : 0 < vt rk v 2 := by
              have z := c7
              rw [(qv_all hO hvk).2.2.1] at z
              exact i_ngt z
            have hdp := dip_ok hO hlk hvk hsk hhk hg
            refine g_iload dL_takes_155 (by rfl) ?_
            refine g_aload_n dL_takes_157 (by rfl) (by first | exact isRf_r | exact isRf_n | exact isRf_o | assumption) ?_
            refine g_iload_n dL_takes_158 (by rfl) ?_
            refine g_iload_n dL_takes_159 (by rfl) ?_
            refine g_cV2 dL_takes_160 lL_48 vX9_dip (ct_X9_dip X hSep hn hO hSys) (hSys.1) rfl ⟨Nat.le_of_ble_eq_true rfl, Nat.le_of_ble_eq_true rfl⟩ (Nat.le_of_ble_eq_true rfl) ⟨Nat.le_of_ble_eq_true rfl, Nat.le_of_ble_eq_true rfl⟩ ?_
            rintro _ hh ⟨rfl, hT⟩
            obtain ⟨D, R⟩ := R.deed hT (Ok_dip hO) (Ok2_dip hO hO2) (Snd_dip hO hSnd)
            rw [hdp.1] at R
            obtain ⟨D, n, rows, R⟩ : ∃ D n rows, Run X h A B m C hh D (dyeR rk l v) n rows tn tg := ⟨_, _, _, R⟩
            refine g_stk (st' := [.int (tkR rk l v), .int (vt r v 2 - vt rk v 2)]) (by rw [hdp.1]; rfl) ?_
            refine g_iadd dL_takes_163 ?_
            refine g_istore (L1 := [(0, _), (1, _), (2, _), (3, _), (4, _), (5, _), (6, _), (7, _)]) dL_takes_164 (by decide) (by rfl) ?_
            refine g_iinc (v := nI (k + 1)) (L1 := [(0, _), (1, _), (2, _), (3, _), (4, _), (5, _), (6, _), (7, _)]) dL_takes_166 (by rfl) (nI_1 k) (by decide) (by rfl) ?_
            refine g_goto (tgt := 140) dL_takes_169 (by decide) ?_
            rw [Tk_sum (hO.vk hvk).1]
            exact ih hkt _ _ _ _ _ (Tk_s hO hlk hvk htk) R
      have J := loop140 0 (Nat.zero_le _) _ _ _ _ _ Tk_0 R
      rw [Int32.sub_self] at J
      exact J
    · skip
      have hh1 : hangs r l = true := hang_y hO hl (fun z => absurd c2 (bI_d0 _ z))
      refine g_iload dL_takes_63 (by rfl) ?_
      refine g_if_lt (tgt := 117) dL_takes_65 (by decide) (fun c8 => absurd c8 (ft_g hO hl hv ht1 ht2 hs)) (fun c8 => ?_)
      refine g_aload_n dL_takes_68 (by rfl) (by first | exact isRf_r | exact isRf_n | exact isRf_o | assumption) ?_
      refine g_iload_n dL_takes_69 (by rfl) ?_
      refine g_iload_n dL_takes_70 (by rfl) ?_
      refine g_cV2 dL_takes_71 lL_48 vX9_dip (ct_X9_dip X hSep hn hO hSys) (hSys.1) rfl ⟨Nat.le_of_ble_eq_true rfl, Nat.le_of_ble_eq_true rfl⟩ (Nat.le_of_ble_eq_true rfl) ⟨Nat.le_of_ble_eq_true rfl, Nat.le_of_ble_eq_true rfl⟩ ?_
      rintro _ hh ⟨rfl, hT⟩
      obtain ⟨D, R⟩ := R.deed hT (Ok_dip hO) (Ok2_dip hO hO2) (Snd_dip hO hSnd)
      have hno := dip_no hO hl hv (Or.inr hh1)
      rw [hno] at R
      obtain ⟨D, n, rows, R⟩ : ∃ D n rows, Run X h A B m C hh D r n rows tn tg := ⟨_, _, _, R⟩
      obtain ⟨hSep, hSys, hn, hO, hO2, hSnd, hTk, hRs, hFr⟩ := id R
      refine g_stk (st' := [.int (-2)]) (by rw [hno]; rfl) ?_
      refine g_bipush (v := (-2)) dL_takes_74 (by decide) ?_
      refine g_icmp_ne (tgt := 117) dL_takes_76 (by decide) (fun c9 => absurd rfl c9) (fun c9 => ?_)
      refine g_aload_n dL_takes_79 (by rfl) (by first | exact isRf_r | exact isRf_n | exact isRf_o | assumption) ?_
      refine g_iload_n dL_takes_80 (by rfl) ?_
      refine g_cV1 dL_takes_81 lL_58 vX9_rinse (ct_X9_rinse X hSep hn hO hSys) (hSys.1) rfl ⟨Nat.le_of_ble_eq_true rfl, Nat.le_of_ble_eq_true rfl⟩ (Nat.le_of_ble_eq_true rfl) ⟨Nat.le_of_ble_eq_true rfl, Nat.le_of_ble_eq_true rfl⟩ ?_
      rintro _ hh ⟨rfl, hT⟩
      obtain ⟨D, R⟩ := R.deed hT (Ok_rinse hO) (Ok2_rinse hO hO2) (Snd_rinse hO hSnd)
      have hno := rin_no hO hl (Or.inr hh1)
      rw [hno] at R
      obtain ⟨D, n, rows, R⟩ : ∃ D n rows, Run X h A B m C hh D r n rows tn tg := ⟨_, _, _, R⟩
      obtain ⟨hSep, hSys, hn, hO, hO2, hSnd, hTk, hRs, hFr⟩ := id R
      refine g_stk (st' := [.int (-2)]) (by rw [hno]; rfl) ?_
      refine g_bipush (v := (-2)) dL_takes_84 (by decide) ?_
      refine g_icmp_ne (tgt := 117) dL_takes_86 (by decide) (fun c10 => absurd rfl c10) (fun c10 => ?_)
      refine g_aload_n dL_takes_89 (by rfl) (by first | exact isRf_r | exact isRf_n | exact isRf_o | assumption) ?_
      refine g_iload_n dL_takes_90 (by rfl) ?_
      refine g_aload_n dL_takes_91 (by rfl) (by first | exact isRf_r | exact isRf_n | exact isRf_o | assumption) ?_
      refine g_iload_n dL_takes_92 (by rfl) ?_
      refine g_iconst (v := 0) dL_takes_93 (by decide) ?_
      refine g_cV2x dL_takes_94 lL_26 vX9_lotOf (ct_X9_lotOf X hO hSys) (hSys.1) rfl ⟨Nat.le_of_ble_eq_true rfl, Nat.le_of_ble_eq_true rfl⟩ (Nat.le_of_ble_eq_true rfl) ⟨Nat.le_of_ble_eq_true rfl, Nat.le_of_ble_eq_true rfl⟩ ?_
      refine g_cV2 dL_takes_97 lL_61 vX9_hang (ct_X9_hang X hSep hn hO hSys) (hSys.1) rfl ⟨Nat.le_of_ble_eq_true rfl, Nat.le_of_ble_eq_true rfl⟩ (Nat.le_of_ble_eq_true rfl) ⟨Nat.le_of_ble_eq_true rfl, Nat.le_of_ble_eq_true rfl⟩ ?_
      rintro _ hh ⟨rfl, hT⟩
      obtain ⟨D, R⟩ := R.deed hT (Ok_hang hO) (Ok2_hang hO hO2) (Snd_hang hO hSnd)
      have hno := hang_no hO hl hh1
      rw [hno] at R
      obtain ⟨D, n, rows, R⟩ : ∃ D n rows, Run X h A B m C hh D r n rows tn tg := ⟨_, _, _, R⟩
      obtain ⟨hSep, hSys, hn, hO, hO2, hSnd, hTk, hRs, hFr⟩ := id R
      refine g_stk (st' := [.int (-2)]) (by rw [hno]; rfl) ?_
      refine g_bipush (v := (-2)) dL_takes_100 (by decide) ?_
      refine g_icmp_ne (tgt := 117) dL_takes_102 (by decide) (fun c11 => absurd rfl c11) (fun c11 => ?_)
      refine g_aload_n dL_takes_105 (by rfl) (by first | exact isRf_r | exact isRf_n | exact isRf_o | assumption) ?_
      refine g_iload_n dL_takes_106 (by rfl) ?_
      refine g_cV1 dL_takes_107 lL_45 vX9_take (ct_X9_take X hSep hn hO hSys) (hSys.1) rfl ⟨Nat.le_of_ble_eq_true rfl, Nat.le_of_ble_eq_true rfl⟩ (Nat.le_of_ble_eq_true rfl) ⟨Nat.le_of_ble_eq_true rfl, Nat.le_of_ble_eq_true rfl⟩ ?_
      rintro _ hh ⟨rfl, hT⟩
      obtain ⟨D, R⟩ := R.deed hT (Ok_take hO) (Ok2_take hO hO2) (Snd_take hO hSnd)
      obtain ⟨x, htk, hx⟩ := take_ok hO hl hh1
      rw [htk] at R
      refine g_stk (st' := [.int (nI x)]) (by rw [htk]; rfl) ?_
      refine g_if_lt (tgt := 117) dL_takes_110 (by decide) (fun c12 => absurd c12 (n_neg (by rw [nI_toInt (by omega)]; omega))) (fun c12 => ?_)
      refine g_iconst (v := 1) dL_takes_113 (by decide) ?_
      refine g_goto (tgt := 118) dL_takes_114 (by decide) ?_
      refine g_zret dL_takes_118 rfl (by decide) (Nat.le_refl _) (Nat.le_refl _) ?_
      exact ⟨rfl, D, _, _, _, _, _, R, hz.of (fun p hp => upd_n (by omega))⟩
  · skip
    have hs := (fl_8 hSnd hO hl).mp c1
    refine g_iload dL_takes_19 (by rfl) ?_
    refine g_bipush (v := (-2)) dL_takes_21 (by decide) ?_
    refine g_icmp_ne (tgt := 51) dL_takes_23 (by decide) (fun c13 => absurd (ft_s hO hl hv ht1 ht2 hs) c13) (fun c13 => ?_)
    refine g_aload_n dL_takes_26 (by rfl) (by first | exact isRf_r | exact isRf_n | exact isRf_o | assumption) ?_
    refine g_iload_n dL_takes_27 (by rfl) ?_
    refine g_iload_n dL_takes_28 (by rfl) ?_
    refine g_cV2 dL_takes_29 lL_48 vX9_dip (ct_X9_dip X hSep hn hO hSys) (hSys.1) rfl ⟨Nat.le_of_ble_eq_true rfl, Nat.le_of_ble_eq_true rfl⟩ (Nat.le_of_ble_eq_true rfl) ⟨Nat.le_of_ble_eq_true rfl, Nat.le_of_ble_eq_true rfl⟩ ?_
    rintro _ hh ⟨rfl, hT⟩
    obtain ⟨D, R⟩ := R.deed hT (Ok_dip hO) (Ok2_dip hO hO2) (Snd_dip hO hSnd)
    have hno := dip_no hO hl hv (Or.inl hs)
    rw [hno] at R
    obtain ⟨D, n, rows, R⟩ : ∃ D n rows, Run X h A B m C hh D r n rows tn tg := ⟨_, _, _, R⟩
    obtain ⟨hSep, hSys, hn, hO, hO2, hSnd, hTk, hRs, hFr⟩ := id R
    refine g_stk (st' := [.int (-2)]) (by rw [hno]; rfl) ?_
    refine g_bipush (v := (-2)) dL_takes_32 (by decide) ?_
    refine g_icmp_ne (tgt := 51) dL_takes_34 (by decide) (fun c14 => absurd rfl c14) (fun c14 => ?_)
    refine g_aload_n dL_takes_37 (by rfl) (by first | exact isRf_r | exact isRf_n | exact isRf_o | assumption) ?_
    refine g_iload_n dL_takes_38 (by rfl) ?_
    refine g_cV1 dL_takes_39 lL_58 vX9_rinse (ct_X9_rinse X hSep hn hO hSys) (hSys.1) rfl ⟨Nat.le_of_ble_eq_true rfl, Nat.le_of_ble_eq_true rfl⟩ (Nat.le_of_ble_eq_true rfl) ⟨Nat.le_of_ble_eq_true rfl, Nat.le_of_ble_eq_true rfl⟩ ?_
    rintro _ hh ⟨rfl, hT⟩
    obtain ⟨D, R⟩ := R.deed hT (Ok_rinse hO) (Ok2_rinse hO hO2) (Snd_rinse hO hSnd)
    have hno := rin_no hO hl (Or.inl hs)
    rw [hno] at R
    obtain ⟨D, n, rows, R⟩ : ∃ D n rows, Run X h A B m C hh D r n rows tn tg := ⟨_, _, _, R⟩
    obtain ⟨hSep, hSys, hn, hO, hO2, hSnd, hTk, hRs, hFr⟩ := id R
    refine g_stk (st' := [.int (-2)]) (by rw [hno]; rfl) ?_
    refine g_bipush (v := (-2)) dL_takes_42 (by decide) ?_
    refine g_icmp_ne (tgt := 51) dL_takes_44 (by decide) (fun c15 => absurd rfl c15) (fun c15 => ?_)
    refine g_iconst (v := 1) dL_takes_47 (by decide) ?_
    refine g_goto (tgt := 52) dL_takes_48 (by decide) ?_
    refine g_zret dL_takes_52 rfl (by decide) (Nat.le_refl _) (Nat.le_refl _) ?_
    exact ⟨rfl, D, _, _, _, _, _, R, hz⟩
