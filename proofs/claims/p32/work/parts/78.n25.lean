theorem rng_0 {x q : Int32} {m : Nat} (hx : 0 ≤ x.toInt) (hq : q = nI m) (h1 : 1 ≤ m) (h2 : m ≤ 20000) : rngB 0 20000 (x - x / q * q) = true := by
  obtain ⟨j, hj, e⟩ := rem_q hx hq h1 (by omega)
  have y : (20000 : Int32).toInt = 20000 := by decide
  rw [e]
  exact rngB_t (nI_pos' (by omega)) (by rw [i_le, nI_toInt (by omega), y]; omega)
theorem div_nn {x q : Int32} {m : Nat} (hx : 0 ≤ x.toInt) (hq : q = nI m) (h1 : 1 ≤ m) (h2 : m ≤ 100000) : 0 ≤ (x / q).toInt := by
  have q := div_q hx hq h1 h2
  omega
theorem Beg_2 {r : Nat → Int32} (h : Beg r 2) : Sz r := by
  obtain ⟨a, b, c, -⟩ := h
  exact ⟨by omega, by omega, by omega⟩

theorem ge2 {k N : Nat} {x : Int32} (hx : x = nI N) (hk : k ≤ N) (hN : N ≤ 1000) (h : x ≤ nI k) : k = N := ge_nI hx hk hN h
theorem nge2 {k N : Nat} {x : Int32} (hx : x = nI N) (hk : k ≤ N) (hN : N ≤ 1000) (h : ¬ x ≤ nI k) : k < N := nge_nI hx hN hk h

set_option maxHeartbeats 4000000 in
set_option maxRecDepth 100000 in
theorem law_G (X : Cx) {nm : String} {b L : Nat} {xs : Nat → Int32} {h : Hp} (hL : L ≤ 260) (hb : h b = some (sI L xs)) (hst : StatAt X h) : G X RL cL_law 5 ret nm room_1 (Qlaw X b) 0 0 0 [(0, .ref b)] [] h := by
  refine g_new (ci := 9) (fs := [.null, .null, .null, .null, .null, .null]) dL_law_0 rfl qL_10 kX9_w kX9_n tyX9_ok (by intro j hj; revert j; decide) (Nat.le_of_ble_eq_true rfl) (Nat.le_of_ble_eq_true rfl) ?_
  intro a9 hn_a9
  refine g_dup dL_law_3 (by rfl) ?_
  refine g_cI0 dL_law_4 lL_122 vX9_init (ct_X9_init X hu_same (hst.hu0 hn_a9)) ⟨Nat.le_of_ble_eq_true rfl, Nat.le_of_ble_eq_true rfl⟩ (Nat.le_of_ble_eq_true rfl) ⟨Nat.le_of_ble_eq_true rfl, Nat.le_of_ble_eq_true rfl⟩ ?_
  rintro _ h1 ⟨rfl, A, B, m, C, hm0, hSep, hSys, hKp, hout⟩
  subst hm0
  have nb9 : b ≠ m 0 := Ne.symm (no_ne hn_a9 hb)
  have hb1 : h1 b = some (sI L xs) := hKp b _ nb9 (hu_n1 nb9 hb)
  have ob9 : outS A B m C b := hout b _ nb9 (hu_n1 nb9 hb)
  have R : Run X h1 A B m C h1 C row0 0 (fun _ _ => 0) 0 zrow := Run.begin hSep hSys (by omega) Ok_0 Ok2_0 Snd_0 TOk_0 (fun k hk => absurd hk (by omega))
  obtain ⟨hSep, hSys, hn, hO, hO2, hSnd, hTk, hRs, hFr⟩ := id R
  refine g_astore_n (L1 := [(0, _), (1, _)]) dL_law_7 (by first | exact isRf_r | exact isRf_n | exact isRf_o | assumption) (by decide) (by rfl) ?_
  refine g_aload_n dL_law_8 (by rfl) (by first | exact isRf_r | exact isRf_n | exact isRf_o | assumption) ?_
  refine g_cV0x dL_law_9 lL_51 vX9_undo (ct_undo0 X hSys) (hSys.1) rfl ⟨Nat.le_of_ble_eq_true rfl, Nat.le_of_ble_eq_true rfl⟩ (Nat.le_of_ble_eq_true rfl) ⟨Nat.le_of_ble_eq_true rfl, Nat.le_of_ble_eq_true rfl⟩ ?_
  refine g_bipush (v := (-2)) dL_law_12 (by decide) ?_
  refine g_icmp_ne (tgt := 58) dL_law_14 (by decide) (fun c1 => absurd rfl c1) (fun c1 => ?_)
  refine g_aload_n dL_law_17 (by rfl) (by first | exact isRf_r | exact isRf_n | exact isRf_o | assumption) ?_
  refine g_iconst (v := 0) dL_law_18 (by decide) ?_
  refine g_cV1x dL_law_19 lL_35 vX9_vatAt (ct_X9_vatAt X hO hSys) (hSys.1) rfl ⟨Nat.le_of_ble_eq_true rfl, Nat.le_of_ble_eq_true rfl⟩ (Nat.le_of_ble_eq_true rfl) ⟨Nat.le_of_ble_eq_true rfl, Nat.le_of_ble_eq_true rfl⟩ ?_
  refine g_bipush (v := (-4)) dL_law_22 (by decide) ?_
  refine g_icmp_ne (tgt := 58) dL_law_24 (by decide) (fun c2 => absurd l0_1 c2) (fun c2 => ?_)
  refine g_aload_n dL_law_27 (by rfl) (by first | exact isRf_r | exact isRf_n | exact isRf_o | assumption) ?_
  refine g_iconst (v := 0) dL_law_28 (by decide) ?_
  refine g_cV1x dL_law_29 lL_20 vX9_alike (ct_X9_alike X hO hSys) (hSys.1) rfl ⟨Nat.le_of_ble_eq_true rfl, Nat.le_of_ble_eq_true rfl⟩ (Nat.le_of_ble_eq_true rfl) ⟨Nat.le_of_ble_eq_true rfl, Nat.le_of_ble_eq_true rfl⟩ ?_
  refine g_if_ne (tgt := 58) dL_law_32 (by decide) (fun c3 => absurd l0_2 c3) (fun c3 => ?_)
  refine g_aload_n dL_law_35 (by rfl) (by first | exact isRf_r | exact isRf_n | exact isRf_o | assumption) ?_
  refine g_bipush (v := 23) dL_law_36 (by decide) ?_
  refine g_cV1x dL_law_38 lL_9 vX9_count (ct_X9_count X hO hSys) (hSys.1) rfl ⟨Nat.le_of_ble_eq_true rfl, Nat.le_of_ble_eq_true rfl⟩ (Nat.le_of_ble_eq_true rfl) ⟨Nat.le_of_ble_eq_true rfl, Nat.le_of_ble_eq_true rfl⟩ ?_
  refine g_sipush (v := 8000) dL_law_41 (by decide) ?_
  refine g_icmp_ne (tgt := 58) dL_law_44 (by decide) (fun c4 => absurd l0_3 c4) (fun c4 => ?_)
  refine g_aload_n dL_law_47 (by rfl) (by first | exact isRf_r | exact isRf_n | exact isRf_o | assumption) ?_
  refine g_cS1x dL_law_48 lL_123 rfl vL_isSound (ct_L_isSound X hO hO2 hSnd hn hSys) ⟨Nat.le_of_ble_eq_true rfl, Nat.le_of_ble_eq_true rfl⟩ (Nat.le_of_ble_eq_true rfl) ⟨Nat.le_of_ble_eq_true rfl, Nat.le_of_ble_eq_true rfl⟩ ?_
  refine g_if_eq (tgt := 58) dL_law_51 (by decide) (fun c5 => absurd c5 (by decide)) (fun c5 => ?_)
  refine g_iconst (v := 1) dL_law_54 (by decide) ?_
  refine g_goto (tgt := 59) dL_law_55 (by decide) ?_
  refine g_istore_n (L1 := [(0, _), (1, _), (2, _)]) dL_law_59 (by decide) (by rfl) ?_
  refine g_iconst (v := 0) dL_law_60 (by decide) ?_
  refine g_istore_n (L1 := [(0, _), (1, _), (2, _), (3, _)]) dL_law_61 (by decide) (by rfl) ?_
  have loop62 : ∀ k, k ≤ 2 → ∀ (hh : Hp) (D : Nat → Nat → Nat) (r : Nat → Int32) (n : Nat) (rows : Nat → Nat → Int32) (tn : Nat) (tg : Nat → Int32), Run X h1 A B m C hh D r n rows tn tg → Beg r k → G X RL cL_law 5 ret nm room_1 (Qlaw X b) 1382 6031 62 [(0, .ref b), (1, .ref (m 0)), (2, .int 1), (3, .int (nI k))] [] hh := by
    refine up_ind 2 (fun k hk ih => ?_)
    intro hh D r n rows tn tg R hBeg
    obtain ⟨hSep, hSys, hn, hO, hO2, hSnd, hTk, hRs, hFr⟩ := id R
    have hbb : hh b = some (sI L xs) := (hFr b ob9).2.trans hb1
    refine g_iload_n dL_law_62 (by rfl) ?_
    refine g_iconst (v := 2) dL_law_63 (by decide) ?_
    refine g_icmp_ge (tgt := 198) dL_law_64 (by decide) (fun c6 => ?_) (fun c6 => ?_)
    · skip
      have ek : k = 2 := ge2 (N := 2) (by decide) hk (by omega) c6
      subst ek
      have hsz := Beg_2 hBeg
      refine g_iconst (v := 2) dL_law_198 (by decide) ?_
      refine g_istore_n (L1 := [(0, _), (1, _), (2, _), (3, _)]) dL_law_199 (by decide) (by rfl) ?_
      have loop200 : ∀ k, k ≤ 20 → 2 ≤ k → ∀ (hh : Hp) (D : Nat → Nat → Nat) (r : Nat → Int32) (n : Nat) (rows : Nat → Nat → Int32) (tn : Nat) (tg : Nat → Int32), Run X h1 A B m C hh D r n rows tn tg → Sz r → G X RL cL_law 5 ret nm room_1 (Qlaw X b) 1382 6031 200 [(0, .ref b), (1, .ref (m 0)), (2, .int 1), (3, .int (nI k))] [] hh := by
        refine up_ind 20 (fun k hk ih => ?_)
        intro hk2 hh D r n rows tn tg R hsz
        obtain ⟨hSep, hSys, hn, hO, hO2, hSnd, hTk, hRs, hFr⟩ := id R
        have hbb : hh b = some (sI L xs) := (hFr b ob9).2.trans hb1
        refine g_iload_n dL_law_200 (by rfl) ?_
        refine g_bipush (v := 20) dL_law_201 (by decide) ?_
        refine g_icmp_ge (tgt := 247) dL_law_203 (by decide) (fun c7 => ?_) (fun c7 => ?_)
        · skip
          have hk20 := hk
          refine g_iload_n dL_law_247 (by rfl) ?_
          refine g_if_eq (tgt := 269) dL_law_248 (by decide) (fun c8 => absurd c8 (by decide)) (fun c8 => ?_)
          refine g_aload_n dL_law_251 (by rfl) (by first | exact isRf_r | exact isRf_n | exact isRf_o | assumption) ?_
          refine g_cS1x dL_law_252 lL_123 rfl vL_isSound (ct_L_isSound X hO hO2 hSnd hn hSys) ⟨Nat.le_of_ble_eq_true rfl, Nat.le_of_ble_eq_true rfl⟩ (Nat.le_of_ble_eq_true rfl) ⟨Nat.le_of_ble_eq_true rfl, Nat.le_of_ble_eq_true rfl⟩ ?_
          refine g_if_eq (tgt := 269) dL_law_255 (by decide) (fun c9 => absurd c9 (by decide)) (fun c9 => ?_)
          refine g_aload_n dL_law_258 (by rfl) (by first | exact isRf_r | exact isRf_n | exact isRf_o | assumption) ?_
          refine g_cS1 dL_law_259 lL_135 rfl vL_refuses (ct_L_refuses X hsz R.anew) ⟨Nat.le_of_ble_eq_true rfl, Nat.le_of_ble_eq_true rfl⟩ (Nat.le_of_ble_eq_true rfl) ⟨Nat.le_of_ble_eq_true rfl, Nat.le_of_ble_eq_true rfl⟩ ?_
          rintro _ hh ⟨rfl, -⟩
          refine g_stk (st' := [.int 1]) rfl ?_
          refine g_if_eq (tgt := 269) dL_law_262 (by decide) (fun c10 => absurd c10 (by decide)) (fun c10 => ?_)
          refine g_iconst (v := 1) dL_law_265 (by decide) ?_
          refine g_goto (tgt := 270) dL_law_266 (by decide) ?_
          exact g_lawret dL_law_270 (Nat.le_of_ble_eq_true rfl) (Nat.le_of_ble_eq_true rfl)
        · skip
          have hk20 : k < 20 := nge2 (N := 20) (by decide) hk (by omega) c7
          refine g_iload_n dL_law_206 (by rfl) ?_
          refine g_if_eq (tgt := 247) dL_law_207 (by decide) (fun c11 => absurd c11 (by decide)) (fun c11 => ?_)
          refine g_aload_n dL_law_210 (by rfl) (by first | exact isRf_r | exact isRf_n | exact isRf_o | assumption) ?_
          refine g_aload_n dL_law_211 (by rfl) (by first | exact isRf_r | exact isRf_n | exact isRf_o | assumption) ?_
          refine g_iload_n dL_law_212 (by rfl) ?_
          refine g_cS2 dL_law_213 lL_127 rfl vL_cell (ct_L_cell X (k := k) hbb hL (by omega)) ⟨Nat.le_of_ble_eq_true rfl, Nat.le_of_ble_eq_true rfl⟩ (Nat.le_of_ble_eq_true rfl) ⟨Nat.le_of_ble_eq_true rfl, Nat.le_of_ble_eq_true rfl⟩ ?_
          rintro _ hx ⟨z, rfl, hz0, ex⟩
          rw [ex]
          refine g_stk (st' := [.int z, .ref (m 0)]) rfl ?_
          refine g_cS2 dL_law_216 lL_131 rfl vL_acts (ct_L_acts X hz0 hsz R.anew) ⟨Nat.le_of_ble_eq_true rfl, Nat.le_of_ble_eq_true rfl⟩ (Nat.le_of_ble_eq_true rfl) ⟨Nat.le_of_ble_eq_true rfl, Nat.le_of_ble_eq_true rfl⟩ ?_
          rintro _ hh ⟨rfl, D2, r2, n2, rows2, tn2, tg2, R2, hsz2⟩
          have R := R.chain R2
          obtain ⟨D, r, n, rows, tn, tg, R, hsz⟩ : ∃ D r n rows tn tg, Run X h1 A B m C hh D r n rows tn tg ∧ Sz r := ⟨_, _, _, _, _, _, R, hsz2⟩
          obtain ⟨hSep, hSys, hn, hO, hO2, hSnd, hTk, hRs, hFr⟩ := id R
          refine g_stk (st' := [.int 1]) rfl ?_
          refine g_if_eq (tgt := 239) dL_law_219 (by decide) (fun c12 => absurd c12 (by decide)) (fun c12 => ?_)
          refine g_iload_n dL_law_222 (by rfl) ?_
          refine g_iconst (v := 3) dL_law_223 (by decide) ?_
          refine g_irem dL_law_224 (by decide) ?_
          refine g_if_ne (tgt := 235) dL_law_225 (by decide) (fun c13 => ?_) (fun c13 => ?_)
          · skip
            refine g_iconst (v := 1) dL_law_235 (by decide) ?_
            refine g_goto (tgt := 240) dL_law_236 (by decide) ?_
            refine g_istore_n (L1 := [(0, _), (1, _), (2, _), (3, _)]) dL_law_240 (by decide) (by rfl) ?_
            refine g_iinc (v := nI (k + 1)) (L1 := [(0, _), (1, _), (2, _), (3, _)]) dL_law_241 (by rfl) (nI_1 k) (by decide) (by rfl) ?_
            refine g_goto (tgt := 200) dL_law_244 (by decide) ?_
            exact ih hk20 (by omega) _ _ _ _ _ _ _ R hsz
          · skip
            refine g_aload_n dL_law_228 (by rfl) (by first | exact isRf_r | exact isRf_n | exact isRf_o | assumption) ?_
            refine g_cS1x dL_law_229 lL_123 rfl vL_isSound (ct_L_isSound X hO hO2 hSnd hn hSys) ⟨Nat.le_of_ble_eq_true rfl, Nat.le_of_ble_eq_true rfl⟩ (Nat.le_of_ble_eq_true rfl) ⟨Nat.le_of_ble_eq_true rfl, Nat.le_of_ble_eq_true rfl⟩ ?_
            refine g_if_eq (tgt := 239) dL_law_232 (by decide) (fun c14 => absurd c14 (by decide)) (fun c14 => ?_)
            refine g_iconst (v := 1) dL_law_235 (by decide) ?_
            refine g_goto (tgt := 240) dL_law_236 (by decide) ?_
            refine g_istore_n (L1 := [(0, _), (1, _), (2, _), (3, _)]) dL_law_240 (by decide) (by rfl) ?_
            refine g_iinc (v := nI (k + 1)) (L1 := [(0, _), (1, _), (2, _), (3, _)]) dL_law_241 (by rfl) (nI_1 k) (by decide) (by rfl) ?_
            refine g_goto (tgt := 200) dL_law_244 (by decide) ?_
            exact ih hk20 (by omega) _ _ _ _ _ _ _ R hsz
      exact loop200 2 (by omega) (by omega) _ _ _ _ _ _ _ R hsz
    · skip
      have hk2 : k < 2 := nge2 (N := 2) (by decide) hk (by omega) c6
      refine g_iload_n dL_law_67 (by rfl) ?_
      refine g_if_eq (tgt := 198) dL_law_68 (by decide) (fun c15 => absurd c15 (by decide)) (fun c15 => ?_)
      refine g_aload_n dL_law_71 (by rfl) (by first | exact isRf_r | exact isRf_n | exact isRf_o | assumption) ?_
      refine g_iload_n dL_law_72 (by rfl) ?_
      refine g_cS2 dL_law_73 lL_127 rfl vL_cell (ct_L_cell X (k := k) hbb hL (by omega)) ⟨Nat.le_of_ble_eq_true rfl, Nat.le_of_ble_eq_true rfl⟩ (Nat.le_of_ble_eq_true rfl) ⟨Nat.le_of_ble_eq_true rfl, Nat.le_of_ble_eq_true rfl⟩ ?_
      rintro _ hx ⟨z, rfl, hz0, ex⟩
      rw [ex]
      refine g_stk (st' := [.int z]) rfl ?_
      refine g_istore (L1 := [(0, _), (1, _), (2, _), (3, _), (4, _)]) dL_law_76 (by decide) (by rfl) ?_
      have J91 : ∀ dd : Int32, rngB 0 3 dd = true → G X RL cL_law 5 ret nm room_1 (Qlaw X b) 1382 6031 91 [(0, .ref b), (1, .ref (m 0)), (2, .int 1), (3, .int (nI k)), (4, .int z)] [.int dd, .ref (m 0)] hh := by
        intro dd hdd
        refine g_bipush (v := 10) dL_law_91 (by decide) ?_
        refine g_iload dL_law_93 (by rfl) ?_
        refine g_iconst (v := 4) dL_law_95 (by decide) ?_
        refine g_idiv dL_law_96 (by decide) ?_
        refine g_bipush (v := 90) dL_law_97 (by decide) ?_
        refine g_irem dL_law_99 (by decide) ?_
        refine g_iadd dL_law_100 ?_
        have hli : rngB 10 1000 (10 + (z / 4 - z / 4 / 90 * 90)) = true := rngB_w (rng_q (x := z / 4) (q := 90) (lo := 10) (hi := 99) (m := 90) (a := 10) (div_nn (q := 4) (m := 4) hz0 rfl (by omega) (by omega)) rfl (by omega) (by omega) rfl (by omega) rfl).1 (by decide) (by decide)
        refine g_cV2 dL_law_101 lL_85 vX9_vat (ct_X9_vat X hSep hn hO hSys) (hSys.1) rfl ⟨Nat.le_of_ble_eq_true rfl, Nat.le_of_ble_eq_true rfl⟩ (Nat.le_of_ble_eq_true rfl) ⟨Nat.le_of_ble_eq_true rfl, Nat.le_of_ble_eq_true rfl⟩ ?_
        rintro _ hh ⟨rfl, hT⟩
        obtain ⟨R1, ev, hv7, hv8, hv9, hvw, hvz⟩ := Beg_vat hO hBeg hk2 hdd hli
        obtain ⟨D, R⟩ := R.deed hT (Ok_vat hO) (Ok2_vat hO hO2) (Snd_vat hO hSnd)
        rw [ev] at R
        obtain ⟨D, n, rows, R⟩ : ∃ D n rows, Run X h1 A B m C hh D R1 n rows tn tg := ⟨_, _, _, R⟩
        obtain ⟨hSep, hSys, hn, hO, hO2, hSnd, hTk, hRs, hFr⟩ := id R
        refine g_stk (st' := [.int (nI k)]) (congrArg (fun z : Int32 × (Nat → Int32) => [Value.int z.1]) ev) ?_
        refine g_iload_n dL_law_104 (by rfl) ?_
        refine g_icmp_ne (tgt := 190) dL_law_105 (by decide) (fun c16 => absurd rfl c16) (fun c16 => ?_)
        refine g_aload_n dL_law_108 (by rfl) (by first | exact isRf_r | exact isRf_n | exact isRf_o | assumption) ?_
        refine g_iload_n dL_law_109 (by rfl) ?_
        refine g_iconst (v := 1) dL_law_110 (by decide) ?_
        refine g_iload dL_law_111 (by rfl) ?_
        refine g_sipush (v := 512) dL_law_113 (by decide) ?_
        refine g_idiv dL_law_116 (by decide) ?_
        refine g_sipush (v := 30000) dL_law_117 (by decide) ?_
        refine g_irem dL_law_120 (by decide) ?_
        refine g_iadd dL_law_121 ?_
        have hwg : rngB 1 30000 (1 + (z / 512 - z / 512 / 30000 * 30000)) = true := (rng_q (x := z / 512) (q := 30000) (lo := 1) (hi := 30000) (m := 30000) (a := 1) (div_nn (q := 512) (m := 512) hz0 rfl (by omega) (by omega)) rfl (by omega) (by omega) rfl (by omega) rfl).1
        refine g_cV2 dL_law_122 lL_88 vX9_weigh (ct_X9_weigh X hSep hn hO hSys) (hSys.1) rfl ⟨Nat.le_of_ble_eq_true rfl, Nat.le_of_ble_eq_true rfl⟩ (Nat.le_of_ble_eq_true rfl) ⟨Nat.le_of_ble_eq_true rfl, Nat.le_of_ble_eq_true rfl⟩ ?_
        rintro _ hh ⟨rfl, hT⟩
        obtain ⟨R2, ew, hgp, hw7, hw8, hw9, hww⟩ := Beg_weigh hO hv7 hk2 hvw hvz hwg
        obtain ⟨D, R⟩ := R.deed hT (Ok_weigh hO) (Ok2_weigh hO hO2) (Snd_weigh hO hSnd)
        rw [ew] at R
        obtain ⟨D, n, rows, R⟩ : ∃ D n rows, Run X h1 A B m C hh D R2 n rows tn tg := ⟨_, _, _, R⟩
        obtain ⟨hSep, hSys, hn, hO, hO2, hSnd, hTk, hRs, hFr⟩ := id R
        refine g_stk (st' := [.int (_)]) (congrArg (fun z : Int32 × (Nat → Int32) => [Value.int z.1]) ew) ?_
        refine g_if_le (tgt := 190) dL_law_125 (by decide) (fun c17 => absurd c17 (i_nle hgp)) (fun c17 => ?_)
        refine g_aload_n dL_law_128 (by rfl) (by first | exact isRf_r | exact isRf_n | exact isRf_o | assumption) ?_
        refine g_iload_n dL_law_129 (by rfl) ?_
        refine g_bipush (v := 100) dL_law_130 (by decide) ?_
        refine g_iload dL_law_132 (by rfl) ?_
        refine g_bipush (v := 8) dL_law_134 (by decide) ?_
        refine g_idiv dL_law_136 (by decide) ?_
        refine g_sipush (v := 500) dL_law_137 (by decide) ?_
        refine g_irem dL_law_140 (by decide) ?_
        refine g_iadd dL_law_141 ?_
        have hlg : rngB 100 5000 (100 + (z / 8 - z / 8 / 500 * 500)) = true := rngB_w (rng_q (x := z / 8) (q := 500) (lo := 100) (hi := 599) (m := 500) (a := 100) (div_nn (q := 8) (m := 8) hz0 rfl (by omega) (by omega)) rfl (by omega) (by omega) rfl (by omega) rfl).1 (by decide) (by decide)
        refine g_cV2 dL_law_142 lL_92 vX9_lot (ct_X9_lot X hSep hn hO hSys) (hSys.1) rfl ⟨Nat.le_of_ble_eq_true rfl, Nat.le_of_ble_eq_true rfl⟩ (Nat.le_of_ble_eq_true rfl) ⟨Nat.le_of_ble_eq_true rfl, Nat.le_of_ble_eq_true rfl⟩ ?_
        rintro _ hh ⟨rfl, hT⟩
        obtain ⟨R3, el, hl7, hl8, hl9, hlw⟩ := Beg_lot hO (by rw [hw8]; exact hv8) hk2 hlg
        obtain ⟨D, R⟩ := R.deed hT (Ok_lot hO) (Ok2_lot hO hO2) (Snd_lot hO hSnd)
        rw [el] at R
        obtain ⟨D, n, rows, R⟩ : ∃ D n rows, Run X h1 A B m C hh D R3 n rows tn tg := ⟨_, _, _, R⟩
        obtain ⟨hSep, hSys, hn, hO, hO2, hSnd, hTk, hRs, hFr⟩ := id R
        refine g_stk (st' := [.int (nI k)]) (congrArg (fun z : Int32 × (Nat → Int32) => [Value.int z.1]) el) ?_
        refine g_iload_n dL_law_145 (by rfl) ?_
        refine g_icmp_ne (tgt := 190) dL_law_146 (by decide) (fun c18 => absurd rfl c18) (fun c18 => ?_)
        refine g_aload_n dL_law_149 (by rfl) (by first | exact isRf_r | exact isRf_n | exact isRf_o | assumption) ?_
        refine g_iload dL_law_150 (by rfl) ?_
        refine g_bipush (v := 16) dL_law_152 (by decide) ?_
        refine g_idiv dL_law_154 (by decide) ?_
        refine g_sipush (v := 3000) dL_law_155 (by decide) ?_
        refine g_irem dL_law_158 (by decide) ?_
        refine g_iconst (v := 0) dL_law_159 (by decide) ?_
        refine g_iload dL_law_160 (by rfl) ?_
        refine g_bipush (v := 64) dL_law_162 (by decide) ?_
        refine g_idiv dL_law_164 (by decide) ?_
        refine g_sipush (v := 500) dL_law_165 (by decide) ?_
        refine g_irem dL_law_168 (by decide) ?_
        refine g_iload dL_law_169 (by rfl) ?_
        refine g_sipush (v := 1024) dL_law_171 (by decide) ?_
        refine g_idiv dL_law_174 (by decide) ?_
        refine g_sipush (v := 3000) dL_law_175 (by decide) ?_
        refine g_irem dL_law_178 (by decide) ?_
        have hoa : rngB 0 20000 (z / 16 - z / 16 / 3000 * 3000) = true := rng_0 (m := 3000) (div_nn (q := 16) (m := 16) hz0 rfl (by omega) (by omega)) rfl (by omega) (by omega)
        have hoc : rngB 0 20000 (z / 64 - z / 64 / 500 * 500) = true := rng_0 (m := 500) (div_nn (q := 64) (m := 64) hz0 rfl (by omega) (by omega)) rfl (by omega) (by omega)
        have hod : rngB 0 20000 (z / 1024 - z / 1024 / 3000 * 3000) = true := rng_0 (m := 3000) (div_nn (q := 1024) (m := 1024) hz0 rfl (by omega) (by omega)) rfl (by omega) (by omega)
        refine g_cV4 dL_law_179 lL_101 vX9_order (ct_X9_order X hSep hn hO hSys) (hSys.1) rfl ⟨Nat.le_of_ble_eq_true rfl, Nat.le_of_ble_eq_true rfl⟩ (Nat.le_of_ble_eq_true rfl) ⟨Nat.le_of_ble_eq_true rfl, Nat.le_of_ble_eq_true rfl⟩ ?_
        rintro _ hh ⟨rfl, hT⟩
        obtain ⟨R4, eo, ho7, ho8, ho9, how⟩ := Beg_order (b := 0) hO (by rw [hl9, hw9]; exact hv9) hk2 hoa (by decide) hoc hod
        obtain ⟨D, R⟩ := R.deed hT (Ok_order hO) (Ok2_order hO hO2) (Snd_order hO hSnd)
        rw [eo] at R
        obtain ⟨D, n, rows, R⟩ : ∃ D n rows, Run X h1 A B m C hh D R4 n rows tn tg := ⟨_, _, _, R⟩
        obtain ⟨hSep, hSys, hn, hO, hO2, hSnd, hTk, hRs, hFr⟩ := id R
        refine g_stk (st' := [.int (nI k)]) (congrArg (fun z : Int32 × (Nat → Int32) => [Value.int z.1]) eo) ?_
        refine g_iload_n dL_law_182 (by rfl) ?_
        refine g_icmp_ne (tgt := 190) dL_law_183 (by decide) (fun c19 => absurd rfl c19) (fun c19 => ?_)
        refine g_iconst (v := 1) dL_law_186 (by decide) ?_
        refine g_goto (tgt := 191) dL_law_187 (by decide) ?_
        refine g_istore_n (L1 := [(0, _), (1, _), (2, _), (3, _), (4, _)]) dL_law_191 (by decide) (by rfl) ?_
        refine g_iinc (v := nI (k + 1)) (L1 := [(0, _), (1, _), (2, _), (3, _), (4, _)]) dL_law_192 (by rfl) (nI_1 k) (by decide) (by rfl) ?_
        refine g_goto (tgt := 62) dL_law_195 (by decide) ?_
        refine g_pick [0, 1, 2, 3] rfl ?_
        exact ih hk2 _ _ _ _ _ _ _ R ⟨by rw [ho7, hl7, hw7]; exact hv7, by rw [ho8]; exact hl8, ho9, fun i hi => by rw [how i hi, hlw i hi]; exact hww i hi⟩
      refine g_aload_n dL_law_78 (by rfl) (by first | exact isRf_r | exact isRf_n | exact isRf_o | assumption) ?_
      refine g_iload_n dL_law_79 (by rfl) ?_
      refine g_if_ne (tgt := 90) dL_law_80 (by decide) (fun c20 => ?_) (fun c20 => ?_)
      · skip
        refine g_iconst (v := 3) dL_law_90 (by decide) ?_
        first
          | exact J91 _ (and_3 z)
          | exact J91 3 (by decide)
      · skip
        refine g_iload dL_law_83 (by rfl) ?_
        refine g_iconst (v := 3) dL_law_85 (by decide) ?_
        refine g_iand dL_law_86 ?_
        refine g_goto (tgt := 91) dL_law_87 (by decide) ?_
        first
          | exact J91 _ (and_3 z)
          | exact J91 3 (by decide)
  exact loop62 0 (by omega) _ _ _ _ _ _ _ R Beg_0
