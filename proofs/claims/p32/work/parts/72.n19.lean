theorem ln_1 {l : Nat} : ([114] ++ Dg l).length + 1 = 2 + (Dg l).length := by
  rw [List.length_append]
  show 1 + (Dg l).length + 1 = _
  omega
theorem ln_e {l v : Nat} (hv : v < 10) : ([114] ++ Dg l ++ [59] ++ [101] ++ Dg v).length + 1 = 5 + (Dg l).length := by
  rw [Dg_1 (show ¬ 9 < v by omega)]
  simp only [List.length_append, List.length_cons, List.length_nil]
  omega
theorem L1_e {l v : Nat} (hv : v < 10) : [114] ++ Dg l ++ [59] ++ [101] ++ Dg v ++ [59] = L1 l v := by
  unfold L1
  rw [Dg_1 (show ¬ 9 < v by omega)]
  simp only [List.append_assoc, List.cons_append, List.nil_append]
theorem L2_e {l v : Nat} (hv : v < 10) : L1 l v ++ [100] ++ Dg l ++ [44] ++ Dg v ++ [59] = L2 l v := by
  unfold L2
  rw [Dg_1 (show ¬ 9 < v by omega)]
  simp only [List.append_assoc, List.cons_append, List.nil_append]
theorem ln_2 {l v : Nat} (hv : v < 10) : (L1 l v ++ [100] ++ Dg l ++ [44] ++ Dg v).length + 1 = 9 + 2 * (Dg l).length := by
  unfold L1
  rw [Dg_1 (show ¬ 9 < v by omega)]
  simp only [List.length_append, List.length_cons, List.length_nil]
  omega
theorem L5_e {l : Nat} : [114] ++ Dg l ++ [59] ++ [116] = L5 l := by
  unfold L5
  simp only [List.append_assoc, List.cons_append, List.nil_append]
theorem ln_5 {l : Nat} : ([114] ++ Dg l ++ [59]).length + 1 = 3 + (Dg l).length := by
  simp only [List.length_append, List.length_cons, List.length_nil]
  omega

theorem n_nlt0 {x : Int32} (h : 0 ≤ x) : ¬ x < 0 := by
  rw [i_le] at h
  rw [i_lt]
  omega
theorem hang_q {r : Nat → Int32} {l : Nat} (o : Ok r) (hl : l < cl (r 8)) (h : ¬ Q_lotOf r (nI l) 5 = 0) : hangs r l = true := by
  rw [(ql_all o hl).2.2.2.2.1] at h
  exact decide_eq_true h
theorem hang_z {r : Nat → Int32} {l : Nat} (o : Ok r) (hl : l < cl (r 8)) (h : Q_lotOf r (nI l) 5 = 0) : hangs r l = false := by
  rw [(ql_all o hl).2.2.2.2.1] at h
  exact decide_eq_false (fun z => z h)

set_option maxHeartbeats 16000000 in
set_option maxRecDepth 100000 in
theorem ct_L_plays (X : Cx) {h : Hp} {A B m : Nat → Nat} {C : Nat → Nat → Nat} {r : Nat → Int32} {n tn : Nat} {rows : Nat → Nat → Int32} {tg : Nat → Int32} {l v : Nat} (hl : l < cl (r 8)) (hv : v < cl (r 7)) (hz : Sz r) (R : Run X h A B m C h C r n rows tn tg) : Ct X mL_plays 7 0 0 [.ref (m 0), .int (nI l), .int (nI v)] h (LEnd X h A B m C) := by
  obtain ⟨hSep, hSys, hn, hO, hO2, hSnd, hTk, hRs, hFr⟩ := id R
  have hOr := hO
  have hl20 := (hO.lk hl).1
  have hv10 : v < 10 := by
    have q := cl_le7 hO
    omega
  have hla := Dg_len l
  have hlb := Dg_len v
  have h3a : nI (3 + (Dg l).length) = nI (2 + (Dg l).length) + 1 := by
    rw [nI_1]
    congr 1
    omega
  have hend : ¬ nI (9 + 2 * (Dg l).length) ≤ nI (5 + (Dg l).length) := by
    rw [i_le, nI_toInt (by omega), nI_toInt (by omega)]
    omega
  refine Ct.ofG vL_plays.1.2.2.1 (Nat.le_of_ble_eq_true rfl) ?_
  show G X RL cL_plays 10 (some .boolean) "plays" (Rm 7 0 0) (Fm X (LEnd X h A B m C) 0 0) 0 0 0 [(0, .ref (m 0)), (1, .int (nI l)), (2, .int (nI v))] [] h
  refine g_aload_n dL_plays_0 (by rfl) (by first | exact isRf_r | exact isRf_n | exact isRf_o | assumption) ?_
  refine g_cV0 dL_plays_1 lL_67 vX9_clearText (ct_X9_clearText X hSep hTk hSys) (hSys.1) rfl ⟨Nat.le_of_ble_eq_true rfl, Nat.le_of_ble_eq_true rfl⟩ (Nat.le_of_ble_eq_true rfl) ⟨Nat.le_of_ble_eq_true rfl, Nat.le_of_ble_eq_true rfl⟩ ?_
  rintro _ hh ⟨rfl, hT⟩
  obtain ⟨D, R⟩ := R.text hT TOk_n0
  obtain ⟨D, tn, tg, R, t⟩ : ∃ D tn tg, Run X h A B m C hh D r n rows tn tg ∧ Tx tn tg [] := ⟨_, _, _, R, Tx_0⟩
  obtain ⟨hSep, hSys, hn, hO, hO2, hSnd, hTk, hRs, hFr⟩ := id R
  refine g_stk (st' := [.int _]) rfl ?_
  refine g_pop dL_plays_4 (by rfl) ?_
  refine g_aload_n dL_plays_5 (by rfl) (by first | exact isRf_r | exact isRf_n | exact isRf_o | assumption) ?_
  refine g_iconst (v := 0) dL_plays_6 (by decide) ?_
  refine g_cV1 dL_plays_7 lL_70 vX9_fault (ct_X9_fault X hSep hn hO hSys hTk) (hSys.1) rfl ⟨Nat.le_of_ble_eq_true rfl, Nat.le_of_ble_eq_true rfl⟩ (Nat.le_of_ble_eq_true rfl) ⟨Nat.le_of_ble_eq_true rfl, Nat.le_of_ble_eq_true rfl⟩ ?_
  rintro _ hh ⟨rfl, hT⟩
  have hfa := (tx_e (r := r) t).1
  obtain ⟨D, R⟩ := R.same hT
  obtain ⟨hSep, hSys, hn, hO, hO2, hSnd, hTk, hRs, hFr⟩ := id R
  refine g_stk (st' := [.int (-4)]) (congrArg (fun z => [Value.int z]) hfa) ?_
  refine g_bipush (v := (-4)) dL_plays_10 (by decide) ?_
  refine g_icmp_ne (tgt := 33) dL_plays_12 (by decide) (fun c1 => absurd rfl c1) (fun c1 => ?_)
  refine g_aload_n dL_plays_15 (by rfl) (by first | exact isRf_r | exact isRf_n | exact isRf_o | assumption) ?_
  refine g_cV0 dL_plays_16 lL_73 vX9_play (ct_X9_play X hSep hn hO hSys hTk) (hSys.1) rfl ⟨Nat.le_of_ble_eq_true rfl, Nat.le_of_ble_eq_true rfl⟩ (Nat.le_of_ble_eq_true rfl) ⟨Nat.le_of_ble_eq_true rfl, Nat.le_of_ble_eq_true rfl⟩ ?_
  rintro _ hh ⟨rfl, hT⟩
  have hn0 := hn
  have hO0 := hO
  have hO20 := hO2
  have hSnd0 := hSnd
  have hpl := (tx_e (r := r) t).2
  obtain ⟨D, R⟩ := R.deed hT (play_k hO hO2 hSnd).1 (play_k hO hO2 hSnd).2.1 (play_k hO hO2 hSnd).2.2
  rw [hpl] at R
  have R : Run X h A B m C hh D r (sysN (nI 0) n) (sysR (nI 0) n r rows) tn tg := R
  obtain ⟨hSep, hSys, hn, hO, hO2, hSnd, hTk, hRs, hFr⟩ := id R
  refine g_stk (st' := [.int (nI 0)]) (by rw [hpl]; rfl) ?_
  refine g_if_ne (tgt := 33) dL_plays_19 (by decide) (fun c2 => absurd rfl c2) (fun c2 => ?_)
  refine g_aload_n dL_plays_22 (by rfl) (by first | exact isRf_r | exact isRf_n | exact isRf_o | assumption) ?_
  refine g_cV0 dL_plays_23 lL_51 vX9_undo (ct_undoD (x := nI 0) (by decide) hn0 hO0 hO20 hSnd0 R) (hSys.1) rfl ⟨Nat.le_of_ble_eq_true rfl, Nat.le_of_ble_eq_true rfl⟩ (Nat.le_of_ble_eq_true rfl) ⟨Nat.le_of_ble_eq_true rfl, Nat.le_of_ble_eq_true rfl⟩ ?_
  rintro _ hh ⟨q, rfl, hq4, D, n, rows, R⟩
  obtain ⟨hSep, hSys, hn, hO, hO2, hSnd, hTk, hRs, hFr⟩ := id R
  refine g_stk (st' := [.int (nI q)]) rfl ?_
  refine g_if_lt (tgt := 33) dL_plays_26 (by decide) (fun c3 => absurd c3 (n_neg (by rw [nI_toInt (by omega)]; omega))) (fun c3 => ?_)
  refine g_iconst (v := 1) dL_plays_29 (by decide) ?_
  refine g_goto (tgt := 34) dL_plays_30 (by decide) ?_
  refine g_istore_n (L1 := [(0, _), (1, _), (2, _), (3, _)]) dL_plays_34 (by decide) (by rfl) ?_
  refine g_aload_n dL_plays_35 (by rfl) (by first | exact isRf_r | exact isRf_n | exact isRf_o | assumption) ?_
  refine g_bipush (v := 114) dL_plays_36 (by decide) ?_
  refine g_cV1 dL_plays_38 lL_64 vX9_type (ct_X9_type X hSep hTk hSys) (hSys.1) rfl ⟨Nat.le_of_ble_eq_true rfl, Nat.le_of_ble_eq_true rfl⟩ (Nat.le_of_ble_eq_true rfl) ⟨Nat.le_of_ble_eq_true rfl, Nat.le_of_ble_eq_true rfl⟩ ?_
  rintro _ hh ⟨rfl, hT⟩
  obtain ⟨D, R⟩ := R.text hT (TOk_type hTk)
  obtain ⟨hty, t2⟩ := t.ty (c := 114) (by simp only [L1, List.length_append, List.length_cons, List.length_nil]; omega) (by omega) (by omega)
  obtain ⟨D, tn, tg, R, t⟩ : ∃ D tn tg, Run X h A B m C hh D r n rows tn tg ∧ Tx tn tg ([114]) := ⟨_, _, _, R, t2⟩
  obtain ⟨hSep, hSys, hn, hO, hO2, hSnd, hTk, hRs, hFr⟩ := id R
  refine g_stk (st' := [.int (_)]) (congrArg (fun z => [Value.int z]) hty) ?_
  refine g_pop dL_plays_41 (by rfl) ?_
  refine g_aload_n dL_plays_42 (by rfl) (by first | exact isRf_r | exact isRf_n | exact isRf_o | assumption) ?_
  refine g_iload_n dL_plays_43 (by rfl) ?_
  refine g_cS2 dL_plays_44 lL_76 rfl vL_number (ct_L_number X (x := l) hl20 (by simp only [L1, List.length_append, List.length_cons, List.length_nil]; omega) t R.anew) ⟨Nat.le_of_ble_eq_true rfl, Nat.le_of_ble_eq_true rfl⟩ (Nat.le_of_ble_eq_true rfl) ⟨Nat.le_of_ble_eq_true rfl, Nat.le_of_ble_eq_true rfl⟩ ?_
  rintro _ hh ⟨rfl, D2, tn2, tg2, R2, t2⟩
  have R := R.chain R2
  obtain ⟨D, tn, tg, R, t⟩ : ∃ D tn tg, Run X h A B m C hh D r n rows tn tg ∧ Tx tn tg ([114] ++ Dg l) := ⟨_, _, _, R, t2⟩
  obtain ⟨hSep, hSys, hn, hO, hO2, hSnd, hTk, hRs, hFr⟩ := id R
  refine g_stk (st' := []) rfl ?_
  refine g_aload_n dL_plays_47 (by rfl) (by first | exact isRf_r | exact isRf_n | exact isRf_o | assumption) ?_
  refine g_bipush (v := 59) dL_plays_48 (by decide) ?_
  refine g_cV1 dL_plays_50 lL_64 vX9_type (ct_X9_type X hSep hTk hSys) (hSys.1) rfl ⟨Nat.le_of_ble_eq_true rfl, Nat.le_of_ble_eq_true rfl⟩ (Nat.le_of_ble_eq_true rfl) ⟨Nat.le_of_ble_eq_true rfl, Nat.le_of_ble_eq_true rfl⟩ ?_
  rintro _ hh ⟨rfl, hT⟩
  obtain ⟨D, R⟩ := R.text hT (TOk_type hTk)
  obtain ⟨hty, t2⟩ := t.ty (c := 59) (by simp only [L1, List.length_append, List.length_cons, List.length_nil]; omega) (by omega) (by omega)
  rw [ln_1] at hty
  obtain ⟨D, tn, tg, R, t⟩ : ∃ D tn tg, Run X h A B m C hh D r n rows tn tg ∧ Tx tn tg ([114] ++ Dg l ++ [59]) := ⟨_, _, _, R, t2⟩
  obtain ⟨hSep, hSys, hn, hO, hO2, hSnd, hTk, hRs, hFr⟩ := id R
  refine g_stk (st' := [.int (nI (2 + (Dg l).length))]) (congrArg (fun z => [Value.int z]) hty) ?_
  refine g_istore (L1 := [(0, _), (1, _), (2, _), (3, _), (4, _)]) dL_plays_53 (by decide) (by rfl) ?_
  refine g_aload_n dL_plays_55 (by rfl) (by first | exact isRf_r | exact isRf_n | exact isRf_o | assumption) ?_
  refine g_bipush (v := 101) dL_plays_56 (by decide) ?_
  refine g_cV1 dL_plays_58 lL_64 vX9_type (ct_X9_type X hSep hTk hSys) (hSys.1) rfl ⟨Nat.le_of_ble_eq_true rfl, Nat.le_of_ble_eq_true rfl⟩ (Nat.le_of_ble_eq_true rfl) ⟨Nat.le_of_ble_eq_true rfl, Nat.le_of_ble_eq_true rfl⟩ ?_
  rintro _ hh ⟨rfl, hT⟩
  obtain ⟨D, R⟩ := R.text hT (TOk_type hTk)
  obtain ⟨hty, t2⟩ := t.ty (c := 101) (by simp only [L1, List.length_append, List.length_cons, List.length_nil]; omega) (by omega) (by omega)
  obtain ⟨D, tn, tg, R, t⟩ : ∃ D tn tg, Run X h A B m C hh D r n rows tn tg ∧ Tx tn tg ([114] ++ Dg l ++ [59] ++ [101]) := ⟨_, _, _, R, t2⟩
  obtain ⟨hSep, hSys, hn, hO, hO2, hSnd, hTk, hRs, hFr⟩ := id R
  refine g_stk (st' := [.int (_)]) (congrArg (fun z => [Value.int z]) hty) ?_
  refine g_pop dL_plays_61 (by rfl) ?_
  refine g_aload_n dL_plays_62 (by rfl) (by first | exact isRf_r | exact isRf_n | exact isRf_o | assumption) ?_
  refine g_iload_n dL_plays_63 (by rfl) ?_
  refine g_cS2 dL_plays_64 lL_76 rfl vL_number (ct_L_number X (x := v) (by omega) (by simp only [L1, List.length_append, List.length_cons, List.length_nil]; omega) t R.anew) ⟨Nat.le_of_ble_eq_true rfl, Nat.le_of_ble_eq_true rfl⟩ (Nat.le_of_ble_eq_true rfl) ⟨Nat.le_of_ble_eq_true rfl, Nat.le_of_ble_eq_true rfl⟩ ?_
  rintro _ hh ⟨rfl, D2, tn2, tg2, R2, t2⟩
  have R := R.chain R2
  obtain ⟨D, tn, tg, R, t⟩ : ∃ D tn tg, Run X h A B m C hh D r n rows tn tg ∧ Tx tn tg ([114] ++ Dg l ++ [59] ++ [101] ++ Dg v) := ⟨_, _, _, R, t2⟩
  obtain ⟨hSep, hSys, hn, hO, hO2, hSnd, hTk, hRs, hFr⟩ := id R
  refine g_stk (st' := []) rfl ?_
  refine g_aload_n dL_plays_67 (by rfl) (by first | exact isRf_r | exact isRf_n | exact isRf_o | assumption) ?_
  refine g_bipush (v := 59) dL_plays_68 (by decide) ?_
  refine g_cV1 dL_plays_70 lL_64 vX9_type (ct_X9_type X hSep hTk hSys) (hSys.1) rfl ⟨Nat.le_of_ble_eq_true rfl, Nat.le_of_ble_eq_true rfl⟩ (Nat.le_of_ble_eq_true rfl) ⟨Nat.le_of_ble_eq_true rfl, Nat.le_of_ble_eq_true rfl⟩ ?_
  rintro _ hh ⟨rfl, hT⟩
  obtain ⟨D, R⟩ := R.text hT (TOk_type hTk)
  obtain ⟨hty, t2⟩ := t.ty (c := 59) (by simp only [L1, List.length_append, List.length_cons, List.length_nil]; omega) (by omega) (by omega)
  rw [L1_e hv10] at t2
  rw [ln_e hv10] at hty
  obtain ⟨D, tn, tg, R, t⟩ : ∃ D tn tg, Run X h A B m C hh D r n rows tn tg ∧ Tx tn tg (L1 l v) := ⟨_, _, _, R, t2⟩
  obtain ⟨hSep, hSys, hn, hO, hO2, hSnd, hTk, hRs, hFr⟩ := id R
  refine g_stk (st' := [.int (nI (5 + (Dg l).length))]) (congrArg (fun z => [Value.int z]) hty) ?_
  refine g_istore (L1 := [(0, _), (1, _), (2, _), (3, _), (4, _), (5, _)]) dL_plays_73 (by decide) (by rfl) ?_
  have J98 : sold r l = true ∨ hangs r l = true → G X RL cL_plays 10 (some .boolean) "plays" (Rm 7 0 0) (Fm X (LEnd X h A B m C) 0 0) 0 0 98 [(0, .ref (m 0)), (1, .int (nI l)), (2, .int (nI v)), (3, .int 1), (4, .int (nI (2 + (Dg l).length))), (5, .int (nI (5 + (Dg l).length)))] [] hh := by
    intro hno
    refine g_iconst (v := 0) dL_plays_98 (by decide) ?_
    refine g_istore (L1 := [(0, _), (1, _), (2, _), (3, _), (4, _), (5, _), (6, _)]) dL_plays_99 (by decide) (by rfl) ?_
    refine g_iload dL_plays_101 (by rfl) ?_
    refine g_if_ne (tgt := 161) dL_plays_103 (by decide) (fun c4 => absurd rfl c4) (fun c4 => ?_)
    refine g_iload_n dL_plays_106 (by rfl) ?_
    refine g_if_eq (tgt := 159) dL_plays_107 (by decide) (fun c5 => absurd c5 (by decide)) (fun c5 => ?_)
    refine g_aload_n dL_plays_110 (by rfl) (by first | exact isRf_r | exact isRf_n | exact isRf_o | assumption) ?_
    refine g_iconst (v := 0) dL_plays_111 (by decide) ?_
    refine g_cV1 dL_plays_112 lL_70 vX9_fault (ct_X9_fault X hSep hn hO hSys hTk) (hSys.1) rfl ⟨Nat.le_of_ble_eq_true rfl, Nat.le_of_ble_eq_true rfl⟩ (Nat.le_of_ble_eq_true rfl) ⟨Nat.le_of_ble_eq_true rfl, Nat.le_of_ble_eq_true rfl⟩ ?_
    rintro _ hh ⟨rfl, hT⟩
    have hfa := (tx_1n t hO hl hv hno).1
    obtain ⟨D, R⟩ := R.same hT
    obtain ⟨hSep, hSys, hn, hO, hO2, hSnd, hTk, hRs, hFr⟩ := id R
    refine g_stk (st' := [.int (0)]) (congrArg (fun z => [Value.int z]) hfa) ?_
    refine g_if_ne (tgt := 159) dL_plays_115 (by decide) (fun c6 => absurd rfl c6) (fun c6 => ?_)
    refine g_aload_n dL_plays_118 (by rfl) (by first | exact isRf_r | exact isRf_n | exact isRf_o | assumption) ?_
    refine g_iconst (v := 1) dL_plays_119 (by decide) ?_
    refine g_cV1 dL_plays_120 lL_70 vX9_fault (ct_X9_fault X hSep hn hO hSys hTk) (hSys.1) rfl ⟨Nat.le_of_ble_eq_true rfl, Nat.le_of_ble_eq_true rfl⟩ (Nat.le_of_ble_eq_true rfl) ⟨Nat.le_of_ble_eq_true rfl, Nat.le_of_ble_eq_true rfl⟩ ?_
    rintro _ hh ⟨rfl, hT⟩
    have hfa := (tx_1n t hO hl hv hno).2.1
    obtain ⟨D, R⟩ := R.same hT
    obtain ⟨hSep, hSys, hn, hO, hO2, hSnd, hTk, hRs, hFr⟩ := id R
    refine g_stk (st' := [.int (2)]) (congrArg (fun z => [Value.int z]) hfa) ?_
    refine g_iconst (v := 2) dL_plays_123 (by decide) ?_
    refine g_icmp_ne (tgt := 159) dL_plays_124 (by decide) (fun c7 => absurd rfl c7) (fun c7 => ?_)
    refine g_aload_n dL_plays_127 (by rfl) (by first | exact isRf_r | exact isRf_n | exact isRf_o | assumption) ?_
    refine g_iconst (v := 2) dL_plays_128 (by decide) ?_
    refine g_cV1 dL_plays_129 lL_70 vX9_fault (ct_X9_fault X hSep hn hO hSys hTk) (hSys.1) rfl ⟨Nat.le_of_ble_eq_true rfl, Nat.le_of_ble_eq_true rfl⟩ (Nat.le_of_ble_eq_true rfl) ⟨Nat.le_of_ble_eq_true rfl, Nat.le_of_ble_eq_true rfl⟩ ?_
    rintro _ hh ⟨rfl, hT⟩
    have hfa := (tx_1n t hO hl hv hno).2.2.1
    obtain ⟨D, R⟩ := R.same hT
    obtain ⟨hSep, hSys, hn, hO, hO2, hSnd, hTk, hRs, hFr⟩ := id R
    refine g_stk (st' := [.int (-2)]) (congrArg (fun z => [Value.int z]) hfa) ?_
    refine g_bipush (v := (-2)) dL_plays_132 (by decide) ?_
    refine g_icmp_ne (tgt := 159) dL_plays_134 (by decide) (fun c8 => absurd rfl c8) (fun c8 => ?_)
    refine g_aload_n dL_plays_137 (by rfl) (by first | exact isRf_r | exact isRf_n | exact isRf_o | assumption) ?_
    refine g_cV0 dL_plays_138 lL_73 vX9_play (ct_X9_play X hSep hn hO hSys hTk) (hSys.1) rfl ⟨Nat.le_of_ble_eq_true rfl, Nat.le_of_ble_eq_true rfl⟩ (Nat.le_of_ble_eq_true rfl) ⟨Nat.le_of_ble_eq_true rfl, Nat.le_of_ble_eq_true rfl⟩ ?_
    rintro _ hh ⟨rfl, hT⟩
    have hn0 := hn
    have hO0 := hO
    have hO20 := hO2
    have hSnd0 := hSnd
    have hpl := (tx_1n t hO hl hv hno).2.2.2
    obtain ⟨D, R⟩ := R.deed hT (play_k hO hO2 hSnd).1 (play_k hO hO2 hSnd).2.1 (play_k hO hO2 hSnd).2.2
    rw [hpl] at R
    obtain ⟨D, n, rows, R⟩ : ∃ D n rows, Run X h A B m C hh D r n rows tn tg := ⟨_, _, _, R⟩
    obtain ⟨hSep, hSys, hn, hO, hO2, hSnd, hTk, hRs, hFr⟩ := id R
    refine g_stk (st' := [.int (-2)]) (by rw [hpl]; rfl) ?_
    refine g_bipush (v := (-2)) dL_plays_141 (by decide) ?_
    refine g_icmp_ne (tgt := 159) dL_plays_143 (by decide) (fun c9 => absurd rfl c9) (fun c9 => ?_)
    refine g_aload_n dL_plays_146 (by rfl) (by first | exact isRf_r | exact isRf_n | exact isRf_o | assumption) ?_
    refine g_cV0 dL_plays_147 lL_67 vX9_clearText (ct_X9_clearText X hSep hTk hSys) (hSys.1) rfl ⟨Nat.le_of_ble_eq_true rfl, Nat.le_of_ble_eq_true rfl⟩ (Nat.le_of_ble_eq_true rfl) ⟨Nat.le_of_ble_eq_true rfl, Nat.le_of_ble_eq_true rfl⟩ ?_
    rintro _ hh ⟨rfl, hT⟩
    obtain ⟨D, R⟩ := R.text hT TOk_n0
    have hcl : nI tn = nI (5 + (Dg l).length) := by rw [(rd_1 t hl20 hv10).1]
    obtain ⟨D, tn, tg, R, t⟩ : ∃ D tn tg, Run X h A B m C hh D r n rows tn tg ∧ Tx tn tg [] := ⟨_, _, _, R, Tx_0⟩
    obtain ⟨hSep, hSys, hn, hO, hO2, hSnd, hTk, hRs, hFr⟩ := id R
    refine g_stk (st' := [.int (nI (5 + (Dg l).length))]) (congrArg (fun z => [Value.int z]) hcl) ?_
    refine g_iload dL_plays_150 (by rfl) ?_
    refine g_icmp_ne (tgt := 159) dL_plays_152 (by decide) (fun c10 => absurd rfl c10) (fun c10 => ?_)
    refine g_iconst (v := 1) dL_plays_155 (by decide) ?_
    refine g_goto (tgt := 160) dL_plays_156 (by decide) ?_
    refine g_zret dL_plays_160 rfl (by decide) (Nat.le_refl _) (Nat.le_refl _) ?_
    exact ⟨rfl, D, _, _, _, _, _, R, hz⟩
  refine g_aload_n dL_plays_75 (by rfl) (by first | exact isRf_r | exact isRf_n | exact isRf_o | assumption) ?_
  refine g_iload_n dL_plays_76 (by rfl) ?_
  refine g_bipush (v := 8) dL_plays_77 (by decide) ?_
  refine g_cV2x dL_plays_79 lL_26 vX9_lotOf (ct_X9_lotOf X hO hSys) (hSys.1) rfl ⟨Nat.le_of_ble_eq_true rfl, Nat.le_of_ble_eq_true rfl⟩ (Nat.le_of_ble_eq_true rfl) ⟨Nat.le_of_ble_eq_true rfl, Nat.le_of_ble_eq_true rfl⟩ ?_
  refine g_if_ge (tgt := 98) dL_plays_82 (by decide) (fun c11 => ?_) (fun c11 => ?_)
  · skip
    have hs := (fl_8 hSnd hO hl).mp (n_nlt0 c11)
    first
      | exact J98 (Or.inl hs)
      | exact J98 (Or.inr hh1)
  · skip
    have hs := fl_8n hSnd hO hl (i_ngt c11)
    refine g_aload_n dL_plays_85 (by rfl) (by first | exact isRf_r | exact isRf_n | exact isRf_o | assumption) ?_
    refine g_iload_n dL_plays_86 (by rfl) ?_
    refine g_iconst (v := 5) dL_plays_87 (by decide) ?_
    refine g_cV2x dL_plays_88 lL_26 vX9_lotOf (ct_X9_lotOf X hO hSys) (hSys.1) rfl ⟨Nat.le_of_ble_eq_true rfl, Nat.le_of_ble_eq_true rfl⟩ (Nat.le_of_ble_eq_true rfl) ⟨Nat.le_of_ble_eq_true rfl, Nat.le_of_ble_eq_true rfl⟩ ?_
    refine g_if_ne (tgt := 98) dL_plays_91 (by decide) (fun c12 => ?_) (fun c12 => ?_)
    · skip
      have hh1 : hangs r l = true := hang_q hO hl c12
      first
        | exact J98 (Or.inl hs)
        | exact J98 (Or.inr hh1)
    · skip
      have hfr : Fre l r := ⟨hl, hs, hang_z hO hl c12⟩
      obtain ⟨-, hp2, hf2, hz2, hz3, -⟩ := rd2_all hO hfr hv
      have hv2 : v < cl (rd2 r l v 7) := by
        rw [hp2 7 (by omega)]
        exact hv
      refine g_iconst (v := 1) dL_plays_94 (by decide) ?_
      refine g_goto (tgt := 99) dL_plays_95 (by decide) ?_
      refine g_istore (L1 := [(0, _), (1, _), (2, _), (3, _), (4, _), (5, _), (6, _)]) dL_plays_99 (by decide) (by rfl) ?_
      refine g_iload dL_plays_101 (by rfl) ?_
      refine g_if_ne (tgt := 161) dL_plays_103 (by decide) (fun c13 => ?_) (fun c13 => absurd c13 (by decide))
      refine g_aload_n dL_plays_161 (by rfl) (by first | exact isRf_r | exact isRf_n | exact isRf_o | assumption) ?_
      refine g_iload_n dL_plays_162 (by rfl) ?_
      refine g_iconst (v := 0) dL_plays_163 (by decide) ?_
      refine g_cV2x dL_plays_164 lL_38 vX9_vatOf (ct_X9_vatOf X hO hSys) (hSys.1) rfl ⟨Nat.le_of_ble_eq_true rfl, Nat.le_of_ble_eq_true rfl⟩ (Nat.le_of_ble_eq_true rfl) ⟨Nat.le_of_ble_eq_true rfl, Nat.le_of_ble_eq_true rfl⟩ ?_
      refine g_istore (L1 := [(0, _), (1, _), (2, _), (3, _), (4, _), (5, _), (6, _), (7, _)]) dL_plays_167 (by decide) (by rfl) ?_
      refine g_iload_n dL_plays_169 (by rfl) ?_
      refine g_if_eq (tgt := 195) dL_plays_170 (by decide) (fun c14 => absurd c14 (by decide)) (fun c14 => ?_)
      refine g_aload_n dL_plays_173 (by rfl) (by first | exact isRf_r | exact isRf_n | exact isRf_o | assumption) ?_
      refine g_iconst (v := 0) dL_plays_174 (by decide) ?_
      refine g_cV1 dL_plays_175 lL_70 vX9_fault (ct_X9_fault X hSep hn hO hSys hTk) (hSys.1) rfl ⟨Nat.le_of_ble_eq_true rfl, Nat.le_of_ble_eq_true rfl⟩ (Nat.le_of_ble_eq_true rfl) ⟨Nat.le_of_ble_eq_true rfl, Nat.le_of_ble_eq_true rfl⟩ ?_
      rintro _ hh ⟨rfl, hT⟩
      have hfa := (tx_1y t hO hfr hv).1
      obtain ⟨D, R⟩ := R.same hT
      obtain ⟨hSep, hSys, hn, hO, hO2, hSnd, hTk, hRs, hFr⟩ := id R
      refine g_stk (st' := [.int (-4)]) (congrArg (fun z => [Value.int z]) hfa) ?_
      refine g_bipush (v := (-4)) dL_plays_178 (by decide) ?_
      refine g_icmp_ne (tgt := 195) dL_plays_180 (by decide) (fun c15 => absurd rfl c15) (fun c15 => ?_)
      refine g_aload_n dL_plays_183 (by rfl) (by first | exact isRf_r | exact isRf_n | exact isRf_o | assumption) ?_
      refine g_cV0 dL_plays_184 lL_73 vX9_play (ct_X9_play X hSep hn hO hSys hTk) (hSys.1) rfl ⟨Nat.le_of_ble_eq_true rfl, Nat.le_of_ble_eq_true rfl⟩ (Nat.le_of_ble_eq_true rfl) ⟨Nat.le_of_ble_eq_true rfl, Nat.le_of_ble_eq_true rfl⟩ ?_
      rintro _ hh ⟨rfl, hT⟩
      have hn0 := hn
      have hO0 := hO
      have hO20 := hO2
      have hSnd0 := hSnd
      have hpl := (tx_1y t hO hfr hv).2
      obtain ⟨D, R⟩ := R.deed hT (play_k hO hO2 hSnd).1 (play_k hO hO2 hSnd).2.1 (play_k hO hO2 hSnd).2.2
      rw [hpl] at R
      have R : Run X h A B m C hh D (rd2 r l v) (sysN (nI 2) n) (sysR (nI 2) n r rows) tn tg := R
      obtain ⟨hSep, hSys, hn, hO, hO2, hSnd, hTk, hRs, hFr⟩ := id R
      refine g_stk (st' := [.int (nI 2)]) (by rw [hpl]; rfl) ?_
      refine g_iconst (v := 2) dL_plays_187 (by decide) ?_
      refine g_icmp_ne (tgt := 195) dL_plays_188 (by decide) (fun c16 => absurd rfl c16) (fun c16 => ?_)
      refine g_iconst (v := 1) dL_plays_191 (by decide) ?_
      refine g_goto (tgt := 196) dL_plays_192 (by decide) ?_
      refine g_istore_n (L1 := [(0, _), (1, _), (2, _), (3, _), (4, _), (5, _), (6, _), (7, _)]) dL_plays_196 (by decide) (by rfl) ?_
      refine g_aload_n dL_plays_197 (by rfl) (by first | exact isRf_r | exact isRf_n | exact isRf_o | assumption) ?_
      refine g_iload dL_plays_198 (by rfl) ?_
      refine g_iconst (v := 5) dL_plays_200 (by decide) ?_
      refine g_cV2x dL_plays_201 lL_15 vX9_account (ct_X9_account X hO hSys) (hSys.1) rfl ⟨Nat.le_of_ble_eq_true rfl, Nat.le_of_ble_eq_true rfl⟩ (Nat.le_of_ble_eq_true rfl) ⟨Nat.le_of_ble_eq_true rfl, Nat.le_of_ble_eq_true rfl⟩ ?_
      refine g_istore (L1 := [(0, _), (1, _), (2, _), (3, _), (4, _), (5, _), (6, _), (7, _), (8, _)]) dL_plays_204 (by decide) (by rfl) ?_
      refine g_iload_n dL_plays_206 (by rfl) ?_
      refine g_if_eq (tgt := 276) dL_plays_207 (by decide) (fun c17 => absurd c17 (by decide)) (fun c17 => ?_)
      refine g_aload_n dL_plays_210 (by rfl) (by first | exact isRf_r | exact isRf_n | exact isRf_o | assumption) ?_
      refine g_iload_n dL_plays_211 (by rfl) ?_
      refine g_iconst (v := 4) dL_plays_212 (by decide) ?_
      refine g_cV2x dL_plays_213 lL_26 vX9_lotOf (ct_X9_lotOf X hO hSys) (hSys.1) rfl ⟨Nat.le_of_ble_eq_true rfl, Nat.le_of_ble_eq_true rfl⟩ (Nat.le_of_ble_eq_true rfl) ⟨Nat.le_of_ble_eq_true rfl, Nat.le_of_ble_eq_true rfl⟩ ?_
      refine g_if_ne (tgt := 276) dL_plays_216 (by decide) (fun c18 => absurd (rd2_4 hO0 hfr hv) c18) (fun c18 => ?_)
      refine g_aload_n dL_plays_219 (by rfl) (by first | exact isRf_r | exact isRf_n | exact isRf_o | assumption) ?_
      refine g_iload_n dL_plays_220 (by rfl) ?_
      refine g_iconst (v := 2) dL_plays_221 (by decide) ?_
      refine g_cV2x dL_plays_222 lL_38 vX9_vatOf (ct_X9_vatOf X hO hSys) (hSys.1) rfl ⟨Nat.le_of_ble_eq_true rfl, Nat.le_of_ble_eq_true rfl⟩ (Nat.le_of_ble_eq_true rfl) ⟨Nat.le_of_ble_eq_true rfl, Nat.le_of_ble_eq_true rfl⟩ ?_
      refine g_if_ne (tgt := 276) dL_plays_225 (by decide) (fun c19 => absurd ((qv_all hO hv2).2.2.1.trans hz2) c19) (fun c19 => ?_)
      refine g_aload_n dL_plays_228 (by rfl) (by first | exact isRf_r | exact isRf_n | exact isRf_o | assumption) ?_
      refine g_iload_n dL_plays_229 (by rfl) ?_
      refine g_iconst (v := 3) dL_plays_230 (by decide) ?_
      refine g_cV2x dL_plays_231 lL_38 vX9_vatOf (ct_X9_vatOf X hO hSys) (hSys.1) rfl ⟨Nat.le_of_ble_eq_true rfl, Nat.le_of_ble_eq_true rfl⟩ (Nat.le_of_ble_eq_true rfl) ⟨Nat.le_of_ble_eq_true rfl, Nat.le_of_ble_eq_true rfl⟩ ?_
      refine g_if_ne (tgt := 276) dL_plays_234 (by decide) (fun c20 => absurd ((qv_all hO hv2).2.2.2.1.trans hz3) c20) (fun c20 => ?_)
      refine g_aload_n dL_plays_237 (by rfl) (by first | exact isRf_r | exact isRf_n | exact isRf_o | assumption) ?_
      refine g_cV0 dL_plays_238 lL_51 vX9_undo (ct_undoD (x := nI 2) (by decide) hn0 hO0 hO20 hSnd0 R) (hSys.1) rfl ⟨Nat.le_of_ble_eq_true rfl, Nat.le_of_ble_eq_true rfl⟩ (Nat.le_of_ble_eq_true rfl) ⟨Nat.le_of_ble_eq_true rfl, Nat.le_of_ble_eq_true rfl⟩ ?_
      rintro _ hh ⟨q, rfl, hq4, D, n, rows, R⟩
      obtain ⟨hSep, hSys, hn, hO, hO2, hSnd, hTk, hRs, hFr⟩ := id R
      refine g_stk (st' := [.int (nI q)]) rfl ?_
      refine g_if_lt (tgt := 276) dL_plays_241 (by decide) (fun c21 => absurd c21 (n_neg (by rw [nI_toInt (by omega)]; omega))) (fun c21 => ?_)
      refine g_aload_n dL_plays_244 (by rfl) (by first | exact isRf_r | exact isRf_n | exact isRf_o | assumption) ?_
      refine g_iload_n dL_plays_245 (by rfl) ?_
      refine g_cV1 dL_plays_246 lL_58 vX9_rinse (ct_X9_rinse X hSep hn hO hSys) (hSys.1) rfl ⟨Nat.le_of_ble_eq_true rfl, Nat.le_of_ble_eq_true rfl⟩ (Nat.le_of_ble_eq_true rfl) ⟨Nat.le_of_ble_eq_true rfl, Nat.le_of_ble_eq_true rfl⟩ ?_
      rintro _ hh ⟨rfl, hT⟩
      obtain ⟨D, R⟩ := R.deed hT (Ok_rinse hO) (Ok2_rinse hO hO2) (Snd_rinse hO hSnd)
      obtain ⟨D, n, rows, R⟩ : ∃ D n rows, Run X h A B m C hh D (F_rinse r (nI l)).2 n rows tn tg := ⟨_, _, _, R⟩
      obtain ⟨hSep, hSys, hn, hO, hO2, hSnd, hTk, hRs, hFr⟩ := id R
      refine g_stk (st' := [.int _]) rfl ?_
      refine g_if_lt (tgt := 276) dL_plays_249 (by decide) (fun c22 => absurd c22 (rin_y hOr hfr).2) (fun c22 => ?_)
      refine g_aload_n dL_plays_252 (by rfl) (by first | exact isRf_r | exact isRf_n | exact isRf_o | assumption) ?_
      refine g_iload_n dL_plays_253 (by rfl) ?_
      refine g_cV1 dL_plays_254 lL_82 vX9_drain (ct_X9_drain X hSep hn hO hSys) (hSys.1) rfl ⟨Nat.le_of_ble_eq_true rfl, Nat.le_of_ble_eq_true rfl⟩ (Nat.le_of_ble_eq_true rfl) ⟨Nat.le_of_ble_eq_true rfl, Nat.le_of_ble_eq_true rfl⟩ ?_
      rintro _ hh ⟨rfl, hT⟩
      obtain ⟨D, R⟩ := R.deed hT (Ok_drain hO) (Ok2_drain hO hO2) (Snd_drain hO hSnd)
      obtain ⟨D, n, rows, R⟩ : ∃ D n rows, Run X h A B m C hh D (rd2 r l v) n rows tn tg := ⟨_, _, _, R⟩
      obtain ⟨hSep, hSys, hn, hO, hO2, hSnd, hTk, hRs, hFr⟩ := id R
      refine g_stk (st' := [.int _]) rfl ?_
      refine g_if_lt (tgt := 276) dL_plays_257 (by decide) (fun c23 => absurd c23 (rd2_all hOr hfr hv).1) (fun c23 => ?_)
      refine g_aload_n dL_plays_260 (by rfl) (by first | exact isRf_r | exact isRf_n | exact isRf_o | assumption) ?_
      refine g_iload dL_plays_261 (by rfl) ?_
      refine g_iconst (v := 5) dL_plays_263 (by decide) ?_
      refine g_cV2x dL_plays_264 lL_15 vX9_account (ct_X9_account X hO hSys) (hSys.1) rfl ⟨Nat.le_of_ble_eq_true rfl, Nat.le_of_ble_eq_true rfl⟩ (Nat.le_of_ble_eq_true rfl) ⟨Nat.le_of_ble_eq_true rfl, Nat.le_of_ble_eq_true rfl⟩ ?_
      refine g_iload dL_plays_267 (by rfl) ?_
      refine g_icmp_ne (tgt := 276) dL_plays_269 (by decide) (fun c24 => absurd rfl c24) (fun c24 => ?_)
      refine g_iconst (v := 1) dL_plays_272 (by decide) ?_
      refine g_goto (tgt := 277) dL_plays_273 (by decide) ?_
      refine g_istore_n (L1 := [(0, _), (1, _), (2, _), (3, _), (4, _), (5, _), (6, _), (7, _), (8, _)]) dL_plays_277 (by decide) (by rfl) ?_
      refine g_aload_n dL_plays_278 (by rfl) (by first | exact isRf_r | exact isRf_n | exact isRf_o | assumption) ?_
      refine g_bipush (v := 100) dL_plays_279 (by decide) ?_
      refine g_cV1 dL_plays_281 lL_64 vX9_type (ct_X9_type X hSep hTk hSys) (hSys.1) rfl ⟨Nat.le_of_ble_eq_true rfl, Nat.le_of_ble_eq_true rfl⟩ (Nat.le_of_ble_eq_true rfl) ⟨Nat.le_of_ble_eq_true rfl, Nat.le_of_ble_eq_true rfl⟩ ?_
      rintro _ hh ⟨rfl, hT⟩
      obtain ⟨D, R⟩ := R.text hT (TOk_type hTk)
      obtain ⟨hty, t2⟩ := t.ty (c := 100) (by simp only [L1, List.length_append, List.length_cons, List.length_nil]; omega) (by omega) (by omega)
      obtain ⟨D, tn, tg, R, t⟩ : ∃ D tn tg, Run X h A B m C hh D (rd2 r l v) n rows tn tg ∧ Tx tn tg (L1 l v ++ [100]) := ⟨_, _, _, R, t2⟩
      obtain ⟨hSep, hSys, hn, hO, hO2, hSnd, hTk, hRs, hFr⟩ := id R
      refine g_stk (st' := [.int (_)]) (congrArg (fun z => [Value.int z]) hty) ?_
      refine g_pop dL_plays_284 (by rfl) ?_
      refine g_aload_n dL_plays_285 (by rfl) (by first | exact isRf_r | exact isRf_n | exact isRf_o | assumption) ?_
      refine g_iload_n dL_plays_286 (by rfl) ?_
      refine g_cS2 dL_plays_287 lL_76 rfl vL_number (ct_L_number X (x := l) hl20 (by simp only [L1, List.length_append, List.length_cons, List.length_nil]; omega) t R.anew) ⟨Nat.le_of_ble_eq_true rfl, Nat.le_of_ble_eq_true rfl⟩ (Nat.le_of_ble_eq_true rfl) ⟨Nat.le_of_ble_eq_true rfl, Nat.le_of_ble_eq_true rfl⟩ ?_
      rintro _ hh ⟨rfl, D2, tn2, tg2, R2, t2⟩
      have R := R.chain R2
      obtain ⟨D, tn, tg, R, t⟩ : ∃ D tn tg, Run X h A B m C hh D (rd2 r l v) n rows tn tg ∧ Tx tn tg (L1 l v ++ [100] ++ Dg l) := ⟨_, _, _, R, t2⟩
      obtain ⟨hSep, hSys, hn, hO, hO2, hSnd, hTk, hRs, hFr⟩ := id R
      refine g_stk (st' := []) rfl ?_
      refine g_aload_n dL_plays_290 (by rfl) (by first | exact isRf_r | exact isRf_n | exact isRf_o | assumption) ?_
      refine g_bipush (v := 44) dL_plays_291 (by decide) ?_
      refine g_cV1 dL_plays_293 lL_64 vX9_type (ct_X9_type X hSep hTk hSys) (hSys.1) rfl ⟨Nat.le_of_ble_eq_true rfl, Nat.le_of_ble_eq_true rfl⟩ (Nat.le_of_ble_eq_true rfl) ⟨Nat.le_of_ble_eq_true rfl, Nat.le_of_ble_eq_true rfl⟩ ?_
      rintro _ hh ⟨rfl, hT⟩
      obtain ⟨D, R⟩ := R.text hT (TOk_type hTk)
      obtain ⟨hty, t2⟩ := t.ty (c := 44) (by simp only [L1, List.length_append, List.length_cons, List.length_nil]; omega) (by omega) (by omega)
      obtain ⟨D, tn, tg, R, t⟩ : ∃ D tn tg, Run X h A B m C hh D (rd2 r l v) n rows tn tg ∧ Tx tn tg (L1 l v ++ [100] ++ Dg l ++ [44]) := ⟨_, _, _, R, t2⟩
      obtain ⟨hSep, hSys, hn, hO, hO2, hSnd, hTk, hRs, hFr⟩ := id R
      refine g_stk (st' := [.int (_)]) (congrArg (fun z => [Value.int z]) hty) ?_
      refine g_pop dL_plays_296 (by rfl) ?_
      refine g_aload_n dL_plays_297 (by rfl) (by first | exact isRf_r | exact isRf_n | exact isRf_o | assumption) ?_
      refine g_iload_n dL_plays_298 (by rfl) ?_
      refine g_cS2 dL_plays_299 lL_76 rfl vL_number (ct_L_number X (x := v) (by omega) (by simp only [L1, List.length_append, List.length_cons, List.length_nil]; omega) t R.anew) ⟨Nat.le_of_ble_eq_true rfl, Nat.le_of_ble_eq_true rfl⟩ (Nat.le_of_ble_eq_true rfl) ⟨Nat.le_of_ble_eq_true rfl, Nat.le_of_ble_eq_true rfl⟩ ?_
      rintro _ hh ⟨rfl, D2, tn2, tg2, R2, t2⟩
      have R := R.chain R2
      obtain ⟨D, tn, tg, R, t⟩ : ∃ D tn tg, Run X h A B m C hh D (rd2 r l v) n rows tn tg ∧ Tx tn tg (L1 l v ++ [100] ++ Dg l ++ [44] ++ Dg v) := ⟨_, _, _, R, t2⟩
      obtain ⟨hSep, hSys, hn, hO, hO2, hSnd, hTk, hRs, hFr⟩ := id R
      refine g_stk (st' := []) rfl ?_
      refine g_aload_n dL_plays_302 (by rfl) (by first | exact isRf_r | exact isRf_n | exact isRf_o | assumption) ?_
      refine g_bipush (v := 59) dL_plays_303 (by decide) ?_
      refine g_cV1 dL_plays_305 lL_64 vX9_type (ct_X9_type X hSep hTk hSys) (hSys.1) rfl ⟨Nat.le_of_ble_eq_true rfl, Nat.le_of_ble_eq_true rfl⟩ (Nat.le_of_ble_eq_true rfl) ⟨Nat.le_of_ble_eq_true rfl, Nat.le_of_ble_eq_true rfl⟩ ?_
      rintro _ hh ⟨rfl, hT⟩
      obtain ⟨D, R⟩ := R.text hT (TOk_type hTk)
      obtain ⟨hty, t2⟩ := t.ty (c := 59) (by simp only [L1, List.length_append, List.length_cons, List.length_nil]; omega) (by omega) (by omega)
      rw [L2_e hv10] at t2
      rw [ln_2 hv10] at hty
      obtain ⟨D, tn, tg, R, t⟩ : ∃ D tn tg, Run X h A B m C hh D (rd2 r l v) n rows tn tg ∧ Tx tn tg (L2 l v) := ⟨_, _, _, R, t2⟩
      obtain ⟨hSep, hSys, hn, hO, hO2, hSnd, hTk, hRs, hFr⟩ := id R
      refine g_stk (st' := [.int (nI (9 + 2 * (Dg l).length))]) (congrArg (fun z => [Value.int z]) hty) ?_
      refine g_istore (L1 := [(0, _), (1, _), (2, _), (3, _), (4, _), (5, _), (6, _), (7, _), (8, _), (9, _)]) dL_plays_308 (by decide) (by rfl) ?_
      refine g_iload_n dL_plays_310 (by rfl) ?_
      refine g_if_eq (tgt := 356) dL_plays_311 (by decide) (fun c25 => absurd c25 (by decide)) (fun c25 => ?_)
      refine g_aload_n dL_plays_314 (by rfl) (by first | exact isRf_r | exact isRf_n | exact isRf_o | assumption) ?_
      refine g_iconst (v := 0) dL_plays_315 (by decide) ?_
      refine g_cV1 dL_plays_316 lL_70 vX9_fault (ct_X9_fault X hSep hn hO hSys hTk) (hSys.1) rfl ⟨Nat.le_of_ble_eq_true rfl, Nat.le_of_ble_eq_true rfl⟩ (Nat.le_of_ble_eq_true rfl) ⟨Nat.le_of_ble_eq_true rfl, Nat.le_of_ble_eq_true rfl⟩ ?_
      rintro _ hh ⟨rfl, hT⟩
      have hfa := (tx_2 t hO hf2 hv2).1
      obtain ⟨D, R⟩ := R.same hT
      obtain ⟨hSep, hSys, hn, hO, hO2, hSnd, hTk, hRs, hFr⟩ := id R
      refine g_stk (st' := [.int (nI (5 + (Dg l).length))]) (congrArg (fun z => [Value.int z]) hfa) ?_
      refine g_iload dL_plays_319 (by rfl) ?_
      refine g_icmp_ne (tgt := 356) dL_plays_321 (by decide) (fun c26 => absurd rfl c26) (fun c26 => ?_)
      refine g_aload_n dL_plays_324 (by rfl) (by first | exact isRf_r | exact isRf_n | exact isRf_o | assumption) ?_
      refine g_iconst (v := 1) dL_plays_325 (by decide) ?_
      refine g_cV1 dL_plays_326 lL_70 vX9_fault (ct_X9_fault X hSep hn hO hSys hTk) (hSys.1) rfl ⟨Nat.le_of_ble_eq_true rfl, Nat.le_of_ble_eq_true rfl⟩ (Nat.le_of_ble_eq_true rfl) ⟨Nat.le_of_ble_eq_true rfl, Nat.le_of_ble_eq_true rfl⟩ ?_
      rintro _ hh ⟨rfl, hT⟩
      have hfa := (tx_2 t hO hf2 hv2).2.1
      obtain ⟨D, R⟩ := R.same hT
      obtain ⟨hSep, hSys, hn, hO, hO2, hSnd, hTk, hRs, hFr⟩ := id R
      refine g_stk (st' := [.int (2)]) (congrArg (fun z => [Value.int z]) hfa) ?_
      refine g_iconst (v := 2) dL_plays_329 (by decide) ?_
      refine g_icmp_ne (tgt := 356) dL_plays_330 (by decide) (fun c27 => absurd rfl c27) (fun c27 => ?_)
      refine g_aload_n dL_plays_333 (by rfl) (by first | exact isRf_r | exact isRf_n | exact isRf_o | assumption) ?_
      refine g_iconst (v := 2) dL_plays_334 (by decide) ?_
      refine g_cV1 dL_plays_335 lL_70 vX9_fault (ct_X9_fault X hSep hn hO hSys hTk) (hSys.1) rfl ⟨Nat.le_of_ble_eq_true rfl, Nat.le_of_ble_eq_true rfl⟩ (Nat.le_of_ble_eq_true rfl) ⟨Nat.le_of_ble_eq_true rfl, Nat.le_of_ble_eq_true rfl⟩ ?_
      rintro _ hh ⟨rfl, hT⟩
      have hfa := (tx_2 t hO hf2 hv2).2.2.1
      obtain ⟨D, R⟩ := R.same hT
      obtain ⟨hSep, hSys, hn, hO, hO2, hSnd, hTk, hRs, hFr⟩ := id R
      refine g_stk (st' := [.int (-2)]) (congrArg (fun z => [Value.int z]) hfa) ?_
      refine g_bipush (v := (-2)) dL_plays_338 (by decide) ?_
      refine g_icmp_ne (tgt := 356) dL_plays_340 (by decide) (fun c28 => absurd rfl c28) (fun c28 => ?_)
      refine g_aload_n dL_plays_343 (by rfl) (by first | exact isRf_r | exact isRf_n | exact isRf_o | assumption) ?_
      refine g_cV0 dL_plays_344 lL_73 vX9_play (ct_X9_play X hSep hn hO hSys hTk) (hSys.1) rfl ⟨Nat.le_of_ble_eq_true rfl, Nat.le_of_ble_eq_true rfl⟩ (Nat.le_of_ble_eq_true rfl) ⟨Nat.le_of_ble_eq_true rfl, Nat.le_of_ble_eq_true rfl⟩ ?_
      rintro _ hh ⟨rfl, hT⟩
      have hn0 := hn
      have hO0 := hO
      have hO20 := hO2
      have hSnd0 := hSnd
      have hpl := (tx_2 t hO hf2 hv2).2.2.2
      obtain ⟨D, R⟩ := R.deed hT (play_k hO hO2 hSnd).1 (play_k hO hO2 hSnd).2.1 (play_k hO hO2 hSnd).2.2
      rw [hpl] at R
      obtain ⟨D, n, rows, R⟩ : ∃ D n rows, Run X h A B m C hh D (rd2 r l v) n rows tn tg := ⟨_, _, _, R⟩
      obtain ⟨hSep, hSys, hn, hO, hO2, hSnd, hTk, hRs, hFr⟩ := id R
      refine g_stk (st' := [.int (-2)]) (by rw [hpl]; rfl) ?_
      refine g_bipush (v := (-2)) dL_plays_347 (by decide) ?_
      refine g_icmp_ne (tgt := 356) dL_plays_349 (by decide) (fun c29 => absurd rfl c29) (fun c29 => ?_)
      refine g_iconst (v := 1) dL_plays_352 (by decide) ?_
      refine g_goto (tgt := 357) dL_plays_353 (by decide) ?_
      refine g_istore_n (L1 := [(0, _), (1, _), (2, _), (3, _), (4, _), (5, _), (6, _), (7, _), (8, _), (9, _)]) dL_plays_357 (by decide) (by rfl) ?_
      refine g_aload_n dL_plays_358 (by rfl) (by first | exact isRf_r | exact isRf_n | exact isRf_o | assumption) ?_
      refine g_cV0 dL_plays_359 lL_67 vX9_clearText (ct_X9_clearText X hSep hTk hSys) (hSys.1) rfl ⟨Nat.le_of_ble_eq_true rfl, Nat.le_of_ble_eq_true rfl⟩ (Nat.le_of_ble_eq_true rfl) ⟨Nat.le_of_ble_eq_true rfl, Nat.le_of_ble_eq_true rfl⟩ ?_
      rintro _ hh ⟨rfl, hT⟩
      obtain ⟨D, R⟩ := R.text hT TOk_n0
      obtain ⟨D, tn, tg, R, t⟩ : ∃ D tn tg, Run X h A B m C hh D (rd2 r l v) n rows tn tg ∧ Tx tn tg [] := ⟨_, _, _, R, Tx_0⟩
      obtain ⟨hSep, hSys, hn, hO, hO2, hSnd, hTk, hRs, hFr⟩ := id R
      refine g_stk (st' := [.int _]) rfl ?_
      refine g_pop dL_plays_362 (by rfl) ?_
      refine g_aload_n dL_plays_363 (by rfl) (by first | exact isRf_r | exact isRf_n | exact isRf_o | assumption) ?_
      refine g_bipush (v := 114) dL_plays_364 (by decide) ?_
      refine g_cV1 dL_plays_366 lL_64 vX9_type (ct_X9_type X hSep hTk hSys) (hSys.1) rfl ⟨Nat.le_of_ble_eq_true rfl, Nat.le_of_ble_eq_true rfl⟩ (Nat.le_of_ble_eq_true rfl) ⟨Nat.le_of_ble_eq_true rfl, Nat.le_of_ble_eq_true rfl⟩ ?_
      rintro _ hh ⟨rfl, hT⟩
      obtain ⟨D, R⟩ := R.text hT (TOk_type hTk)
      obtain ⟨hty, t2⟩ := t.ty (c := 114) (by simp only [L1, List.length_append, List.length_cons, List.length_nil]; omega) (by omega) (by omega)
      obtain ⟨D, tn, tg, R, t⟩ : ∃ D tn tg, Run X h A B m C hh D (rd2 r l v) n rows tn tg ∧ Tx tn tg ([114]) := ⟨_, _, _, R, t2⟩
      obtain ⟨hSep, hSys, hn, hO, hO2, hSnd, hTk, hRs, hFr⟩ := id R
      refine g_stk (st' := [.int (_)]) (congrArg (fun z => [Value.int z]) hty) ?_
      refine g_pop dL_plays_369 (by rfl) ?_
      refine g_aload_n dL_plays_370 (by rfl) (by first | exact isRf_r | exact isRf_n | exact isRf_o | assumption) ?_
      refine g_iload_n dL_plays_371 (by rfl) ?_
      refine g_cS2 dL_plays_372 lL_76 rfl vL_number (ct_L_number X (x := l) hl20 (by simp only [L1, List.length_append, List.length_cons, List.length_nil]; omega) t R.anew) ⟨Nat.le_of_ble_eq_true rfl, Nat.le_of_ble_eq_true rfl⟩ (Nat.le_of_ble_eq_true rfl) ⟨Nat.le_of_ble_eq_true rfl, Nat.le_of_ble_eq_true rfl⟩ ?_
      rintro _ hh ⟨rfl, D2, tn2, tg2, R2, t2⟩
      have R := R.chain R2
      obtain ⟨D, tn, tg, R, t⟩ : ∃ D tn tg, Run X h A B m C hh D (rd2 r l v) n rows tn tg ∧ Tx tn tg ([114] ++ Dg l) := ⟨_, _, _, R, t2⟩
      obtain ⟨hSep, hSys, hn, hO, hO2, hSnd, hTk, hRs, hFr⟩ := id R
      refine g_stk (st' := []) rfl ?_
      refine g_iload_n dL_plays_375 (by rfl) ?_
      refine g_if_eq (tgt := 453) dL_plays_376 (by decide) (fun c30 => absurd c30 (by decide)) (fun c30 => ?_)
      refine g_aload_n dL_plays_379 (by rfl) (by first | exact isRf_r | exact isRf_n | exact isRf_o | assumption) ?_
      refine g_iconst (v := 0) dL_plays_380 (by decide) ?_
      refine g_cV1 dL_plays_381 lL_70 vX9_fault (ct_X9_fault X hSep hn hO hSys hTk) (hSys.1) rfl ⟨Nat.le_of_ble_eq_true rfl, Nat.le_of_ble_eq_true rfl⟩ (Nat.le_of_ble_eq_true rfl) ⟨Nat.le_of_ble_eq_true rfl, Nat.le_of_ble_eq_true rfl⟩ ?_
      rintro _ hh ⟨rfl, hT⟩
      have hfa := (tx_3 t hO hf2.1).1
      obtain ⟨D, R⟩ := R.same hT
      obtain ⟨hSep, hSys, hn, hO, hO2, hSnd, hTk, hRs, hFr⟩ := id R
      refine g_stk (st' := [.int (0)]) (congrArg (fun z => [Value.int z]) hfa) ?_
      refine g_if_ne (tgt := 453) dL_plays_384 (by decide) (fun c31 => absurd rfl c31) (fun c31 => ?_)
      refine g_aload_n dL_plays_387 (by rfl) (by first | exact isRf_r | exact isRf_n | exact isRf_o | assumption) ?_
      refine g_iconst (v := 1) dL_plays_388 (by decide) ?_
      refine g_cV1 dL_plays_389 lL_70 vX9_fault (ct_X9_fault X hSep hn hO hSys hTk) (hSys.1) rfl ⟨Nat.le_of_ble_eq_true rfl, Nat.le_of_ble_eq_true rfl⟩ (Nat.le_of_ble_eq_true rfl) ⟨Nat.le_of_ble_eq_true rfl, Nat.le_of_ble_eq_true rfl⟩ ?_
      rintro _ hh ⟨rfl, hT⟩
      have hfa := (tx_3 t hO hf2.1).2.1
      obtain ⟨D, R⟩ := R.same hT
      obtain ⟨hSep, hSys, hn, hO, hO2, hSnd, hTk, hRs, hFr⟩ := id R
      refine g_stk (st' := [.int (1)]) (congrArg (fun z => [Value.int z]) hfa) ?_
      refine g_iconst (v := 1) dL_plays_392 (by decide) ?_
      refine g_icmp_ne (tgt := 453) dL_plays_393 (by decide) (fun c32 => absurd rfl c32) (fun c32 => ?_)
      refine g_aload_n dL_plays_396 (by rfl) (by first | exact isRf_r | exact isRf_n | exact isRf_o | assumption) ?_
      refine g_iconst (v := 2) dL_plays_397 (by decide) ?_
      refine g_cV1 dL_plays_398 lL_70 vX9_fault (ct_X9_fault X hSep hn hO hSys hTk) (hSys.1) rfl ⟨Nat.le_of_ble_eq_true rfl, Nat.le_of_ble_eq_true rfl⟩ (Nat.le_of_ble_eq_true rfl) ⟨Nat.le_of_ble_eq_true rfl, Nat.le_of_ble_eq_true rfl⟩ ?_
      rintro _ hh ⟨rfl, hT⟩
      have hfa := (tx_3 t hO hf2.1).2.2
      obtain ⟨D, R⟩ := R.same hT
      obtain ⟨hSep, hSys, hn, hO, hO2, hSnd, hTk, hRs, hFr⟩ := id R
      refine g_stk (st' := [.int (-4)]) (congrArg (fun z => [Value.int z]) hfa) ?_
      refine g_bipush (v := (-4)) dL_plays_401 (by decide) ?_
      refine g_icmp_ne (tgt := 453) dL_plays_403 (by decide) (fun c33 => absurd rfl c33) (fun c33 => ?_)
      refine g_aload_n dL_plays_406 (by rfl) (by first | exact isRf_r | exact isRf_n | exact isRf_o | assumption) ?_
      refine g_bipush (v := 59) dL_plays_407 (by decide) ?_
      refine g_cV1 dL_plays_409 lL_64 vX9_type (ct_X9_type X hSep hTk hSys) (hSys.1) rfl ⟨Nat.le_of_ble_eq_true rfl, Nat.le_of_ble_eq_true rfl⟩ (Nat.le_of_ble_eq_true rfl) ⟨Nat.le_of_ble_eq_true rfl, Nat.le_of_ble_eq_true rfl⟩ ?_
      rintro _ hh ⟨rfl, hT⟩
      obtain ⟨D, R⟩ := R.text hT (TOk_type hTk)
      obtain ⟨hty, t2⟩ := t.ty (c := 59) (by simp only [L1, List.length_append, List.length_cons, List.length_nil]; omega) (by omega) (by omega)
      rw [ln_1] at hty
      obtain ⟨D, tn, tg, R, t⟩ : ∃ D tn tg, Run X h A B m C hh D (rd2 r l v) n rows tn tg ∧ Tx tn tg ([114] ++ Dg l ++ [59]) := ⟨_, _, _, R, t2⟩
      obtain ⟨hSep, hSys, hn, hO, hO2, hSnd, hTk, hRs, hFr⟩ := id R
      refine g_stk (st' := [.int (nI (2 + (Dg l).length))]) (congrArg (fun z => [Value.int z]) hty) ?_
      refine g_iload dL_plays_412 (by rfl) ?_
      refine g_icmp_ne (tgt := 453) dL_plays_414 (by decide) (fun c34 => absurd rfl c34) (fun c34 => ?_)
      refine g_aload_n dL_plays_417 (by rfl) (by first | exact isRf_r | exact isRf_n | exact isRf_o | assumption) ?_
      refine g_bipush (v := 116) dL_plays_418 (by decide) ?_
      refine g_cV1 dL_plays_420 lL_64 vX9_type (ct_X9_type X hSep hTk hSys) (hSys.1) rfl ⟨Nat.le_of_ble_eq_true rfl, Nat.le_of_ble_eq_true rfl⟩ (Nat.le_of_ble_eq_true rfl) ⟨Nat.le_of_ble_eq_true rfl, Nat.le_of_ble_eq_true rfl⟩ ?_
      rintro _ hh ⟨rfl, hT⟩
      obtain ⟨D, R⟩ := R.text hT (TOk_type hTk)
      obtain ⟨hty, t2⟩ := t.ty (c := 116) (by simp only [L1, List.length_append, List.length_cons, List.length_nil]; omega) (by omega) (by omega)
      rw [L5_e] at t2
      rw [ln_5] at hty
      obtain ⟨D, tn, tg, R, t⟩ : ∃ D tn tg, Run X h A B m C hh D (rd2 r l v) n rows tn tg ∧ Tx tn tg (L5 l) := ⟨_, _, _, R, t2⟩
      obtain ⟨hSep, hSys, hn, hO, hO2, hSnd, hTk, hRs, hFr⟩ := id R
      refine g_stk (st' := [.int (nI (3 + (Dg l).length))]) (congrArg (fun z => [Value.int z]) hty) ?_
      refine g_iload dL_plays_423 (by rfl) ?_
      refine g_iconst (v := 1) dL_plays_425 (by decide) ?_
      refine g_iadd dL_plays_426 ?_
      refine g_icmp_ne (tgt := 453) dL_plays_427 (by decide) (fun c35 => absurd h3a c35) (fun c35 => ?_)
      refine g_aload_n dL_plays_430 (by rfl) (by first | exact isRf_r | exact isRf_n | exact isRf_o | assumption) ?_
      refine g_iconst (v := 0) dL_plays_431 (by decide) ?_
      refine g_cV1 dL_plays_432 lL_70 vX9_fault (ct_X9_fault X hSep hn hO hSys hTk) (hSys.1) rfl ⟨Nat.le_of_ble_eq_true rfl, Nat.le_of_ble_eq_true rfl⟩ (Nat.le_of_ble_eq_true rfl) ⟨Nat.le_of_ble_eq_true rfl, Nat.le_of_ble_eq_true rfl⟩ ?_
      rintro _ hh ⟨rfl, hT⟩
      have hfa := (tx_5 t hO hf2).1
      obtain ⟨D, R⟩ := R.same hT
      obtain ⟨hSep, hSys, hn, hO, hO2, hSnd, hTk, hRs, hFr⟩ := id R
      refine g_stk (st' := [.int (nI (2 + (Dg l).length))]) (congrArg (fun z => [Value.int z]) hfa) ?_
      refine g_iload dL_plays_435 (by rfl) ?_
      refine g_icmp_ne (tgt := 453) dL_plays_437 (by decide) (fun c36 => absurd rfl c36) (fun c36 => ?_)
      refine g_aload_n dL_plays_440 (by rfl) (by first | exact isRf_r | exact isRf_n | exact isRf_o | assumption) ?_
      refine g_iconst (v := 1) dL_plays_441 (by decide) ?_
      refine g_cV1 dL_plays_442 lL_70 vX9_fault (ct_X9_fault X hSep hn hO hSys hTk) (hSys.1) rfl ⟨Nat.le_of_ble_eq_true rfl, Nat.le_of_ble_eq_true rfl⟩ (Nat.le_of_ble_eq_true rfl) ⟨Nat.le_of_ble_eq_true rfl, Nat.le_of_ble_eq_true rfl⟩ ?_
      rintro _ hh ⟨rfl, hT⟩
      have hfa := (tx_5 t hO hf2).2.1
      obtain ⟨D, R⟩ := R.same hT
      obtain ⟨hSep, hSys, hn, hO, hO2, hSnd, hTk, hRs, hFr⟩ := id R
      refine g_stk (st' := [.int (1)]) (congrArg (fun z => [Value.int z]) hfa) ?_
      refine g_iconst (v := 1) dL_plays_445 (by decide) ?_
      refine g_icmp_ne (tgt := 453) dL_plays_446 (by decide) (fun c37 => absurd rfl c37) (fun c37 => ?_)
      refine g_iconst (v := 1) dL_plays_449 (by decide) ?_
      refine g_goto (tgt := 454) dL_plays_450 (by decide) ?_
      refine g_istore_n (L1 := [(0, _), (1, _), (2, _), (3, _), (4, _), (5, _), (6, _), (7, _), (8, _), (9, _)]) dL_plays_454 (by decide) (by rfl) ?_
      refine g_iload_n dL_plays_455 (by rfl) ?_
      refine g_if_eq (tgt := 481) dL_plays_456 (by decide) (fun c38 => absurd c38 (by decide)) (fun c38 => ?_)
      refine g_iload dL_plays_459 (by rfl) ?_
      refine g_iload dL_plays_461 (by rfl) ?_
      refine g_icmp_le (tgt := 481) dL_plays_463 (by decide) (fun c39 => absurd c39 hend) (fun c39 => ?_)
      refine g_aload_n dL_plays_466 (by rfl) (by first | exact isRf_r | exact isRf_n | exact isRf_o | assumption) ?_
      refine g_cV0 dL_plays_467 lL_67 vX9_clearText (ct_X9_clearText X hSep hTk hSys) (hSys.1) rfl ⟨Nat.le_of_ble_eq_true rfl, Nat.le_of_ble_eq_true rfl⟩ (Nat.le_of_ble_eq_true rfl) ⟨Nat.le_of_ble_eq_true rfl, Nat.le_of_ble_eq_true rfl⟩ ?_
      rintro _ hh ⟨rfl, hT⟩
      obtain ⟨D, R⟩ := R.text hT TOk_n0
      have hcl : nI tn = nI (3 + (Dg l).length) := by rw [(rd_5 t hl20).1]
      obtain ⟨D, tn, tg, R, t⟩ : ∃ D tn tg, Run X h A B m C hh D (rd2 r l v) n rows tn tg ∧ Tx tn tg [] := ⟨_, _, _, R, Tx_0⟩
      obtain ⟨hSep, hSys, hn, hO, hO2, hSnd, hTk, hRs, hFr⟩ := id R
      refine g_stk (st' := [.int (nI (3 + (Dg l).length))]) (congrArg (fun z => [Value.int z]) hcl) ?_
      refine g_iload dL_plays_470 (by rfl) ?_
      refine g_iconst (v := 1) dL_plays_472 (by decide) ?_
      refine g_iadd dL_plays_473 ?_
      refine g_icmp_ne (tgt := 481) dL_plays_474 (by decide) (fun c40 => absurd h3a c40) (fun c40 => ?_)
      refine g_iconst (v := 1) dL_plays_477 (by decide) ?_
      refine g_goto (tgt := 482) dL_plays_478 (by decide) ?_
      refine g_zret dL_plays_482 rfl (by decide) (Nat.le_refl _) (Nat.le_refl _) ?_
      exact ⟨rfl, D, _, _, _, _, _, R, hz.of hp2⟩
