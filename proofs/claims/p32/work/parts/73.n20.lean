section
variable {X : Cx} {h0 h h1 : Hp} {A B m : Nat → Nat} {C0 C : Nat → Nat → Nat} {r : Nat → Int32} {n tn : Nat} {rows : Nat → Nat → Int32} {tg : Nat → Int32}
theorem Run.no (R : Run X h0 A B m C0 h C r n rows tn tg) {F : Int32 × (Nat → Int32)} {x : Int32} (S : SysTo X h h1 A B m C F.2 (sysN F.1 n) (sysR F.1 n r rows) tn tg) (e : F = (x, r)) (hx : x < 0) : ∃ C2, Run X h0 A B m C0 h1 C2 r n rows tn tg := by
  subst e
  have S2 : SysTo X h h1 A B m C r (sysN x n) (sysR x n r rows) tn tg := S
  rw [show sysN x n = n from if_pos hx, show sysR x n r rows = rows from if_pos hx] at S2
  exact R.same S2
theorem Run.noT (R : Run X h0 A B m C0 h C r n rows tn tg) {c : Int32} (S : SysTo X h h1 A B m C r n rows (typN tn c) (typG tn tg c)) (hc : rngB 32 126 c = false) : ∃ C2, Run X h0 A B m C0 h1 C2 r n rows tn tg := by
  have e : typOk tn c = false := by
    unfold typOk
    rw [hc]
    rfl
  have e1 : typN tn c = tn := by
    unfold typN
    rw [e]
    rfl
  have e2 : typG tn tg c = tg := by
    unfold typG
    rw [e]
    rfl
  rw [e1, e2] at S
  exact R.same S
end
section
variable {r : Nat → Int32} {a b c d : Int32} {n tn : Nat} {tg : Nat → Int32}
theorem rf_vat (h : (rngB 0 3 a && rngB 10 1000 b) = false) : F_vat r a b = (-1, r) := by
  unfold F_vat
  rw [h]
  rfl
theorem rf_weigh (h : (okB (r 7) a && rngB 1 100000 b) = false) : F_weigh r a b = (-1, r) := by
  unfold F_weigh
  rw [h]
  rfl
theorem rf_drain (h : okB (r 7) a = false) : F_drain r a = (-1, r) := by
  unfold F_drain
  rw [h]
  rfl
theorem rf_lot (h : (rngB 0 1 a && rngB 100 5000 b) = false) : F_lot r a b = (-1, r) := by
  unfold F_lot
  rw [h]
  rfl
theorem rf_dip (h : (okB (r 8) a && okB (r 7) b) = false) : F_dip r a b = (-1, r) := by
  unfold F_dip
  rw [h]
  rfl
theorem rf_rinse (h : okB (r 8) a = false) : F_rinse r a = (-1, r) := by
  unfold F_rinse
  rw [h]
  rfl
theorem rf_hang (h : (okB (r 8) a && rngB 0 1 b) = false) : F_hang r a b = (-1, r) := by
  unfold F_hang
  rw [h]
  rfl
theorem rf_take (h : okB (r 8) a = false) : F_take r a = (-1, r) := by
  unfold F_take
  rw [h]
  rfl
theorem rf_order (h : (rngB 0 20000 a && (rngB 0 20000 b && (rngB 0 20000 c && rngB 0 20000 d))) = false) : F_order r a b c d = (-1, r) := by
  unfold F_order
  rw [h]
  rfl
theorem rf_sell (h : (okB (r 8) a && okB (r 9) b) = false) : F_sell r a b = (-1, r) := by
  unfold F_sell
  rw [h]
  rfl
theorem rf_set (h : (okB 7 a && rngB (leastF (cl a)) (mostF (cl a)) b) = false) : F_set r a b = (-1, r) := by
  unfold F_set
  rw [h]
  rfl
theorem rf_vatOf (h : rngB 0 4 b = false) : Q_vatOf r a b = -1 := by
  unfold Q_vatOf
  rw [h, Bool.and_false]
  rfl
theorem rf_vatAt (h : ¬ 0 ≤ a) : Q_vatAt r a = -1 := by
  unfold Q_vatAt
  rw [decide_eq_false h]
  rfl
theorem rf_lotOf (h : rngB 0 9 b = false) : Q_lotOf r a b = -1 := by
  unfold Q_lotOf
  rw [h, Bool.and_false]
  rfl
theorem rf_shade (h : rngB 0 3 b = false) : Q_shade r a b = -1 := by
  unfold Q_shade
  rw [h, Bool.and_false]
  rfl
theorem rf_shadeBits (h : okB (r 8) a = false) : Q_shadeBits r a b = -1 := by
  unfold Q_shadeBits
  rw [h]
  rfl
theorem rf_meanBits (h : rngB 0 3 a = false) : Q_meanBits r a = -1 := by
  unfold Q_meanBits
  rw [h]
  rfl
theorem rf_orderOf (h : rngB 0 6 b = false) : Q_orderOf r a b = -1 := by
  unfold Q_orderOf
  rw [h, Bool.and_false]
  rfl
theorem rf_match (h : okB (r 8) b = false) : Q_match r a b = -1 := by
  unfold Q_match
  rw [h, Bool.and_false]
  rfl
theorem rf_alike (h : rngB 0 3 a = false) : Q_alike r a = -1 := by
  unfold Q_alike
  rw [h]
  rfl
theorem rf_plan (h : (okB (r 9) b && decide (-1 ≤ c)) = false) : Q_plan r a b c = -1 := by
  unfold Q_plan
  rw [h, Bool.and_false]
  rfl
theorem rf_takes (h : rngB 1 30 c = false) : Q_takes r a b c = -1 := by
  unfold Q_takes
  rw [h, Bool.and_false, Bool.and_false]
  rfl
theorem rf_account (h : (rngB 0 3 a && rngB 0 5 b) = false) : Q_account r a b = -1 := by
  unfold Q_account
  rw [h]
  rfl
theorem rf_count (h1 : rngB 20 26 a = false) (h2 : rngB 0 11 a = false) : Q_count r n tn a = -1 := by
  unfold Q_count
  rw [h1, h2]
  rfl
theorem rf_type (h : rngB 32 126 a = false) : F_type n a = -1 := by
  unfold F_type
  rw [h]
  rfl
theorem rf_fault (h : rngB 0 2 a = false) : F_fault tn tg r a = -1 := by
  unfold F_fault
  rw [h]
  rfl
theorem an_l {x y : Bool} (h : x = false) : (x && y) = false := by
  rw [h]
  rfl
theorem an_r {x y : Bool} (h : y = false) : (x && y) = false := by
  rw [h, Bool.and_false]
theorem ok7 (o : Ok r) : okB (r 7) (Q_count r n tn 0) = false := okB_e o.e7 (by have := cl_le7 o; omega)
theorem ok8 (o : Ok r) : okB (r 8) (Q_count r n tn 1) = false := okB_e o.e8 (by have := (cl_le o).1; omega)
theorem ok9 (o : Ok r) : okB (r 9) (Q_count r n tn 7) = false := okB_e o.e9 (by have := (cl_le o).2; omega)
theorem okm {x : Int32} : okB x (-1) = false := rfl
end

set_option maxHeartbeats 16000000 in
set_option maxRecDepth 100000 in
theorem ct_L_refuses (X : Cx) {h : Hp} {A B m : Nat → Nat} {C : Nat → Nat → Nat} {r : Nat → Int32} {n tn : Nat} {rows : Nat → Nat → Int32} {tg : Nat → Int32} (hz : Sz r) (R : Run X h A B m C h C r n rows tn tg) : Ct X mL_refuses 10 0 0 [.ref (m 0)] h (LEnd X h A B m C) := by
  obtain ⟨hSep, hSys, hn, hO, hO2, hSnd, hTk, hRs, hFr⟩ := id R
  refine Ct.ofG vL_refuses.1.2.2.1 (Nat.le_of_ble_eq_true rfl) ?_
  show G X RL cL_refuses 6 (some .boolean) "refuses" (Rm 10 0 0) (Fm X (LEnd X h A B m C) 0 0) 0 0 0 [(0, .ref (m 0))] [] h
  refine g_aload_n dL_refuses_0 (by rfl) (by first | exact isRf_r | exact isRf_n | exact isRf_o | assumption) ?_
  refine g_bipush (v := 10) dL_refuses_1 (by decide) ?_
  refine g_cV1x dL_refuses_3 lL_9 vX9_count (ct_X9_count X hO hSys) (hSys.1) rfl ⟨Nat.le_of_ble_eq_true rfl, Nat.le_of_ble_eq_true rfl⟩ (Nat.le_of_ble_eq_true rfl) ⟨Nat.le_of_ble_eq_true rfl, Nat.le_of_ble_eq_true rfl⟩ ?_
  refine g_istore_n (L1 := [(0, _), (1, _)]) dL_refuses_6 (by decide) (by rfl) ?_
  refine g_aload_n dL_refuses_7 (by rfl) (by first | exact isRf_r | exact isRf_n | exact isRf_o | assumption) ?_
  refine g_iconst (v := 0) dL_refuses_8 (by decide) ?_
  refine g_cV1x dL_refuses_9 lL_9 vX9_count (ct_X9_count X hO hSys) (hSys.1) rfl ⟨Nat.le_of_ble_eq_true rfl, Nat.le_of_ble_eq_true rfl⟩ (Nat.le_of_ble_eq_true rfl) ⟨Nat.le_of_ble_eq_true rfl, Nat.le_of_ble_eq_true rfl⟩ ?_
  refine g_istore_n (L1 := [(0, _), (1, _), (2, _)]) dL_refuses_12 (by decide) (by rfl) ?_
  refine g_aload_n dL_refuses_13 (by rfl) (by first | exact isRf_r | exact isRf_n | exact isRf_o | assumption) ?_
  refine g_iconst (v := 1) dL_refuses_14 (by decide) ?_
  refine g_cV1x dL_refuses_15 lL_9 vX9_count (ct_X9_count X hO hSys) (hSys.1) rfl ⟨Nat.le_of_ble_eq_true rfl, Nat.le_of_ble_eq_true rfl⟩ (Nat.le_of_ble_eq_true rfl) ⟨Nat.le_of_ble_eq_true rfl, Nat.le_of_ble_eq_true rfl⟩ ?_
  refine g_istore_n (L1 := [(0, _), (1, _), (2, _), (3, _)]) dL_refuses_18 (by decide) (by rfl) ?_
  refine g_aload_n dL_refuses_19 (by rfl) (by first | exact isRf_r | exact isRf_n | exact isRf_o | assumption) ?_
  refine g_bipush (v := 7) dL_refuses_20 (by decide) ?_
  refine g_cV1x dL_refuses_22 lL_9 vX9_count (ct_X9_count X hO hSys) (hSys.1) rfl ⟨Nat.le_of_ble_eq_true rfl, Nat.le_of_ble_eq_true rfl⟩ (Nat.le_of_ble_eq_true rfl) ⟨Nat.le_of_ble_eq_true rfl, Nat.le_of_ble_eq_true rfl⟩ ?_
  refine g_istore (L1 := [(0, _), (1, _), (2, _), (3, _), (4, _)]) dL_refuses_25 (by decide) (by rfl) ?_
  refine g_aload_n dL_refuses_27 (by rfl) (by first | exact isRf_r | exact isRf_n | exact isRf_o | assumption) ?_
  refine g_iconst (v := 4) dL_refuses_28 (by decide) ?_
  refine g_bipush (v := 10) dL_refuses_29 (by decide) ?_
  refine g_cV2 dL_refuses_31 lL_85 vX9_vat (ct_X9_vat X hSep hn hO hSys) (hSys.1) rfl ⟨Nat.le_of_ble_eq_true rfl, Nat.le_of_ble_eq_true rfl⟩ (Nat.le_of_ble_eq_true rfl) ⟨Nat.le_of_ble_eq_true rfl, Nat.le_of_ble_eq_true rfl⟩ ?_
  rintro _ hh ⟨rfl, hT⟩
  obtain ⟨D, R⟩ := R.no hT (rf_vat (by decide)) (by decide)
  obtain ⟨hSep, hSys, hn, hO, hO2, hSnd, hTk, hRs, hFr⟩ := id R
  refine g_stk (st' := [.int (-1)]) (congrArg (fun z : Int32 × (Nat → Int32) => [Value.int z.1]) (rf_vat (by decide))) ?_
  refine g_iconst (v := (-1)) dL_refuses_34 (by decide) ?_
  refine g_icmp_ne (tgt := 187) dL_refuses_35 (by decide) (fun c1 => absurd rfl c1) (fun c1 => ?_)
  refine g_aload_n dL_refuses_38 (by rfl) (by first | exact isRf_r | exact isRf_n | exact isRf_o | assumption) ?_
  refine g_iconst (v := 0) dL_refuses_39 (by decide) ?_
  refine g_bipush (v := 9) dL_refuses_40 (by decide) ?_
  refine g_cV2 dL_refuses_42 lL_85 vX9_vat (ct_X9_vat X hSep hn hO hSys) (hSys.1) rfl ⟨Nat.le_of_ble_eq_true rfl, Nat.le_of_ble_eq_true rfl⟩ (Nat.le_of_ble_eq_true rfl) ⟨Nat.le_of_ble_eq_true rfl, Nat.le_of_ble_eq_true rfl⟩ ?_
  rintro _ hh ⟨rfl, hT⟩
  obtain ⟨D, R⟩ := R.no hT (rf_vat (by decide)) (by decide)
  obtain ⟨hSep, hSys, hn, hO, hO2, hSnd, hTk, hRs, hFr⟩ := id R
  refine g_stk (st' := [.int (-1)]) (congrArg (fun z : Int32 × (Nat → Int32) => [Value.int z.1]) (rf_vat (by decide))) ?_
  refine g_iconst (v := (-1)) dL_refuses_45 (by decide) ?_
  refine g_icmp_ne (tgt := 187) dL_refuses_46 (by decide) (fun c2 => absurd rfl c2) (fun c2 => ?_)
  refine g_aload_n dL_refuses_49 (by rfl) (by first | exact isRf_r | exact isRf_n | exact isRf_o | assumption) ?_
  refine g_iconst (v := 0) dL_refuses_50 (by decide) ?_
  refine g_sipush (v := 1001) dL_refuses_51 (by decide) ?_
  refine g_cV2 dL_refuses_54 lL_85 vX9_vat (ct_X9_vat X hSep hn hO hSys) (hSys.1) rfl ⟨Nat.le_of_ble_eq_true rfl, Nat.le_of_ble_eq_true rfl⟩ (Nat.le_of_ble_eq_true rfl) ⟨Nat.le_of_ble_eq_true rfl, Nat.le_of_ble_eq_true rfl⟩ ?_
  rintro _ hh ⟨rfl, hT⟩
  obtain ⟨D, R⟩ := R.no hT (rf_vat (by decide)) (by decide)
  obtain ⟨hSep, hSys, hn, hO, hO2, hSnd, hTk, hRs, hFr⟩ := id R
  refine g_stk (st' := [.int (-1)]) (congrArg (fun z : Int32 × (Nat → Int32) => [Value.int z.1]) (rf_vat (by decide))) ?_
  refine g_iconst (v := (-1)) dL_refuses_57 (by decide) ?_
  refine g_icmp_ne (tgt := 187) dL_refuses_58 (by decide) (fun c3 => absurd rfl c3) (fun c3 => ?_)
  refine g_aload_n dL_refuses_61 (by rfl) (by first | exact isRf_r | exact isRf_n | exact isRf_o | assumption) ?_
  refine g_iload_n dL_refuses_62 (by rfl) ?_
  refine g_iconst (v := 1) dL_refuses_63 (by decide) ?_
  refine g_cV2 dL_refuses_64 lL_88 vX9_weigh (ct_X9_weigh X hSep hn hO hSys) (hSys.1) rfl ⟨Nat.le_of_ble_eq_true rfl, Nat.le_of_ble_eq_true rfl⟩ (Nat.le_of_ble_eq_true rfl) ⟨Nat.le_of_ble_eq_true rfl, Nat.le_of_ble_eq_true rfl⟩ ?_
  rintro _ hh ⟨rfl, hT⟩
  obtain ⟨D, R⟩ := R.no hT (rf_weigh (an_l (ok7 hO))) (by decide)
  obtain ⟨hSep, hSys, hn, hO, hO2, hSnd, hTk, hRs, hFr⟩ := id R
  refine g_stk (st' := [.int (-1)]) (congrArg (fun z : Int32 × (Nat → Int32) => [Value.int z.1]) (rf_weigh (an_l (ok7 hO)))) ?_
  refine g_iconst (v := (-1)) dL_refuses_67 (by decide) ?_
  refine g_icmp_ne (tgt := 187) dL_refuses_68 (by decide) (fun c4 => absurd rfl c4) (fun c4 => ?_)
  refine g_aload_n dL_refuses_71 (by rfl) (by first | exact isRf_r | exact isRf_n | exact isRf_o | assumption) ?_
  refine g_iconst (v := 0) dL_refuses_72 (by decide) ?_
  refine g_iconst (v := 0) dL_refuses_73 (by decide) ?_
  refine g_cV2 dL_refuses_74 lL_88 vX9_weigh (ct_X9_weigh X hSep hn hO hSys) (hSys.1) rfl ⟨Nat.le_of_ble_eq_true rfl, Nat.le_of_ble_eq_true rfl⟩ (Nat.le_of_ble_eq_true rfl) ⟨Nat.le_of_ble_eq_true rfl, Nat.le_of_ble_eq_true rfl⟩ ?_
  rintro _ hh ⟨rfl, hT⟩
  obtain ⟨D, R⟩ := R.no hT (rf_weigh (an_r (by decide))) (by decide)
  obtain ⟨hSep, hSys, hn, hO, hO2, hSnd, hTk, hRs, hFr⟩ := id R
  refine g_stk (st' := [.int (-1)]) (congrArg (fun z : Int32 × (Nat → Int32) => [Value.int z.1]) (rf_weigh (an_r (by decide)))) ?_
  refine g_iconst (v := (-1)) dL_refuses_77 (by decide) ?_
  refine g_icmp_ne (tgt := 187) dL_refuses_78 (by decide) (fun c5 => absurd rfl c5) (fun c5 => ?_)
  refine g_aload_n dL_refuses_81 (by rfl) (by first | exact isRf_r | exact isRf_n | exact isRf_o | assumption) ?_
  refine g_iconst (v := 0) dL_refuses_82 (by decide) ?_
  refine g_ldc dL_refuses_83 cL_91 ?_
  refine g_cV2 dL_refuses_85 lL_88 vX9_weigh (ct_X9_weigh X hSep hn hO hSys) (hSys.1) rfl ⟨Nat.le_of_ble_eq_true rfl, Nat.le_of_ble_eq_true rfl⟩ (Nat.le_of_ble_eq_true rfl) ⟨Nat.le_of_ble_eq_true rfl, Nat.le_of_ble_eq_true rfl⟩ ?_
  rintro _ hh ⟨rfl, hT⟩
  obtain ⟨D, R⟩ := R.no hT (rf_weigh (an_r (by decide))) (by decide)
  obtain ⟨hSep, hSys, hn, hO, hO2, hSnd, hTk, hRs, hFr⟩ := id R
  refine g_stk (st' := [.int (-1)]) (congrArg (fun z : Int32 × (Nat → Int32) => [Value.int z.1]) (rf_weigh (an_r (by decide)))) ?_
  refine g_iconst (v := (-1)) dL_refuses_88 (by decide) ?_
  refine g_icmp_ne (tgt := 187) dL_refuses_89 (by decide) (fun c6 => absurd rfl c6) (fun c6 => ?_)
  refine g_aload_n dL_refuses_92 (by rfl) (by first | exact isRf_r | exact isRf_n | exact isRf_o | assumption) ?_
  refine g_iload_n dL_refuses_93 (by rfl) ?_
  refine g_cV1 dL_refuses_94 lL_82 vX9_drain (ct_X9_drain X hSep hn hO hSys) (hSys.1) rfl ⟨Nat.le_of_ble_eq_true rfl, Nat.le_of_ble_eq_true rfl⟩ (Nat.le_of_ble_eq_true rfl) ⟨Nat.le_of_ble_eq_true rfl, Nat.le_of_ble_eq_true rfl⟩ ?_
  rintro _ hh ⟨rfl, hT⟩
  obtain ⟨D, R⟩ := R.no hT (rf_drain (ok7 hO)) (by decide)
  obtain ⟨hSep, hSys, hn, hO, hO2, hSnd, hTk, hRs, hFr⟩ := id R
  refine g_stk (st' := [.int (-1)]) (congrArg (fun z : Int32 × (Nat → Int32) => [Value.int z.1]) (rf_drain (ok7 hO))) ?_
  refine g_iconst (v := (-1)) dL_refuses_97 (by decide) ?_
  refine g_icmp_ne (tgt := 187) dL_refuses_98 (by decide) (fun c7 => absurd rfl c7) (fun c7 => ?_)
  refine g_aload_n dL_refuses_101 (by rfl) (by first | exact isRf_r | exact isRf_n | exact isRf_o | assumption) ?_
  refine g_iconst (v := 0) dL_refuses_102 (by decide) ?_
  refine g_iconst (v := 5) dL_refuses_103 (by decide) ?_
  refine g_cV2x dL_refuses_104 lL_38 vX9_vatOf (ct_X9_vatOf X hO hSys) (hSys.1) rfl ⟨Nat.le_of_ble_eq_true rfl, Nat.le_of_ble_eq_true rfl⟩ (Nat.le_of_ble_eq_true rfl) ⟨Nat.le_of_ble_eq_true rfl, Nat.le_of_ble_eq_true rfl⟩ ?_
  refine g_iconst (v := (-1)) dL_refuses_107 (by decide) ?_
  refine g_icmp_ne (tgt := 187) dL_refuses_108 (by decide) (fun c8 => absurd (rf_vatOf (by decide)) c8) (fun c8 => ?_)
  refine g_aload_n dL_refuses_111 (by rfl) (by first | exact isRf_r | exact isRf_n | exact isRf_o | assumption) ?_
  refine g_iconst (v := (-1)) dL_refuses_112 (by decide) ?_
  refine g_cV1x dL_refuses_113 lL_35 vX9_vatAt (ct_X9_vatAt X hO hSys) (hSys.1) rfl ⟨Nat.le_of_ble_eq_true rfl, Nat.le_of_ble_eq_true rfl⟩ (Nat.le_of_ble_eq_true rfl) ⟨Nat.le_of_ble_eq_true rfl, Nat.le_of_ble_eq_true rfl⟩ ?_
  refine g_iconst (v := (-1)) dL_refuses_116 (by decide) ?_
  refine g_icmp_ne (tgt := 187) dL_refuses_117 (by decide) (fun c9 => absurd (rf_vatAt (by decide)) c9) (fun c9 => ?_)
  refine g_aload_n dL_refuses_120 (by rfl) (by first | exact isRf_r | exact isRf_n | exact isRf_o | assumption) ?_
  refine g_iconst (v := 2) dL_refuses_121 (by decide) ?_
  refine g_bipush (v := 100) dL_refuses_122 (by decide) ?_
  refine g_cV2 dL_refuses_124 lL_92 vX9_lot (ct_X9_lot X hSep hn hO hSys) (hSys.1) rfl ⟨Nat.le_of_ble_eq_true rfl, Nat.le_of_ble_eq_true rfl⟩ (Nat.le_of_ble_eq_true rfl) ⟨Nat.le_of_ble_eq_true rfl, Nat.le_of_ble_eq_true rfl⟩ ?_
  rintro _ hh ⟨rfl, hT⟩
  obtain ⟨D, R⟩ := R.no hT (rf_lot (by decide)) (by decide)
  obtain ⟨hSep, hSys, hn, hO, hO2, hSnd, hTk, hRs, hFr⟩ := id R
  refine g_stk (st' := [.int (-1)]) (congrArg (fun z : Int32 × (Nat → Int32) => [Value.int z.1]) (rf_lot (by decide))) ?_
  refine g_iconst (v := (-1)) dL_refuses_127 (by decide) ?_
  refine g_icmp_ne (tgt := 187) dL_refuses_128 (by decide) (fun c10 => absurd rfl c10) (fun c10 => ?_)
  refine g_aload_n dL_refuses_131 (by rfl) (by first | exact isRf_r | exact isRf_n | exact isRf_o | assumption) ?_
  refine g_iconst (v := 0) dL_refuses_132 (by decide) ?_
  refine g_bipush (v := 99) dL_refuses_133 (by decide) ?_
  refine g_cV2 dL_refuses_135 lL_92 vX9_lot (ct_X9_lot X hSep hn hO hSys) (hSys.1) rfl ⟨Nat.le_of_ble_eq_true rfl, Nat.le_of_ble_eq_true rfl⟩ (Nat.le_of_ble_eq_true rfl) ⟨Nat.le_of_ble_eq_true rfl, Nat.le_of_ble_eq_true rfl⟩ ?_
  rintro _ hh ⟨rfl, hT⟩
  obtain ⟨D, R⟩ := R.no hT (rf_lot (by decide)) (by decide)
  obtain ⟨hSep, hSys, hn, hO, hO2, hSnd, hTk, hRs, hFr⟩ := id R
  refine g_stk (st' := [.int (-1)]) (congrArg (fun z : Int32 × (Nat → Int32) => [Value.int z.1]) (rf_lot (by decide))) ?_
  refine g_iconst (v := (-1)) dL_refuses_138 (by decide) ?_
  refine g_icmp_ne (tgt := 187) dL_refuses_139 (by decide) (fun c11 => absurd rfl c11) (fun c11 => ?_)
  refine g_aload_n dL_refuses_142 (by rfl) (by first | exact isRf_r | exact isRf_n | exact isRf_o | assumption) ?_
  refine g_iconst (v := 0) dL_refuses_143 (by decide) ?_
  refine g_sipush (v := 5001) dL_refuses_144 (by decide) ?_
  refine g_cV2 dL_refuses_147 lL_92 vX9_lot (ct_X9_lot X hSep hn hO hSys) (hSys.1) rfl ⟨Nat.le_of_ble_eq_true rfl, Nat.le_of_ble_eq_true rfl⟩ (Nat.le_of_ble_eq_true rfl) ⟨Nat.le_of_ble_eq_true rfl, Nat.le_of_ble_eq_true rfl⟩ ?_
  rintro _ hh ⟨rfl, hT⟩
  obtain ⟨D, R⟩ := R.no hT (rf_lot (by decide)) (by decide)
  obtain ⟨hSep, hSys, hn, hO, hO2, hSnd, hTk, hRs, hFr⟩ := id R
  refine g_stk (st' := [.int (-1)]) (congrArg (fun z : Int32 × (Nat → Int32) => [Value.int z.1]) (rf_lot (by decide))) ?_
  refine g_iconst (v := (-1)) dL_refuses_150 (by decide) ?_
  refine g_icmp_ne (tgt := 187) dL_refuses_151 (by decide) (fun c12 => absurd rfl c12) (fun c12 => ?_)
  refine g_aload_n dL_refuses_154 (by rfl) (by first | exact isRf_r | exact isRf_n | exact isRf_o | assumption) ?_
  refine g_iload_n dL_refuses_155 (by rfl) ?_
  refine g_iconst (v := 0) dL_refuses_156 (by decide) ?_
  refine g_cV2 dL_refuses_157 lL_48 vX9_dip (ct_X9_dip X hSep hn hO hSys) (hSys.1) rfl ⟨Nat.le_of_ble_eq_true rfl, Nat.le_of_ble_eq_true rfl⟩ (Nat.le_of_ble_eq_true rfl) ⟨Nat.le_of_ble_eq_true rfl, Nat.le_of_ble_eq_true rfl⟩ ?_
  rintro _ hh ⟨rfl, hT⟩
  obtain ⟨D, R⟩ := R.no hT (rf_dip (an_l (ok8 hO))) (by decide)
  obtain ⟨hSep, hSys, hn, hO, hO2, hSnd, hTk, hRs, hFr⟩ := id R
  refine g_stk (st' := [.int (-1)]) (congrArg (fun z : Int32 × (Nat → Int32) => [Value.int z.1]) (rf_dip (an_l (ok8 hO)))) ?_
  refine g_iconst (v := (-1)) dL_refuses_160 (by decide) ?_
  refine g_icmp_ne (tgt := 187) dL_refuses_161 (by decide) (fun c13 => absurd rfl c13) (fun c13 => ?_)
  refine g_aload_n dL_refuses_164 (by rfl) (by first | exact isRf_r | exact isRf_n | exact isRf_o | assumption) ?_
  refine g_iconst (v := 0) dL_refuses_165 (by decide) ?_
  refine g_iload_n dL_refuses_166 (by rfl) ?_
  refine g_cV2 dL_refuses_167 lL_48 vX9_dip (ct_X9_dip X hSep hn hO hSys) (hSys.1) rfl ⟨Nat.le_of_ble_eq_true rfl, Nat.le_of_ble_eq_true rfl⟩ (Nat.le_of_ble_eq_true rfl) ⟨Nat.le_of_ble_eq_true rfl, Nat.le_of_ble_eq_true rfl⟩ ?_
  rintro _ hh ⟨rfl, hT⟩
  obtain ⟨D, R⟩ := R.no hT (rf_dip (an_r (ok7 hO))) (by decide)
  obtain ⟨hSep, hSys, hn, hO, hO2, hSnd, hTk, hRs, hFr⟩ := id R
  refine g_stk (st' := [.int (-1)]) (congrArg (fun z : Int32 × (Nat → Int32) => [Value.int z.1]) (rf_dip (an_r (ok7 hO)))) ?_
  refine g_iconst (v := (-1)) dL_refuses_170 (by decide) ?_
  refine g_icmp_ne (tgt := 187) dL_refuses_171 (by decide) (fun c14 => absurd rfl c14) (fun c14 => ?_)
  refine g_aload_n dL_refuses_174 (by rfl) (by first | exact isRf_r | exact isRf_n | exact isRf_o | assumption) ?_
  refine g_iconst (v := (-1)) dL_refuses_175 (by decide) ?_
  refine g_cV1 dL_refuses_176 lL_58 vX9_rinse (ct_X9_rinse X hSep hn hO hSys) (hSys.1) rfl ⟨Nat.le_of_ble_eq_true rfl, Nat.le_of_ble_eq_true rfl⟩ (Nat.le_of_ble_eq_true rfl) ⟨Nat.le_of_ble_eq_true rfl, Nat.le_of_ble_eq_true rfl⟩ ?_
  rintro _ hh ⟨rfl, hT⟩
  obtain ⟨D, R⟩ := R.no hT (rf_rinse okm) (by decide)
  obtain ⟨hSep, hSys, hn, hO, hO2, hSnd, hTk, hRs, hFr⟩ := id R
  refine g_stk (st' := [.int (-1)]) (congrArg (fun z : Int32 × (Nat → Int32) => [Value.int z.1]) (rf_rinse okm)) ?_
  refine g_iconst (v := (-1)) dL_refuses_179 (by decide) ?_
  refine g_icmp_ne (tgt := 187) dL_refuses_180 (by decide) (fun c15 => absurd rfl c15) (fun c15 => ?_)
  refine g_iconst (v := 1) dL_refuses_183 (by decide) ?_
  refine g_goto (tgt := 188) dL_refuses_184 (by decide) ?_
  refine g_istore (L1 := [(0, _), (1, _), (2, _), (3, _), (4, _), (5, _)]) dL_refuses_188 (by decide) (by rfl) ?_
  refine g_iload dL_refuses_190 (by rfl) ?_
  refine g_if_eq (tgt := 345) dL_refuses_192 (by decide) (fun c16 => absurd c16 (by decide)) (fun c16 => ?_)
  refine g_aload_n dL_refuses_195 (by rfl) (by first | exact isRf_r | exact isRf_n | exact isRf_o | assumption) ?_
  refine g_iload_n dL_refuses_196 (by rfl) ?_
  refine g_iconst (v := 0) dL_refuses_197 (by decide) ?_
  refine g_cV2 dL_refuses_198 lL_61 vX9_hang (ct_X9_hang X hSep hn hO hSys) (hSys.1) rfl ⟨Nat.le_of_ble_eq_true rfl, Nat.le_of_ble_eq_true rfl⟩ (Nat.le_of_ble_eq_true rfl) ⟨Nat.le_of_ble_eq_true rfl, Nat.le_of_ble_eq_true rfl⟩ ?_
  rintro _ hh ⟨rfl, hT⟩
  obtain ⟨D, R⟩ := R.no hT (rf_hang (an_l (ok8 hO))) (by decide)
  obtain ⟨hSep, hSys, hn, hO, hO2, hSnd, hTk, hRs, hFr⟩ := id R
  refine g_stk (st' := [.int (-1)]) (congrArg (fun z : Int32 × (Nat → Int32) => [Value.int z.1]) (rf_hang (an_l (ok8 hO)))) ?_
  refine g_iconst (v := (-1)) dL_refuses_201 (by decide) ?_
  refine g_icmp_ne (tgt := 345) dL_refuses_202 (by decide) (fun c17 => absurd rfl c17) (fun c17 => ?_)
  refine g_aload_n dL_refuses_205 (by rfl) (by first | exact isRf_r | exact isRf_n | exact isRf_o | assumption) ?_
  refine g_iconst (v := 0) dL_refuses_206 (by decide) ?_
  refine g_iconst (v := 2) dL_refuses_207 (by decide) ?_
  refine g_cV2 dL_refuses_208 lL_61 vX9_hang (ct_X9_hang X hSep hn hO hSys) (hSys.1) rfl ⟨Nat.le_of_ble_eq_true rfl, Nat.le_of_ble_eq_true rfl⟩ (Nat.le_of_ble_eq_true rfl) ⟨Nat.le_of_ble_eq_true rfl, Nat.le_of_ble_eq_true rfl⟩ ?_
  rintro _ hh ⟨rfl, hT⟩
  obtain ⟨D, R⟩ := R.no hT (rf_hang (an_r (by decide))) (by decide)
  obtain ⟨hSep, hSys, hn, hO, hO2, hSnd, hTk, hRs, hFr⟩ := id R
  refine g_stk (st' := [.int (-1)]) (congrArg (fun z : Int32 × (Nat → Int32) => [Value.int z.1]) (rf_hang (an_r (by decide)))) ?_
  refine g_iconst (v := (-1)) dL_refuses_211 (by decide) ?_
  refine g_icmp_ne (tgt := 345) dL_refuses_212 (by decide) (fun c18 => absurd rfl c18) (fun c18 => ?_)
  refine g_aload_n dL_refuses_215 (by rfl) (by first | exact isRf_r | exact isRf_n | exact isRf_o | assumption) ?_
  refine g_iload_n dL_refuses_216 (by rfl) ?_
  refine g_cV1 dL_refuses_217 lL_45 vX9_take (ct_X9_take X hSep hn hO hSys) (hSys.1) rfl ⟨Nat.le_of_ble_eq_true rfl, Nat.le_of_ble_eq_true rfl⟩ (Nat.le_of_ble_eq_true rfl) ⟨Nat.le_of_ble_eq_true rfl, Nat.le_of_ble_eq_true rfl⟩ ?_
  rintro _ hh ⟨rfl, hT⟩
  obtain ⟨D, R⟩ := R.no hT (rf_take (ok8 hO)) (by decide)
  obtain ⟨hSep, hSys, hn, hO, hO2, hSnd, hTk, hRs, hFr⟩ := id R
  refine g_stk (st' := [.int (-1)]) (congrArg (fun z : Int32 × (Nat → Int32) => [Value.int z.1]) (rf_take (ok8 hO))) ?_
  refine g_iconst (v := (-1)) dL_refuses_220 (by decide) ?_
  refine g_icmp_ne (tgt := 345) dL_refuses_221 (by decide) (fun c19 => absurd rfl c19) (fun c19 => ?_)
  refine g_aload_n dL_refuses_224 (by rfl) (by first | exact isRf_r | exact isRf_n | exact isRf_o | assumption) ?_
  refine g_iconst (v := 0) dL_refuses_225 (by decide) ?_
  refine g_bipush (v := 10) dL_refuses_226 (by decide) ?_
  refine g_cV2x dL_refuses_228 lL_26 vX9_lotOf (ct_X9_lotOf X hO hSys) (hSys.1) rfl ⟨Nat.le_of_ble_eq_true rfl, Nat.le_of_ble_eq_true rfl⟩ (Nat.le_of_ble_eq_true rfl) ⟨Nat.le_of_ble_eq_true rfl, Nat.le_of_ble_eq_true rfl⟩ ?_
  refine g_iconst (v := (-1)) dL_refuses_231 (by decide) ?_
  refine g_icmp_ne (tgt := 345) dL_refuses_232 (by decide) (fun c20 => absurd (rf_lotOf (by decide)) c20) (fun c20 => ?_)
  refine g_aload_n dL_refuses_235 (by rfl) (by first | exact isRf_r | exact isRf_n | exact isRf_o | assumption) ?_
  refine g_iconst (v := 0) dL_refuses_236 (by decide) ?_
  refine g_iconst (v := 4) dL_refuses_237 (by decide) ?_
  refine g_cV2x dL_refuses_238 lL_95 vX9_shade (ct_X9_shade X hO hSys) (hSys.1) rfl ⟨Nat.le_of_ble_eq_true rfl, Nat.le_of_ble_eq_true rfl⟩ (Nat.le_of_ble_eq_true rfl) ⟨Nat.le_of_ble_eq_true rfl, Nat.le_of_ble_eq_true rfl⟩ ?_
  refine g_iconst (v := (-1)) dL_refuses_241 (by decide) ?_
  refine g_icmp_ne (tgt := 345) dL_refuses_242 (by decide) (fun c21 => absurd (rf_shade (by decide)) c21) (fun c21 => ?_)
  refine g_aload_n dL_refuses_245 (by rfl) (by first | exact isRf_r | exact isRf_n | exact isRf_o | assumption) ?_
  refine g_iload_n dL_refuses_246 (by rfl) ?_
  refine g_iconst (v := 0) dL_refuses_247 (by decide) ?_
  refine g_cV2x dL_refuses_248 lL_98 vX9_shadeBits (ct_X9_shadeBits X hO hSys) (hSys.1) rfl ⟨Nat.le_of_ble_eq_true rfl, Nat.le_of_ble_eq_true rfl⟩ (Nat.le_of_ble_eq_true rfl) ⟨Nat.le_of_ble_eq_true rfl, Nat.le_of_ble_eq_true rfl⟩ ?_
  refine g_iconst (v := (-1)) dL_refuses_251 (by decide) ?_
  refine g_icmp_ne (tgt := 345) dL_refuses_252 (by decide) (fun c22 => absurd (rf_shadeBits (ok8 hO)) c22) (fun c22 => ?_)
  refine g_aload_n dL_refuses_255 (by rfl) (by first | exact isRf_r | exact isRf_n | exact isRf_o | assumption) ?_
  refine g_iconst (v := 4) dL_refuses_256 (by decide) ?_
  refine g_cV1x dL_refuses_257 lL_23 vX9_meanBits (ct_X9_meanBits X hO hSys) (hSys.1) rfl ⟨Nat.le_of_ble_eq_true rfl, Nat.le_of_ble_eq_true rfl⟩ (Nat.le_of_ble_eq_true rfl) ⟨Nat.le_of_ble_eq_true rfl, Nat.le_of_ble_eq_true rfl⟩ ?_
  refine g_iconst (v := (-1)) dL_refuses_260 (by decide) ?_
  refine g_icmp_ne (tgt := 345) dL_refuses_261 (by decide) (fun c23 => absurd (rf_meanBits (by decide)) c23) (fun c23 => ?_)
  refine g_aload_n dL_refuses_264 (by rfl) (by first | exact isRf_r | exact isRf_n | exact isRf_o | assumption) ?_
  refine g_sipush (v := 20001) dL_refuses_265 (by decide) ?_
  refine g_iconst (v := 0) dL_refuses_268 (by decide) ?_
  refine g_iconst (v := 0) dL_refuses_269 (by decide) ?_
  refine g_iconst (v := 0) dL_refuses_270 (by decide) ?_
  refine g_cV4 dL_refuses_271 lL_101 vX9_order (ct_X9_order X hSep hn hO hSys) (hSys.1) rfl ⟨Nat.le_of_ble_eq_true rfl, Nat.le_of_ble_eq_true rfl⟩ (Nat.le_of_ble_eq_true rfl) ⟨Nat.le_of_ble_eq_true rfl, Nat.le_of_ble_eq_true rfl⟩ ?_
  rintro _ hh ⟨rfl, hT⟩
  obtain ⟨D, R⟩ := R.no hT (rf_order (by decide)) (by decide)
  obtain ⟨hSep, hSys, hn, hO, hO2, hSnd, hTk, hRs, hFr⟩ := id R
  refine g_stk (st' := [.int (-1)]) (congrArg (fun z : Int32 × (Nat → Int32) => [Value.int z.1]) (rf_order (by decide))) ?_
  refine g_iconst (v := (-1)) dL_refuses_274 (by decide) ?_
  refine g_icmp_ne (tgt := 345) dL_refuses_275 (by decide) (fun c24 => absurd rfl c24) (fun c24 => ?_)
  refine g_aload_n dL_refuses_278 (by rfl) (by first | exact isRf_r | exact isRf_n | exact isRf_o | assumption) ?_
  refine g_iconst (v := 0) dL_refuses_279 (by decide) ?_
  refine g_iconst (v := 0) dL_refuses_280 (by decide) ?_
  refine g_iconst (v := 0) dL_refuses_281 (by decide) ?_
  refine g_iconst (v := (-1)) dL_refuses_282 (by decide) ?_
  refine g_cV4 dL_refuses_283 lL_101 vX9_order (ct_X9_order X hSep hn hO hSys) (hSys.1) rfl ⟨Nat.le_of_ble_eq_true rfl, Nat.le_of_ble_eq_true rfl⟩ (Nat.le_of_ble_eq_true rfl) ⟨Nat.le_of_ble_eq_true rfl, Nat.le_of_ble_eq_true rfl⟩ ?_
  rintro _ hh ⟨rfl, hT⟩
  obtain ⟨D, R⟩ := R.no hT (rf_order (by decide)) (by decide)
  obtain ⟨hSep, hSys, hn, hO, hO2, hSnd, hTk, hRs, hFr⟩ := id R
  refine g_stk (st' := [.int (-1)]) (congrArg (fun z : Int32 × (Nat → Int32) => [Value.int z.1]) (rf_order (by decide))) ?_
  refine g_iconst (v := (-1)) dL_refuses_286 (by decide) ?_
  refine g_icmp_ne (tgt := 345) dL_refuses_287 (by decide) (fun c25 => absurd rfl c25) (fun c25 => ?_)
  refine g_aload_n dL_refuses_290 (by rfl) (by first | exact isRf_r | exact isRf_n | exact isRf_o | assumption) ?_
  refine g_iload_n dL_refuses_291 (by rfl) ?_
  refine g_iconst (v := 0) dL_refuses_292 (by decide) ?_
  refine g_cV2 dL_refuses_293 lL_105 vX9_sell (ct_X9_sell X hSep hn hO hSys) (hSys.1) rfl ⟨Nat.le_of_ble_eq_true rfl, Nat.le_of_ble_eq_true rfl⟩ (Nat.le_of_ble_eq_true rfl) ⟨Nat.le_of_ble_eq_true rfl, Nat.le_of_ble_eq_true rfl⟩ ?_
  rintro _ hh ⟨rfl, hT⟩
  obtain ⟨D, R⟩ := R.no hT (rf_sell (an_l (ok8 hO))) (by decide)
  obtain ⟨hSep, hSys, hn, hO, hO2, hSnd, hTk, hRs, hFr⟩ := id R
  refine g_stk (st' := [.int (-1)]) (congrArg (fun z : Int32 × (Nat → Int32) => [Value.int z.1]) (rf_sell (an_l (ok8 hO)))) ?_
  refine g_iconst (v := (-1)) dL_refuses_296 (by decide) ?_
  refine g_icmp_ne (tgt := 345) dL_refuses_297 (by decide) (fun c26 => absurd rfl c26) (fun c26 => ?_)
  refine g_aload_n dL_refuses_300 (by rfl) (by first | exact isRf_r | exact isRf_n | exact isRf_o | assumption) ?_
  refine g_iconst (v := 0) dL_refuses_301 (by decide) ?_
  refine g_iload dL_refuses_302 (by rfl) ?_
  refine g_cV2 dL_refuses_304 lL_105 vX9_sell (ct_X9_sell X hSep hn hO hSys) (hSys.1) rfl ⟨Nat.le_of_ble_eq_true rfl, Nat.le_of_ble_eq_true rfl⟩ (Nat.le_of_ble_eq_true rfl) ⟨Nat.le_of_ble_eq_true rfl, Nat.le_of_ble_eq_true rfl⟩ ?_
  rintro _ hh ⟨rfl, hT⟩
  obtain ⟨D, R⟩ := R.no hT (rf_sell (an_r (ok9 hO))) (by decide)
  obtain ⟨hSep, hSys, hn, hO, hO2, hSnd, hTk, hRs, hFr⟩ := id R
  refine g_stk (st' := [.int (-1)]) (congrArg (fun z : Int32 × (Nat → Int32) => [Value.int z.1]) (rf_sell (an_r (ok9 hO)))) ?_
  refine g_iconst (v := (-1)) dL_refuses_307 (by decide) ?_
  refine g_icmp_ne (tgt := 345) dL_refuses_308 (by decide) (fun c27 => absurd rfl c27) (fun c27 => ?_)
  refine g_aload_n dL_refuses_311 (by rfl) (by first | exact isRf_r | exact isRf_n | exact isRf_o | assumption) ?_
  refine g_iconst (v := 0) dL_refuses_312 (by decide) ?_
  refine g_bipush (v := 7) dL_refuses_313 (by decide) ?_
  refine g_cV2x dL_refuses_315 lL_29 vX9_orderOf (ct_X9_orderOf X hO hSys) (hSys.1) rfl ⟨Nat.le_of_ble_eq_true rfl, Nat.le_of_ble_eq_true rfl⟩ (Nat.le_of_ble_eq_true rfl) ⟨Nat.le_of_ble_eq_true rfl, Nat.le_of_ble_eq_true rfl⟩ ?_
  refine g_iconst (v := (-1)) dL_refuses_318 (by decide) ?_
  refine g_icmp_ne (tgt := 345) dL_refuses_319 (by decide) (fun c28 => absurd (rf_orderOf (by decide)) c28) (fun c28 => ?_)
  refine g_aload_n dL_refuses_322 (by rfl) (by first | exact isRf_r | exact isRf_n | exact isRf_o | assumption) ?_
  refine g_iconst (v := 0) dL_refuses_323 (by decide) ?_
  refine g_iload_n dL_refuses_324 (by rfl) ?_
  refine g_cV2x dL_refuses_325 lL_32 vX9_match (ct_X9_match X hO hSys) (hSys.1) rfl ⟨Nat.le_of_ble_eq_true rfl, Nat.le_of_ble_eq_true rfl⟩ (Nat.le_of_ble_eq_true rfl) ⟨Nat.le_of_ble_eq_true rfl, Nat.le_of_ble_eq_true rfl⟩ ?_
  refine g_iconst (v := (-1)) dL_refuses_328 (by decide) ?_
  refine g_icmp_ne (tgt := 345) dL_refuses_329 (by decide) (fun c29 => absurd (rf_match (ok8 hO)) c29) (fun c29 => ?_)
  refine g_aload_n dL_refuses_332 (by rfl) (by first | exact isRf_r | exact isRf_n | exact isRf_o | assumption) ?_
  refine g_iconst (v := 4) dL_refuses_333 (by decide) ?_
  refine g_cV1x dL_refuses_334 lL_20 vX9_alike (ct_X9_alike X hO hSys) (hSys.1) rfl ⟨Nat.le_of_ble_eq_true rfl, Nat.le_of_ble_eq_true rfl⟩ (Nat.le_of_ble_eq_true rfl) ⟨Nat.le_of_ble_eq_true rfl, Nat.le_of_ble_eq_true rfl⟩ ?_
  refine g_iconst (v := (-1)) dL_refuses_337 (by decide) ?_
  refine g_icmp_ne (tgt := 345) dL_refuses_338 (by decide) (fun c30 => absurd (rf_alike (by decide)) c30) (fun c30 => ?_)
  refine g_iconst (v := 1) dL_refuses_341 (by decide) ?_
  refine g_goto (tgt := 346) dL_refuses_342 (by decide) ?_
  refine g_istore (L1 := [(0, _), (1, _), (2, _), (3, _), (4, _), (5, _)]) dL_refuses_346 (by decide) (by rfl) ?_
  refine g_iload dL_refuses_348 (by rfl) ?_
  refine g_if_eq (tgt := 517) dL_refuses_350 (by decide) (fun c31 => absurd c31 (by decide)) (fun c31 => ?_)
  refine g_aload_n dL_refuses_353 (by rfl) (by first | exact isRf_r | exact isRf_n | exact isRf_o | assumption) ?_
  refine g_iconst (v := 0) dL_refuses_354 (by decide) ?_
  refine g_iload dL_refuses_355 (by rfl) ?_
  refine g_iconst (v := 0) dL_refuses_357 (by decide) ?_
  refine g_cV3 dL_refuses_358 lL_41 vX9_plan (ct_X9_plan X hSep hn hO hSys) (hSys.1) rfl ⟨Nat.le_of_ble_eq_true rfl, Nat.le_of_ble_eq_true rfl⟩ (Nat.le_of_ble_eq_true rfl) ⟨Nat.le_of_ble_eq_true rfl, Nat.le_of_ble_eq_true rfl⟩ ?_
  rintro _ hh ⟨rfl, hT⟩
  obtain ⟨D, R⟩ := R.same hT
  obtain ⟨hSep, hSys, hn, hO, hO2, hSnd, hTk, hRs, hFr⟩ := id R
  refine g_stk (st' := [.int (-1)]) (congrArg (fun z => [Value.int z]) (rf_plan (an_l (ok9 hO)))) ?_
  refine g_iconst (v := (-1)) dL_refuses_361 (by decide) ?_
  refine g_icmp_ne (tgt := 517) dL_refuses_362 (by decide) (fun c32 => absurd rfl c32) (fun c32 => ?_)
  refine g_aload_n dL_refuses_365 (by rfl) (by first | exact isRf_r | exact isRf_n | exact isRf_o | assumption) ?_
  refine g_iconst (v := 0) dL_refuses_366 (by decide) ?_
  refine g_iconst (v := 0) dL_refuses_367 (by decide) ?_
  refine g_bipush (v := (-2)) dL_refuses_368 (by decide) ?_
  refine g_cV3 dL_refuses_370 lL_41 vX9_plan (ct_X9_plan X hSep hn hO hSys) (hSys.1) rfl ⟨Nat.le_of_ble_eq_true rfl, Nat.le_of_ble_eq_true rfl⟩ (Nat.le_of_ble_eq_true rfl) ⟨Nat.le_of_ble_eq_true rfl, Nat.le_of_ble_eq_true rfl⟩ ?_
  rintro _ hh ⟨rfl, hT⟩
  obtain ⟨D, R⟩ := R.same hT
  obtain ⟨hSep, hSys, hn, hO, hO2, hSnd, hTk, hRs, hFr⟩ := id R
  refine g_stk (st' := [.int (-1)]) (congrArg (fun z => [Value.int z]) (rf_plan (an_r (by decide)))) ?_
  refine g_iconst (v := (-1)) dL_refuses_373 (by decide) ?_
  refine g_icmp_ne (tgt := 517) dL_refuses_374 (by decide) (fun c33 => absurd rfl c33) (fun c33 => ?_)
  refine g_aload_n dL_refuses_377 (by rfl) (by first | exact isRf_r | exact isRf_n | exact isRf_o | assumption) ?_
  refine g_iconst (v := 0) dL_refuses_378 (by decide) ?_
  refine g_iconst (v := 0) dL_refuses_379 (by decide) ?_
  refine g_iconst (v := 0) dL_refuses_380 (by decide) ?_
  refine g_cV3x dL_refuses_381 lL_55 vX9_takes (ct_X9_takes X hO hSys) (hSys.1) rfl ⟨Nat.le_of_ble_eq_true rfl, Nat.le_of_ble_eq_true rfl⟩ (Nat.le_of_ble_eq_true rfl) ⟨Nat.le_of_ble_eq_true rfl, Nat.le_of_ble_eq_true rfl⟩ ?_
  refine g_iconst (v := (-1)) dL_refuses_384 (by decide) ?_
  refine g_icmp_ne (tgt := 517) dL_refuses_385 (by decide) (fun c34 => absurd (rf_takes (by decide)) c34) (fun c34 => ?_)
  refine g_aload_n dL_refuses_388 (by rfl) (by first | exact isRf_r | exact isRf_n | exact isRf_o | assumption) ?_
  refine g_iconst (v := 0) dL_refuses_389 (by decide) ?_
  refine g_iconst (v := 0) dL_refuses_390 (by decide) ?_
  refine g_bipush (v := 31) dL_refuses_391 (by decide) ?_
  refine g_cV3x dL_refuses_393 lL_55 vX9_takes (ct_X9_takes X hO hSys) (hSys.1) rfl ⟨Nat.le_of_ble_eq_true rfl, Nat.le_of_ble_eq_true rfl⟩ (Nat.le_of_ble_eq_true rfl) ⟨Nat.le_of_ble_eq_true rfl, Nat.le_of_ble_eq_true rfl⟩ ?_
  refine g_iconst (v := (-1)) dL_refuses_396 (by decide) ?_
  refine g_icmp_ne (tgt := 517) dL_refuses_397 (by decide) (fun c35 => absurd (rf_takes (by decide)) c35) (fun c35 => ?_)
  refine g_aload_n dL_refuses_400 (by rfl) (by first | exact isRf_r | exact isRf_n | exact isRf_o | assumption) ?_
  refine g_iconst (v := 4) dL_refuses_401 (by decide) ?_
  refine g_iconst (v := 0) dL_refuses_402 (by decide) ?_
  refine g_cV2x dL_refuses_403 lL_15 vX9_account (ct_X9_account X hO hSys) (hSys.1) rfl ⟨Nat.le_of_ble_eq_true rfl, Nat.le_of_ble_eq_true rfl⟩ (Nat.le_of_ble_eq_true rfl) ⟨Nat.le_of_ble_eq_true rfl, Nat.le_of_ble_eq_true rfl⟩ ?_
  refine g_iconst (v := (-1)) dL_refuses_406 (by decide) ?_
  refine g_icmp_ne (tgt := 517) dL_refuses_407 (by decide) (fun c36 => absurd (rf_account (by decide)) c36) (fun c36 => ?_)
  refine g_aload_n dL_refuses_410 (by rfl) (by first | exact isRf_r | exact isRf_n | exact isRf_o | assumption) ?_
  refine g_iconst (v := 0) dL_refuses_411 (by decide) ?_
  refine g_bipush (v := 6) dL_refuses_412 (by decide) ?_
  refine g_cV2x dL_refuses_414 lL_15 vX9_account (ct_X9_account X hO hSys) (hSys.1) rfl ⟨Nat.le_of_ble_eq_true rfl, Nat.le_of_ble_eq_true rfl⟩ (Nat.le_of_ble_eq_true rfl) ⟨Nat.le_of_ble_eq_true rfl, Nat.le_of_ble_eq_true rfl⟩ ?_
  refine g_iconst (v := (-1)) dL_refuses_417 (by decide) ?_
  refine g_icmp_ne (tgt := 517) dL_refuses_418 (by decide) (fun c37 => absurd (rf_account (by decide)) c37) (fun c37 => ?_)
  refine g_aload_n dL_refuses_421 (by rfl) (by first | exact isRf_r | exact isRf_n | exact isRf_o | assumption) ?_
  refine g_bipush (v := 12) dL_refuses_422 (by decide) ?_
  refine g_cV1x dL_refuses_424 lL_9 vX9_count (ct_X9_count X hO hSys) (hSys.1) rfl ⟨Nat.le_of_ble_eq_true rfl, Nat.le_of_ble_eq_true rfl⟩ (Nat.le_of_ble_eq_true rfl) ⟨Nat.le_of_ble_eq_true rfl, Nat.le_of_ble_eq_true rfl⟩ ?_
  refine g_iconst (v := (-1)) dL_refuses_427 (by decide) ?_
  refine g_icmp_ne (tgt := 517) dL_refuses_428 (by decide) (fun c38 => absurd (rf_count (by decide) (by decide)) c38) (fun c38 => ?_)
  refine g_aload_n dL_refuses_431 (by rfl) (by first | exact isRf_r | exact isRf_n | exact isRf_o | assumption) ?_
  refine g_bipush (v := 27) dL_refuses_432 (by decide) ?_
  refine g_cV1x dL_refuses_434 lL_9 vX9_count (ct_X9_count X hO hSys) (hSys.1) rfl ⟨Nat.le_of_ble_eq_true rfl, Nat.le_of_ble_eq_true rfl⟩ (Nat.le_of_ble_eq_true rfl) ⟨Nat.le_of_ble_eq_true rfl, Nat.le_of_ble_eq_true rfl⟩ ?_
  refine g_iconst (v := (-1)) dL_refuses_437 (by decide) ?_
  refine g_icmp_ne (tgt := 517) dL_refuses_438 (by decide) (fun c39 => absurd (rf_count (by decide) (by decide)) c39) (fun c39 => ?_)
  refine g_aload_n dL_refuses_441 (by rfl) (by first | exact isRf_r | exact isRf_n | exact isRf_o | assumption) ?_
  refine g_bipush (v := 7) dL_refuses_442 (by decide) ?_
  refine g_iconst (v := 1) dL_refuses_444 (by decide) ?_
  refine g_cV2 dL_refuses_445 lL_108 vX9_set (ct_X9_set X hSep hn hO hSys) (hSys.1) rfl ⟨Nat.le_of_ble_eq_true rfl, Nat.le_of_ble_eq_true rfl⟩ (Nat.le_of_ble_eq_true rfl) ⟨Nat.le_of_ble_eq_true rfl, Nat.le_of_ble_eq_true rfl⟩ ?_
  rintro _ hh ⟨rfl, hT⟩
  obtain ⟨D, R⟩ := R.no hT (rf_set (by decide)) (by decide)
  obtain ⟨hSep, hSys, hn, hO, hO2, hSnd, hTk, hRs, hFr⟩ := id R
  refine g_stk (st' := [.int (-1)]) (congrArg (fun z : Int32 × (Nat → Int32) => [Value.int z.1]) (rf_set (by decide))) ?_
  refine g_iconst (v := (-1)) dL_refuses_448 (by decide) ?_
  refine g_icmp_ne (tgt := 517) dL_refuses_449 (by decide) (fun c40 => absurd rfl c40) (fun c40 => ?_)
  refine g_aload_n dL_refuses_452 (by rfl) (by first | exact isRf_r | exact isRf_n | exact isRf_o | assumption) ?_
  refine g_iconst (v := 0) dL_refuses_453 (by decide) ?_
  refine g_iconst (v := 0) dL_refuses_454 (by decide) ?_
  refine g_cV2 dL_refuses_455 lL_108 vX9_set (ct_X9_set X hSep hn hO hSys) (hSys.1) rfl ⟨Nat.le_of_ble_eq_true rfl, Nat.le_of_ble_eq_true rfl⟩ (Nat.le_of_ble_eq_true rfl) ⟨Nat.le_of_ble_eq_true rfl, Nat.le_of_ble_eq_true rfl⟩ ?_
  rintro _ hh ⟨rfl, hT⟩
  obtain ⟨D, R⟩ := R.no hT (rf_set (by decide)) (by decide)
  obtain ⟨hSep, hSys, hn, hO, hO2, hSnd, hTk, hRs, hFr⟩ := id R
  refine g_stk (st' := [.int (-1)]) (congrArg (fun z : Int32 × (Nat → Int32) => [Value.int z.1]) (rf_set (by decide))) ?_
  refine g_iconst (v := (-1)) dL_refuses_458 (by decide) ?_
  refine g_icmp_ne (tgt := 517) dL_refuses_459 (by decide) (fun c41 => absurd rfl c41) (fun c41 => ?_)
  refine g_aload_n dL_refuses_462 (by rfl) (by first | exact isRf_r | exact isRf_n | exact isRf_o | assumption) ?_
  refine g_iconst (v := 2) dL_refuses_463 (by decide) ?_
  refine g_bipush (v := 9) dL_refuses_464 (by decide) ?_
  refine g_cV2 dL_refuses_466 lL_108 vX9_set (ct_X9_set X hSep hn hO hSys) (hSys.1) rfl ⟨Nat.le_of_ble_eq_true rfl, Nat.le_of_ble_eq_true rfl⟩ (Nat.le_of_ble_eq_true rfl) ⟨Nat.le_of_ble_eq_true rfl, Nat.le_of_ble_eq_true rfl⟩ ?_
  rintro _ hh ⟨rfl, hT⟩
  obtain ⟨D, R⟩ := R.no hT (rf_set (by decide)) (by decide)
  obtain ⟨hSep, hSys, hn, hO, hO2, hSnd, hTk, hRs, hFr⟩ := id R
  refine g_stk (st' := [.int (-1)]) (congrArg (fun z : Int32 × (Nat → Int32) => [Value.int z.1]) (rf_set (by decide))) ?_
  refine g_iconst (v := (-1)) dL_refuses_469 (by decide) ?_
  refine g_icmp_ne (tgt := 517) dL_refuses_470 (by decide) (fun c42 => absurd rfl c42) (fun c42 => ?_)
  refine g_aload_n dL_refuses_473 (by rfl) (by first | exact isRf_r | exact isRf_n | exact isRf_o | assumption) ?_
  refine g_iconst (v := 5) dL_refuses_474 (by decide) ?_
  refine g_bipush (v := 51) dL_refuses_475 (by decide) ?_
  refine g_cV2 dL_refuses_477 lL_108 vX9_set (ct_X9_set X hSep hn hO hSys) (hSys.1) rfl ⟨Nat.le_of_ble_eq_true rfl, Nat.le_of_ble_eq_true rfl⟩ (Nat.le_of_ble_eq_true rfl) ⟨Nat.le_of_ble_eq_true rfl, Nat.le_of_ble_eq_true rfl⟩ ?_
  rintro _ hh ⟨rfl, hT⟩
  obtain ⟨D, R⟩ := R.no hT (rf_set (by decide)) (by decide)
  obtain ⟨hSep, hSys, hn, hO, hO2, hSnd, hTk, hRs, hFr⟩ := id R
  refine g_stk (st' := [.int (-1)]) (congrArg (fun z : Int32 × (Nat → Int32) => [Value.int z.1]) (rf_set (by decide))) ?_
  refine g_iconst (v := (-1)) dL_refuses_480 (by decide) ?_
  refine g_icmp_ne (tgt := 517) dL_refuses_481 (by decide) (fun c43 => absurd rfl c43) (fun c43 => ?_)
  refine g_aload_n dL_refuses_484 (by rfl) (by first | exact isRf_r | exact isRf_n | exact isRf_o | assumption) ?_
  refine g_bipush (v := 31) dL_refuses_485 (by decide) ?_
  refine g_cV1 dL_refuses_487 lL_64 vX9_type (ct_X9_type X hSep hTk hSys) (hSys.1) rfl ⟨Nat.le_of_ble_eq_true rfl, Nat.le_of_ble_eq_true rfl⟩ (Nat.le_of_ble_eq_true rfl) ⟨Nat.le_of_ble_eq_true rfl, Nat.le_of_ble_eq_true rfl⟩ ?_
  rintro _ hh ⟨rfl, hT⟩
  obtain ⟨D, R⟩ := R.noT hT (by decide)
  obtain ⟨hSep, hSys, hn, hO, hO2, hSnd, hTk, hRs, hFr⟩ := id R
  refine g_stk (st' := [.int (-1)]) (congrArg (fun z => [Value.int z]) (rf_type (by decide))) ?_
  refine g_iconst (v := (-1)) dL_refuses_490 (by decide) ?_
  refine g_icmp_ne (tgt := 517) dL_refuses_491 (by decide) (fun c44 => absurd rfl c44) (fun c44 => ?_)
  refine g_aload_n dL_refuses_494 (by rfl) (by first | exact isRf_r | exact isRf_n | exact isRf_o | assumption) ?_
  refine g_bipush (v := 127) dL_refuses_495 (by decide) ?_
  refine g_cV1 dL_refuses_497 lL_64 vX9_type (ct_X9_type X hSep hTk hSys) (hSys.1) rfl ⟨Nat.le_of_ble_eq_true rfl, Nat.le_of_ble_eq_true rfl⟩ (Nat.le_of_ble_eq_true rfl) ⟨Nat.le_of_ble_eq_true rfl, Nat.le_of_ble_eq_true rfl⟩ ?_
  rintro _ hh ⟨rfl, hT⟩
  obtain ⟨D, R⟩ := R.noT hT (by decide)
  obtain ⟨hSep, hSys, hn, hO, hO2, hSnd, hTk, hRs, hFr⟩ := id R
  refine g_stk (st' := [.int (-1)]) (congrArg (fun z => [Value.int z]) (rf_type (by decide))) ?_
  refine g_iconst (v := (-1)) dL_refuses_500 (by decide) ?_
  refine g_icmp_ne (tgt := 517) dL_refuses_501 (by decide) (fun c45 => absurd rfl c45) (fun c45 => ?_)
  refine g_aload_n dL_refuses_504 (by rfl) (by first | exact isRf_r | exact isRf_n | exact isRf_o | assumption) ?_
  refine g_iconst (v := 3) dL_refuses_505 (by decide) ?_
  refine g_cV1 dL_refuses_506 lL_70 vX9_fault (ct_X9_fault X hSep hn hO hSys hTk) (hSys.1) rfl ⟨Nat.le_of_ble_eq_true rfl, Nat.le_of_ble_eq_true rfl⟩ (Nat.le_of_ble_eq_true rfl) ⟨Nat.le_of_ble_eq_true rfl, Nat.le_of_ble_eq_true rfl⟩ ?_
  rintro _ hh ⟨rfl, hT⟩
  obtain ⟨D, R⟩ := R.same hT
  obtain ⟨hSep, hSys, hn, hO, hO2, hSnd, hTk, hRs, hFr⟩ := id R
  refine g_stk (st' := [.int (-1)]) (congrArg (fun z => [Value.int z]) (rf_fault (by decide))) ?_
  refine g_iconst (v := (-1)) dL_refuses_509 (by decide) ?_
  refine g_icmp_ne (tgt := 517) dL_refuses_510 (by decide) (fun c46 => absurd rfl c46) (fun c46 => ?_)
  refine g_iconst (v := 1) dL_refuses_513 (by decide) ?_
  refine g_goto (tgt := 518) dL_refuses_514 (by decide) ?_
  refine g_istore (L1 := [(0, _), (1, _), (2, _), (3, _), (4, _), (5, _)]) dL_refuses_518 (by decide) (by rfl) ?_
  refine g_iload dL_refuses_520 (by rfl) ?_
  refine g_if_eq (tgt := 568) dL_refuses_522 (by decide) (fun c47 => absurd c47 (by decide)) (fun c47 => ?_)
  refine g_aload_n dL_refuses_525 (by rfl) (by first | exact isRf_r | exact isRf_n | exact isRf_o | assumption) ?_
  refine g_bipush (v := 10) dL_refuses_526 (by decide) ?_
  refine g_cV1x dL_refuses_528 lL_9 vX9_count (ct_X9_count X hO hSys) (hSys.1) rfl ⟨Nat.le_of_ble_eq_true rfl, Nat.le_of_ble_eq_true rfl⟩ (Nat.le_of_ble_eq_true rfl) ⟨Nat.le_of_ble_eq_true rfl, Nat.le_of_ble_eq_true rfl⟩ ?_
  refine g_iload_n dL_refuses_531 (by rfl) ?_
  refine g_icmp_ne (tgt := 568) dL_refuses_532 (by decide) (fun c48 => absurd rfl c48) (fun c48 => ?_)
  refine g_aload_n dL_refuses_535 (by rfl) (by first | exact isRf_r | exact isRf_n | exact isRf_o | assumption) ?_
  refine g_iconst (v := 0) dL_refuses_536 (by decide) ?_
  refine g_cV1x dL_refuses_537 lL_9 vX9_count (ct_X9_count X hO hSys) (hSys.1) rfl ⟨Nat.le_of_ble_eq_true rfl, Nat.le_of_ble_eq_true rfl⟩ (Nat.le_of_ble_eq_true rfl) ⟨Nat.le_of_ble_eq_true rfl, Nat.le_of_ble_eq_true rfl⟩ ?_
  refine g_iload_n dL_refuses_540 (by rfl) ?_
  refine g_icmp_ne (tgt := 568) dL_refuses_541 (by decide) (fun c49 => absurd rfl c49) (fun c49 => ?_)
  refine g_aload_n dL_refuses_544 (by rfl) (by first | exact isRf_r | exact isRf_n | exact isRf_o | assumption) ?_
  refine g_iconst (v := 1) dL_refuses_545 (by decide) ?_
  refine g_cV1x dL_refuses_546 lL_9 vX9_count (ct_X9_count X hO hSys) (hSys.1) rfl ⟨Nat.le_of_ble_eq_true rfl, Nat.le_of_ble_eq_true rfl⟩ (Nat.le_of_ble_eq_true rfl) ⟨Nat.le_of_ble_eq_true rfl, Nat.le_of_ble_eq_true rfl⟩ ?_
  refine g_iload_n dL_refuses_549 (by rfl) ?_
  refine g_icmp_ne (tgt := 568) dL_refuses_550 (by decide) (fun c50 => absurd rfl c50) (fun c50 => ?_)
  refine g_aload_n dL_refuses_553 (by rfl) (by first | exact isRf_r | exact isRf_n | exact isRf_o | assumption) ?_
  refine g_bipush (v := 7) dL_refuses_554 (by decide) ?_
  refine g_cV1x dL_refuses_556 lL_9 vX9_count (ct_X9_count X hO hSys) (hSys.1) rfl ⟨Nat.le_of_ble_eq_true rfl, Nat.le_of_ble_eq_true rfl⟩ (Nat.le_of_ble_eq_true rfl) ⟨Nat.le_of_ble_eq_true rfl, Nat.le_of_ble_eq_true rfl⟩ ?_
  refine g_iload dL_refuses_559 (by rfl) ?_
  refine g_icmp_ne (tgt := 568) dL_refuses_561 (by decide) (fun c51 => absurd rfl c51) (fun c51 => ?_)
  refine g_iconst (v := 1) dL_refuses_564 (by decide) ?_
  refine g_goto (tgt := 569) dL_refuses_565 (by decide) ?_
  refine g_zret dL_refuses_569 rfl (by decide) (Nat.le_refl _) (Nat.le_refl _) ?_
  exact ⟨rfl, D, _, _, _, _, _, R, hz⟩
