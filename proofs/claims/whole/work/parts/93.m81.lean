set_option maxHeartbeats 4000000 in
set_option maxRecDepth 100000 in
theorem law_G (X : Cx) {nm : String} {b L : Nat} {xs : Nat → Int32} {h : Hp} (hL : L ≤ 2560) (hb : h b = some (sI L xs)) (hst : StatAt X h) : G X "DarkVatsLaw" cL_law 4 ret nm room_1 (Qlaw X b) 0 0 0 [(0, .ref b)] [] h := by
  refine g_new (ci := 9) (fs := [.null, .null, .null, .null, .null, .null]) dL_law_0 rfl qL_7 kX9_w kX9_n tyX9_ok (by intro j hj; revert j; decide) (Nat.le_of_ble_eq_true rfl) (Nat.le_of_ble_eq_true rfl) ?_
  intro a9 hn_a9
  refine g_dup dL_law_3 (by rfl) ?_
  refine g_cI0 dL_law_4 lL_9 vX9_init (ct_X9_init X hu_same (hst.hu0 hn_a9)) ⟨Nat.le_of_ble_eq_true rfl, Nat.le_of_ble_eq_true rfl⟩ (Nat.le_of_ble_eq_true rfl) ⟨Nat.le_of_ble_eq_true rfl, Nat.le_of_ble_eq_true rfl⟩ ?_
  rintro _ h1 ⟨rfl, A, B, m, C, hm0, hSep, hSys, hKp, hout⟩
  subst hm0
  have nb9 : b ≠ m 0 := Ne.symm (no_ne hn_a9 hb)
  have hb1 : h1 b = some (sI L xs) := hKp b _ nb9 (hu_n1 nb9 hb)
  have ob9 : outS A B m C b := hout b _ nb9 (hu_n1 nb9 hb)
  obtain ⟨-, -, -, -, -, -, -, -, -, -, -, -, hst1⟩ := id hSys
  refine g_astore_n (L1 := [(0, _), (1, _)]) dL_law_7 (by first | exact isRf_r | exact isRf_n | exact isRf_o | assumption) (by decide) (by rfl) ?_
  refine g_new (ci := 10) (fs := [.null, .null, .int 0, .null, .null, .int 0, .null, .int 0, .int 0, .null, .int 0, .null]) dL_law_8 rfl qL_10 kX10_w kX10_n tyX10_ok (by intro j hj; revert j; decide) (Nat.le_of_ble_eq_true rfl) (Nat.le_of_ble_eq_true rfl) ?_
  intro a10 hn_a10
  refine g_dup dL_law_11 (by rfl) ?_
  refine g_cI0 dL_law_12 lL_12 vX10_init (ct_X10_init X hu_same) ⟨Nat.le_of_ble_eq_true rfl, Nat.le_of_ble_eq_true rfl⟩ (Nat.le_of_ble_eq_true rfl) ⟨Nat.le_of_ble_eq_true rfl, Nat.le_of_ble_eq_true rfl⟩ ?_
  rintro _ h2 ⟨rfl, M, hM0, hMd, hfr, hfresh⟩
  subst hM0
  have nn : ∀ i, i < 8 → h1 (M i) = none := by
    intro i hi
    rcases Nat.eq_zero_or_pos i with z | z
    · rw [z]
      exact hn_a10
    · exact (hu_fresh (hfresh i z hi)).2
  have oM : ∀ i, i < 8 → outS A B m C (M i) := fun i hi => outS_new hSys (nn i hi)
  have om0 : outM M b := fun i hi => Ne.symm (no_ne (nn i hi) hb1)
  have host : ∀ i, i < 3 → outM M (X.2.2.2.2 i) := by
    intro i hi j hj
    rcases (show i = 0 ∨ i = 1 ∨ i = 2 by omega) with rfl | rfl | rfl
    · exact Ne.symm (no_ne (nn j hj) hst1.1)
    · exact Ne.symm (no_ne (nn j hj) hst1.2.1)
    · exact Ne.symm (no_ne (nn j hj) hst1.2.2)
  have fr : ∀ q, outM M q → h2 q = h1 q := fun q hq => (hfr q hq).trans (hu_ne (hq 0 (by omega)))
  have I : LInv X h2 A B m M b L xs C row0 0 (fun _ _ => 0) 0 zrow := ⟨hSep, hSys.kept (fun q hq => fr q (fun i hi e => hq (by rw [e]; exact oM i hi))) (fun i hi => fr _ (host i hi)), hMd, by omega, Ok_0, Ok2_0, TOk_0, fun k hk => absurd hk (by omega), oM, ob9, om0, host, (fr b om0).trans hb1⟩
  refine g_astore_n (L1 := [(0, _), (1, _), (2, _)]) dL_law_15 (by first | exact isRf_r | exact isRf_n | exact isRf_o | assumption) (by decide) (by rfl) ?_
  refine g_iconst (v := 0) dL_law_16 (by decide) ?_
  refine g_istore_n (L1 := [(0, _), (1, _), (2, _), (3, _)]) dL_law_17 (by decide) (by rfl) ?_
  exact law_loop X hL 0 (Nat.zero_le _) h2 C row0 0 _ 0 zrow I
