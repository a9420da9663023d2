set_option maxHeartbeats 4000000 in
set_option maxRecDepth 100000 in
theorem ct_X10_fault (X : Cx) {h : Hp} {M : Nat → Nat} {r : Nat → Int32} {n tn : Nat} {rows : Nat → Nat → Int32} {tg : Nat → Int32} {w : Int32}  (hk : TOk tn tg) (hn : n ≤ 4) (hO : Ok r) (hO2 : Ok2 r) (hD : MdAt X h M r n rows tn tg) : Ct X mX10_fault 7 0 0 [.ref (M 0), .int w] h (fun u h1 => u = some (.int (F_fault tn tg r w)) ∧ MdTo X h h1 M r n rows tn tg) := by
  obtain ⟨s0, hS⟩ := id hD
  have hM := hS.mo
  obtain ⟨⟨n2, st, n3, n4, le, n5, at0, lt, n6, fl, n7, m0⟩, m1⟩ := id hM
  unfold mdl at m0
  have dA := hM.ne
  refine Ct.ofG vX10_fault.1.2.2.1 (Nat.le_of_ble_eq_true rfl) ?_
  show G X RX10 cX10_fault 3 (some .int) "fault" (Rm 7 0 0) (Fm X (fun u h1 => u = some (.int (F_fault tn tg r w)) ∧ MdTo X h h1 M r n rows tn tg) 0 0) 0 0 0 [(0, .ref (M 0)), (1, .int w)] [] h
  refine g_iload_n dX10_fault_0 (by rfl) ?_
  refine g_iconst (v := 0) dX10_fault_1 (by decide) ?_
  refine g_iconst (v := 2) dX10_fault_2 (by decide) ?_
  refine g_cS3x dX10_fault_3 lX10_31 rfl vX10_in (ct_X10_in X) ⟨Nat.le_of_ble_eq_true rfl, Nat.le_of_ble_eq_true rfl⟩ (Nat.le_of_ble_eq_true rfl) ⟨Nat.le_of_ble_eq_true rfl, Nat.le_of_ble_eq_true rfl⟩ ?_
  refine g_if_ne (tgt := 11) dX10_fault_6 (by decide) (fun c1 => ?_) (fun c1 => ?_)
  · skip
    have hg := bI_1 c1
    obtain ⟨j, hj, rfl⟩ := sw_in (m := 2) (by omega) hg
    refine g_aload_n dX10_fault_11 (by rfl) (by first | exact isRf_r | exact isRf_n | exact isRf_o | assumption) ?_
    refine g_cV0v dX10_fault_12 lX10_61 vX10_asides (ct_mAsides X hD).1 (by first | exact m0 | exact k0 | exact hx0 | exact (hr_o n71).trans y7 | exact hr_a dA hx0) rfl ⟨Nat.le_of_ble_eq_true rfl, Nat.le_of_ble_eq_true rfl⟩ (Nat.le_of_ble_eq_true rfl) ⟨Nat.le_of_ble_eq_true rfl, Nat.le_of_ble_eq_true rfl⟩ ?_
    have hS1 := (ct_mAsides X hD).2.1
    have hf1 := (ct_mAsides X hD).2.2
    generalize hu h (M 3) (oI X 643 (nr 643 r)) = hh at hS1 hf1 ⊢
    have hM1 := hS1.mo
    obtain ⟨⟨n2', st', n3', n4', le', n5', at0', lt', n6', fl', n7', k0⟩, k1⟩ := id hM1
    unfold mdl at k0
    refine g_aload_n dX10_fault_15 (by rfl) (by first | exact isRf_r | exact isRf_n | exact isRf_o | assumption) ?_
    obtain ⟨RES, hRES⟩ : ∃ RES, plF tn tg 60 r 0 0 = RES := ⟨_, rfl⟩
    refine g_cV0 dX10_fault_16 lX10_214 vX10_plays (ct_X10_plays X hk hS1 hO hO2 hRES) (by first | exact m0 | exact k0 | exact hx0 | exact (hr_o n71).trans y7 | exact hr_a dA hx0) rfl ⟨Nat.le_of_ble_eq_true rfl, Nat.le_of_ble_eq_true rfl⟩ (Nat.le_of_ble_eq_true rfl) ⟨Nat.le_of_ble_eq_true rfl, Nat.le_of_ble_eq_true rfl⟩ ?_
    rintro u h2 ⟨r2, hS2, hf2, hU⟩
    obtain ⟨px, lx, fx, hx0⟩ := md_m hS2
    have n71 : M 7 ≠ M 1 := hS2.ne (by omega) (by omega) (by omega)
    have hfr : ∀ q, outM M q → h2 q = h q := fun q hq => (hf2 q hq).trans (hf1 q hq)
    rcases RES with ⟨_ | ⟨q, y, z⟩, r3, kk⟩
    · skip
      obtain ⟨rfl, hr2⟩ := hU
      obtain ⟨-, -, -, -, -, -, -, -, w7, y7⟩ := id hS2
      refine g_stk (st' := [.int _]) rfl ?_
      have hkk := plF_k (n := tn) (g := tg) (f := 60) (r := r) (p := 0) (k := 0)
      rw [hRES] at hkk
      have hk0 := nI_ge0 (n := kk) (show kk < 1000 from by have z : kk ≤ 0 + 60 := hkk; omega)
      refine g_istore_n (L1 := [(0, _), (1, _), (2, _)]) dX10_fault_19 (by decide) (by rfl) ?_
      refine g_aload_n dX10_fault_20 (by rfl) (by first | exact isRf_r | exact isRf_n | exact isRf_o | assumption) ?_
      refine g_cV0v dX10_fault_21 lX10_46 vX10_backs (ct_mBacks X hS2) (by first | exact m0 | exact k0 | exact hx0 | exact (hr_o n71).trans y7 | exact hr_a dA hx0) rfl ⟨Nat.le_of_ble_eq_true rfl, Nat.le_of_ble_eq_true rfl⟩ (Nat.le_of_ble_eq_true rfl) ⟨Nat.le_of_ble_eq_true rfl, Nat.le_of_ble_eq_true rfl⟩ ?_
      refine g_iload_n dX10_fault_24 (by rfl) ?_
      refine g_if_ge (tgt := 37) dX10_fault_25 (by decide) (fun c2 => ?_) (fun c2 => ?_)
      · skip
        have h4 : (0 : Int32) ≤ _ := c2
        refine g_bipush (v := (-4)) dX10_fault_37 (by decide) ?_
        refine g_iret dX10_fault_39 rfl (Nat.le_refl _) (Nat.le_refl _) ?_
        have eF : F_fault tn tg r (nI j) = fltA (plF tn tg 60 r 0 0).1 j := by
          unfold F_fault
          rw [hg, cl_nI (by omega)]
          rfl
        rw [eF, hRES]
        first
          | exact absurd h4 hk0
          | exact absurd h4 (by decide)
          | exact ⟨rfl, ⟨⟨r, hS2.row⟩, fun q hq => (hr_out q hq).trans (hfr q hq)⟩⟩
          | (refine ⟨?_, ⟨⟨r, hS2.row⟩, fun q hq => (hr_out q hq).trans (hfr q hq)⟩⟩
             rw [nr_lt (show j < 3 by omega)]
             rcases (show j = 0 ∨ j = 1 ∨ j = 2 by omega) with rfl | rfl | rfl
             · rw [w0]; rfl
             · rw [w1]; rfl
             · rw [w2]; rfl)
      · skip
        have h4 := i_lt0 c2
        refine g_aload_n dX10_fault_28 (by rfl) (by first | exact isRf_r | exact isRf_n | exact isRf_o | assumption) ?_
        refine g_getf dX10_fault_29 fX10_28 (by first | exact m0 | exact k0 | exact hx0 | exact (hr_o n71).trans y7 | exact hr_a dA hx0) (by rfl) ?_
        refine g_iload_n dX10_fault_32 (by rfl) ?_
        refine g_iaN dX10_fault_33 (by first | exact m0 | exact k0 | exact hx0 | exact (hr_o n71).trans y7 | exact hr_a dA hx0) (show j < 3 by omega) (by omega) (by rfl) ?_
        refine g_goto (tgt := 39) dX10_fault_34 (by decide) ?_
        refine g_iret dX10_fault_39 rfl (Nat.le_refl _) (Nat.le_refl _) ?_
        have eF : F_fault tn tg r (nI j) = fltA (plF tn tg 60 r 0 0).1 j := by
          unfold F_fault
          rw [hg, cl_nI (by omega)]
          rfl
        rw [eF, hRES]
        first
          | exact absurd h4 hk0
          | exact absurd h4 (by decide)
          | exact ⟨rfl, ⟨⟨r, hS2.row⟩, fun q hq => (hr_out q hq).trans (hfr q hq)⟩⟩
          | (refine ⟨?_, ⟨⟨r, hS2.row⟩, fun q hq => (hr_out q hq).trans (hfr q hq)⟩⟩
             rw [nr_lt (show j < 3 by omega)]
             rcases (show j = 0 ∨ j = 1 ∨ j = 2 by omega) with rfl | rfl | rfl
             · rw [w0]; rfl
             · rw [w1]; rfl
             · rw [w2]; rfl)
    · skip
      obtain ⟨rfl, wm, y7, w0, w1, w2⟩ := hU
      refine g_stk (st' := [.int _]) rfl ?_
      refine g_istore_n (L1 := [(0, _), (1, _), (2, _)]) dX10_fault_19 (by decide) (by rfl) ?_
      refine g_aload_n dX10_fault_20 (by rfl) (by first | exact isRf_r | exact isRf_n | exact isRf_o | assumption) ?_
      refine g_cV0v dX10_fault_21 lX10_46 vX10_backs (ct_mBacks X hS2) (by first | exact m0 | exact k0 | exact hx0 | exact (hr_o n71).trans y7 | exact hr_a dA hx0) rfl ⟨Nat.le_of_ble_eq_true rfl, Nat.le_of_ble_eq_true rfl⟩ (Nat.le_of_ble_eq_true rfl) ⟨Nat.le_of_ble_eq_true rfl, Nat.le_of_ble_eq_true rfl⟩ ?_
      refine g_iload_n dX10_fault_24 (by rfl) ?_
      refine g_if_ge (tgt := 37) dX10_fault_25 (by decide) (fun c3 => ?_) (fun c3 => ?_)
      · skip
        have h4 : (0 : Int32) ≤ _ := c3
        refine g_bipush (v := (-4)) dX10_fault_37 (by decide) ?_
        refine g_iret dX10_fault_39 rfl (Nat.le_refl _) (Nat.le_refl _) ?_
        have eF : F_fault tn tg r (nI j) = fltA (plF tn tg 60 r 0 0).1 j := by
          unfold F_fault
          rw [hg, cl_nI (by omega)]
          rfl
        rw [eF, hRES]
        first
          | exact absurd h4 hk0
          | exact absurd h4 (by decide)
          | exact ⟨rfl, ⟨⟨r, hS2.row⟩, fun q hq => (hr_out q hq).trans (hfr q hq)⟩⟩
          | (refine ⟨?_, ⟨⟨r, hS2.row⟩, fun q hq => (hr_out q hq).trans (hfr q hq)⟩⟩
             rw [nr_lt (show j < 3 by omega)]
             rcases (show j = 0 ∨ j = 1 ∨ j = 2 by omega) with rfl | rfl | rfl
             · rw [w0]; rfl
             · rw [w1]; rfl
             · rw [w2]; rfl)
      · skip
        have h4 := i_lt0 c3
        refine g_aload_n dX10_fault_28 (by rfl) (by first | exact isRf_r | exact isRf_n | exact isRf_o | assumption) ?_
        refine g_getf dX10_fault_29 fX10_28 (by first | exact m0 | exact k0 | exact hx0 | exact (hr_o n71).trans y7 | exact hr_a dA hx0) (by rfl) ?_
        refine g_iload_n dX10_fault_32 (by rfl) ?_
        refine g_iaN dX10_fault_33 (by first | exact m0 | exact k0 | exact hx0 | exact (hr_o n71).trans y7 | exact hr_a dA hx0) (show j < 3 by omega) (by omega) (by rfl) ?_
        refine g_goto (tgt := 39) dX10_fault_34 (by decide) ?_
        refine g_iret dX10_fault_39 rfl (Nat.le_refl _) (Nat.le_refl _) ?_
        have eF : F_fault tn tg r (nI j) = fltA (plF tn tg 60 r 0 0).1 j := by
          unfold F_fault
          rw [hg, cl_nI (by omega)]
          rfl
        rw [eF, hRES]
        first
          | exact absurd h4 hk0
          | exact absurd h4 (by decide)
          | exact ⟨rfl, ⟨⟨r, hS2.row⟩, fun q hq => (hr_out q hq).trans (hfr q hq)⟩⟩
          | (refine ⟨?_, ⟨⟨r, hS2.row⟩, fun q hq => (hr_out q hq).trans (hfr q hq)⟩⟩
             rw [nr_lt (show j < 3 by omega)]
             rcases (show j = 0 ∨ j = 1 ∨ j = 2 by omega) with rfl | rfl | rfl
             · rw [w0]; rfl
             · rw [w1]; rfl
             · rw [w2]; rfl)
  · skip
    have eF : F_fault tn tg r w = -1 := by
      unfold F_fault
      rw [show rngB 0 2 w = false from bI_0 c1]
      rfl
    refine g_iconst (v := (-1)) dX10_fault_9 (by decide) ?_
    refine g_iret dX10_fault_10 rfl (Nat.le_refl _) (Nat.le_refl _) ?_
    rw [eF]
    exact ⟨rfl, hD, fun q _ => rfl⟩

set_option maxHeartbeats 4000000 in
set_option maxRecDepth 100000 in
theorem ct_X10_play (X : Cx) {h : Hp} {M : Nat → Nat} {r : Nat → Int32} {n tn : Nat} {rows : Nat → Nat → Int32} {tg : Nat → Int32}  (hk : TOk tn tg) (hn : n ≤ 4) (hO : Ok r) (hO2 : Ok2 r) (hD : MdAt X h M r n rows tn tg) : Ct X mX10_play 7 0 0 [.ref (M 0)] h (fun u h1 => u = some (.int (F_play tn tg r).1) ∧ MdTo X h h1 M (F_play tn tg r).2 (sysN (F_play tn tg r).1 n) (sysR (F_play tn tg r).1 n r rows) tn tg) := by
  obtain ⟨s0, hS⟩ := id hD
  have hM := hS.mo
  obtain ⟨⟨n2, st, n3, n4, le, n5, at0, lt, n6, fl, n7, m0⟩, m1⟩ := id hM
  unfold mdl at m0
  have dA := hM.ne
  refine Ct.ofG vX10_play.1.2.2.1 (Nat.le_of_ble_eq_true rfl) ?_
  show G X RX10 cX10_play 2 (some .int) "play" (Rm 7 0 0) (Fm X (fun u h1 => u = some (.int (F_play tn tg r).1) ∧ MdTo X h h1 M (F_play tn tg r).2 (sysN (F_play tn tg r).1 n) (sysR (F_play tn tg r).1 n r rows) tn tg) 0 0) 0 0 0 [(0, .ref (M 0))] [] h
  refine g_aload_n dX10_play_0 (by rfl) (by first | exact isRf_r | exact isRf_n | exact isRf_o | assumption) ?_
  refine g_cV0v dX10_play_1 lX10_61 vX10_asides (ct_mAsides X hD).1 (by first | exact m0 | exact k0 | exact hx0 | exact hr_a dA hx0) rfl ⟨Nat.le_of_ble_eq_true rfl, Nat.le_of_ble_eq_true rfl⟩ (Nat.le_of_ble_eq_true rfl) ⟨Nat.le_of_ble_eq_true rfl, Nat.le_of_ble_eq_true rfl⟩ ?_
  have hS1 := (ct_mAsides X hD).2.1
  have hf1 := (ct_mAsides X hD).2.2
  generalize hu h (M 3) (oI X 643 (nr 643 r)) = hh at hS1 hf1 ⊢
  have hM1 := hS1.mo
  obtain ⟨⟨n2', st', n3', n4', le', n5', at0', lt', n6', fl', n7', k0⟩, k1⟩ := id hM1
  unfold mdl at k0
  refine g_aload_n dX10_play_4 (by rfl) (by first | exact isRf_r | exact isRf_n | exact isRf_o | assumption) ?_
  obtain ⟨RES, hRES⟩ : ∃ RES, plF tn tg 60 r 0 0 = RES := ⟨_, rfl⟩
  refine g_cV0 dX10_play_5 lX10_214 vX10_plays (ct_X10_plays X hk hS1 hO hO2 hRES) (by first | exact m0 | exact k0 | exact hx0 | exact hr_a dA hx0) rfl ⟨Nat.le_of_ble_eq_true rfl, Nat.le_of_ble_eq_true rfl⟩ (Nat.le_of_ble_eq_true rfl) ⟨Nat.le_of_ble_eq_true rfl, Nat.le_of_ble_eq_true rfl⟩ ?_
  rintro u h2 ⟨r2, hS2, hf2, hU⟩
  obtain ⟨px, lx, fx, hx0⟩ := md_m hS2
  have n71 : M 7 ≠ M 1 := hS2.ne (by omega) (by omega) (by omega)
  have hfr : ∀ q, outM M q → h2 q = h q := fun q hq => (hf2 q hq).trans (hf1 q hq)
  rcases RES with ⟨_ | ⟨q, y, z⟩, r3, kk⟩
  · skip
    obtain ⟨rfl, hr2⟩ := hU
    obtain ⟨-, -, -, -, -, -, -, -, w7, y7⟩ := id hS2
    refine g_stk (st' := [.int _]) rfl ?_
    have hkk := plF_k (n := tn) (g := tg) (f := 60) (r := r) (p := 0) (k := 0)
    rw [hRES] at hkk
    have hk0 := nI_ge0 (n := kk) (show kk < 1000 from by have z : kk ≤ 0 + 60 := hkk; omega)
    refine g_istore_n (L1 := [(0, _), (1, _)]) dX10_play_8 (by decide) (by rfl) ?_
    refine g_iload_n dX10_play_9 (by rfl) ?_
    refine g_if_ge (tgt := 20) dX10_play_10 (by decide) (fun c1 => ?_) (fun c1 => ?_)
    · skip
      have h4 : (0 : Int32) ≤ _ := c1
      refine g_aload_n dX10_play_20 (by rfl) (by first | exact isRf_r | exact isRf_n | exact isRf_o | assumption) ?_
      refine g_iload_n dX10_play_21 (by rfl) ?_
      refine g_cV1 dX10_play_22 lX10_68 vX10_done (ct_mDone X hn hS2) (by first | exact m0 | exact k0 | exact hx0 | exact hr_a dA hx0) rfl ⟨Nat.le_of_ble_eq_true rfl, Nat.le_of_ble_eq_true rfl⟩ (Nat.le_of_ble_eq_true rfl) ⟨Nat.le_of_ble_eq_true rfl, Nat.le_of_ble_eq_true rfl⟩ ?_
      rintro _ h3 ⟨rfl, hT⟩
      refine g_stk (st' := [.int _]) rfl ?_
      refine g_iret dX10_play_25 rfl (Nat.le_refl _) (Nat.le_refl _) ?_
      first
        | exact absurd h4 (by decide)
        | (have eF : F_play tn tg r = (nI kk, r3) := by
             unfold F_play
             rw [hRES]
           rw [eF, ← hr2]
           exact ⟨rfl, hT.fr hfr⟩)
    · skip
      have h4 := i_lt0 c1
      refine g_aload_n dX10_play_13 (by rfl) (by first | exact isRf_r | exact isRf_n | exact isRf_o | assumption) ?_
      refine g_cV0v dX10_play_14 lX10_46 vX10_backs (ct_mBacks X hS2) (by first | exact m0 | exact k0 | exact hx0 | exact hr_a dA hx0) rfl ⟨Nat.le_of_ble_eq_true rfl, Nat.le_of_ble_eq_true rfl⟩ (Nat.le_of_ble_eq_true rfl) ⟨Nat.le_of_ble_eq_true rfl, Nat.le_of_ble_eq_true rfl⟩ ?_
      refine g_bipush (v := (-2)) dX10_play_17 (by decide) ?_
      refine g_iret dX10_play_19 rfl (Nat.le_refl _) (Nat.le_refl _) ?_
      first
        | exact absurd h4 hk0
        | (have eF : F_play tn tg r = (-2, r) := by
             unfold F_play
             rw [hRES]
           rw [eF]
           refine ⟨rfl, ?_⟩
           show MdTo X h _ M r (sysN (-2) n) (sysR (-2) n r rows) tn tg
           rw [show sysN (-2) n = n from if_pos (by decide), show sysR (-2) n r rows = rows from if_pos (by decide)]
           exact ⟨⟨r, hS2.row⟩, fun q hq => (hr_out q hq).trans (hfr q hq)⟩)
  · skip
    obtain ⟨rfl, wm, y7, w0, w1, w2⟩ := hU
    refine g_stk (st' := [.int _]) rfl ?_
    refine g_istore_n (L1 := [(0, _), (1, _)]) dX10_play_8 (by decide) (by rfl) ?_
    refine g_iload_n dX10_play_9 (by rfl) ?_
    refine g_if_ge (tgt := 20) dX10_play_10 (by decide) (fun c2 => ?_) (fun c2 => ?_)
    · skip
      have h4 : (0 : Int32) ≤ _ := c2
      refine g_aload_n dX10_play_20 (by rfl) (by first | exact isRf_r | exact isRf_n | exact isRf_o | assumption) ?_
      refine g_iload_n dX10_play_21 (by rfl) ?_
      refine g_cV1 dX10_play_22 lX10_68 vX10_done (ct_mDone X hn hS2) (by first | exact m0 | exact k0 | exact hx0 | exact hr_a dA hx0) rfl ⟨Nat.le_of_ble_eq_true rfl, Nat.le_of_ble_eq_true rfl⟩ (Nat.le_of_ble_eq_true rfl) ⟨Nat.le_of_ble_eq_true rfl, Nat.le_of_ble_eq_true rfl⟩ ?_
      rintro _ h3 ⟨rfl, hT⟩
      refine g_stk (st' := [.int _]) rfl ?_
      refine g_iret dX10_play_25 rfl (Nat.le_refl _) (Nat.le_refl _) ?_
      first
        | exact absurd h4 (by decide)
        | (have eF : F_play tn tg r = (nI kk, r3) := by
             unfold F_play
             rw [hRES]
           rw [eF, ← hr2]
           exact ⟨rfl, hT.fr hfr⟩)
    · skip
      have h4 := i_lt0 c2
      refine g_aload_n dX10_play_13 (by rfl) (by first | exact isRf_r | exact isRf_n | exact isRf_o | assumption) ?_
      refine g_cV0v dX10_play_14 lX10_46 vX10_backs (ct_mBacks X hS2) (by first | exact m0 | exact k0 | exact hx0 | exact hr_a dA hx0) rfl ⟨Nat.le_of_ble_eq_true rfl, Nat.le_of_ble_eq_true rfl⟩ (Nat.le_of_ble_eq_true rfl) ⟨Nat.le_of_ble_eq_true rfl, Nat.le_of_ble_eq_true rfl⟩ ?_
      refine g_bipush (v := (-2)) dX10_play_17 (by decide) ?_
      refine g_iret dX10_play_19 rfl (Nat.le_refl _) (Nat.le_refl _) ?_
      first
        | exact absurd h4 hk0
        | (have eF : F_play tn tg r = (-2, r) := by
             unfold F_play
             rw [hRES]
           rw [eF]
           refine ⟨rfl, ?_⟩
           show MdTo X h _ M r (sysN (-2) n) (sysR (-2) n r rows) tn tg
           rw [show sysN (-2) n = n from if_pos (by decide), show sysR (-2) n r rows = rows from if_pos (by decide)]
           exact ⟨⟨r, hS2.row⟩, fun q hq => (hr_out q hq).trans (hfr q hq)⟩)
