theorem fl_8b {r : Nat → Int32} {l : Nat} (s : Snd r) (o : Ok r) (hl : l < cl (r 8)) : bI (decide (¬ Q_lotOf r (nI l) 8 < 0)) = bI (sold r l) := by
  cases h : sold r l with
  | true => exact (bI_t ((fl_8 s o hl).mpr h)).symm
  | false => exact (bI_f (fun z => by have q := (fl_8 s o hl).mp z; rw [h] at q; cases q)).symm
theorem cl8_k {r : Nat → Int32} (o : Ok r) : cl (r 8) ≤ 1000 := by
  have := (cl_le o).1
  omega
theorem cl7_k {r : Nat → Int32} (o : Ok r) : cl (r 7) ≤ 1000 := by
  have := cl_le7 o
  omega

set_option maxHeartbeats 4000000 in
set_option maxRecDepth 100000 in
theorem ct_L_isSound (X : Cx) {h : Hp} {A B m : Nat → Nat} {C : Nat → Nat → Nat} {r : Nat → Int32} {n tn : Nat} {rows : Nat → Nat → Int32} {tg : Nat → Int32} (o : Ok r) (o2 : Ok2 r) (s : Snd r) (hn : n ≤ 4) (hY : SysAt X h A B m C r n rows tn tg) : Ct X mL_isSound 5 0 0 [.ref (m 0)] h (Ex (.int 1) h) := by
  refine Ct.ofG vL_isSound.1.2.2.1 (Nat.le_of_ble_eq_true rfl) ?_
  show G X RL cL_isSound 12 (some .boolean) "isSound" (Rm 5 0 0) (Fm X (Ex (.int 1) h) 0 0) 0 0 0 [(0, .ref (m 0))] [] h
  refine g_aload_n dL_isSound_0 (by rfl) (by first | exact isRf_r | exact isRf_n | exact isRf_o | assumption) ?_
  refine g_bipush (v := 10) dL_isSound_1 (by decide) ?_
  refine g_cV1x dL_isSound_3 lL_9 vX9_count (ct_X9_count X o hY) (hY.1) rfl ⟨Nat.le_of_ble_eq_true rfl, Nat.le_of_ble_eq_true rfl⟩ (Nat.le_of_ble_eq_true rfl) ⟨Nat.le_of_ble_eq_true rfl, Nat.le_of_ble_eq_true rfl⟩ ?_
  refine g_iconst (v := 4) dL_isSound_6 (by decide) ?_
  refine g_icmp_gt (tgt := 77) dL_isSound_7 (by decide) (fun c1 => absurd c1 (fs_1 hn)) (fun c1 => ?_)
  refine g_aload_n dL_isSound_10 (by rfl) (by first | exact isRf_r | exact isRf_n | exact isRf_o | assumption) ?_
  refine g_iconst (v := 2) dL_isSound_11 (by decide) ?_
  refine g_cV1x dL_isSound_12 lL_9 vX9_count (ct_X9_count X o hY) (hY.1) rfl ⟨Nat.le_of_ble_eq_true rfl, Nat.le_of_ble_eq_true rfl⟩ (Nat.le_of_ble_eq_true rfl) ⟨Nat.le_of_ble_eq_true rfl, Nat.le_of_ble_eq_true rfl⟩ ?_
  refine g_aload_n dL_isSound_15 (by rfl) (by first | exact isRf_r | exact isRf_n | exact isRf_o | assumption) ?_
  refine g_bipush (v := 6) dL_isSound_16 (by decide) ?_
  refine g_cV1x dL_isSound_18 lL_9 vX9_count (ct_X9_count X o hY) (hY.1) rfl ⟨Nat.le_of_ble_eq_true rfl, Nat.le_of_ble_eq_true rfl⟩ (Nat.le_of_ble_eq_true rfl) ⟨Nat.le_of_ble_eq_true rfl, Nat.le_of_ble_eq_true rfl⟩ ?_
  refine g_iadd dL_isSound_21 ?_
  refine g_aload_n dL_isSound_22 (by rfl) (by first | exact isRf_r | exact isRf_n | exact isRf_o | assumption) ?_
  refine g_iconst (v := 1) dL_isSound_23 (by decide) ?_
  refine g_cV1x dL_isSound_24 lL_9 vX9_count (ct_X9_count X o hY) (hY.1) rfl ⟨Nat.le_of_ble_eq_true rfl, Nat.le_of_ble_eq_true rfl⟩ (Nat.le_of_ble_eq_true rfl) ⟨Nat.le_of_ble_eq_true rfl, Nat.le_of_ble_eq_true rfl⟩ ?_
  refine g_icmp_ne (tgt := 77) dL_isSound_27 (by decide) (fun c2 => absurd (fs_2 o) c2) (fun c2 => ?_)
  refine g_aload_n dL_isSound_30 (by rfl) (by first | exact isRf_r | exact isRf_n | exact isRf_o | assumption) ?_
  refine g_iconst (v := 3) dL_isSound_31 (by decide) ?_
  refine g_cV1x dL_isSound_32 lL_9 vX9_count (ct_X9_count X o hY) (hY.1) rfl ⟨Nat.le_of_ble_eq_true rfl, Nat.le_of_ble_eq_true rfl⟩ (Nat.le_of_ble_eq_true rfl) ⟨Nat.le_of_ble_eq_true rfl, Nat.le_of_ble_eq_true rfl⟩ ?_
  refine g_bipush (v := 8) dL_isSound_35 (by decide) ?_
  refine g_icmp_gt (tgt := 77) dL_isSound_37 (by decide) (fun c3 => absurd c3 (fs_3 o o2)) (fun c3 => ?_)
  refine g_aload_n dL_isSound_40 (by rfl) (by first | exact isRf_r | exact isRf_n | exact isRf_o | assumption) ?_
  refine g_bipush (v := 8) dL_isSound_41 (by decide) ?_
  refine g_cV1x dL_isSound_43 lL_9 vX9_count (ct_X9_count X o hY) (hY.1) rfl ⟨Nat.le_of_ble_eq_true rfl, Nat.le_of_ble_eq_true rfl⟩ (Nat.le_of_ble_eq_true rfl) ⟨Nat.le_of_ble_eq_true rfl, Nat.le_of_ble_eq_true rfl⟩ ?_
  refine g_bipush (v := 8) dL_isSound_46 (by decide) ?_
  refine g_icmp_gt (tgt := 77) dL_isSound_48 (by decide) (fun c4 => absurd c4 (fs_4 o2)) (fun c4 => ?_)
  refine g_aload_n dL_isSound_51 (by rfl) (by first | exact isRf_r | exact isRf_n | exact isRf_o | assumption) ?_
  refine g_bipush (v := 6) dL_isSound_52 (by decide) ?_
  refine g_cV1x dL_isSound_54 lL_9 vX9_count (ct_X9_count X o hY) (hY.1) rfl ⟨Nat.le_of_ble_eq_true rfl, Nat.le_of_ble_eq_true rfl⟩ (Nat.le_of_ble_eq_true rfl) ⟨Nat.le_of_ble_eq_true rfl, Nat.le_of_ble_eq_true rfl⟩ ?_
  refine g_aload_n dL_isSound_57 (by rfl) (by first | exact isRf_r | exact isRf_n | exact isRf_o | assumption) ?_
  refine g_bipush (v := 7) dL_isSound_58 (by decide) ?_
  refine g_cV1x dL_isSound_60 lL_9 vX9_count (ct_X9_count X o hY) (hY.1) rfl ⟨Nat.le_of_ble_eq_true rfl, Nat.le_of_ble_eq_true rfl⟩ (Nat.le_of_ble_eq_true rfl) ⟨Nat.le_of_ble_eq_true rfl, Nat.le_of_ble_eq_true rfl⟩ ?_
  refine g_aload_n dL_isSound_63 (by rfl) (by first | exact isRf_r | exact isRf_n | exact isRf_o | assumption) ?_
  refine g_bipush (v := 8) dL_isSound_64 (by decide) ?_
  refine g_cV1x dL_isSound_66 lL_9 vX9_count (ct_X9_count X o hY) (hY.1) rfl ⟨Nat.le_of_ble_eq_true rfl, Nat.le_of_ble_eq_true rfl⟩ (Nat.le_of_ble_eq_true rfl) ⟨Nat.le_of_ble_eq_true rfl, Nat.le_of_ble_eq_true rfl⟩ ?_
  refine g_isub dL_isSound_69 ?_
  refine g_icmp_ne (tgt := 77) dL_isSound_70 (by decide) (fun c5 => absurd (fs_5 o s) c5) (fun c5 => ?_)
  refine g_iconst (v := 1) dL_isSound_73 (by decide) ?_
  refine g_goto (tgt := 78) dL_isSound_74 (by decide) ?_
  refine g_istore_n (L1 := [(0, _), (1, _)]) dL_isSound_78 (by decide) (by rfl) ?_
  refine g_iconst (v := 0) dL_isSound_79 (by decide) ?_
  refine g_istore_n (L1 := [(0, _), (1, _), (2, _)]) dL_isSound_80 (by decide) (by rfl) ?_
  have loop81 : ∀ d, d ≤ 4 → G X RL cL_isSound 12 (some .boolean) "isSound" (Rm 5 0 0) (Fm X (Ex (.int 1) h) 0 0) 0 0 81 [(0, .ref (m 0)), (1, .int 1), (2, .int (nI d))] [] h := by
    refine up_ind 4 (fun d hd ih => ?_)
    refine g_iload_n dL_isSound_81 (by rfl) ?_
    refine g_iconst (v := 4) dL_isSound_82 (by decide) ?_
    refine g_icmp_ge (tgt := 229) dL_isSound_83 (by decide) (fun c6 => ?_) (fun c6 => ?_)
    · skip
      refine g_iconst (v := 0) dL_isSound_229 (by decide) ?_
      refine g_istore_n (L1 := [(0, _), (1, _), (2, _)]) dL_isSound_230 (by decide) (by rfl) ?_
      refine g_iconst (v := 0) dL_isSound_231 (by decide) ?_
      refine g_istore_n (L1 := [(0, _), (1, _), (2, _), (3, _)]) dL_isSound_232 (by decide) (by rfl) ?_
      refine g_iconst (v := 0) dL_isSound_233 (by decide) ?_
      refine g_istore (L1 := [(0, _), (1, _), (2, _), (3, _), (4, _)]) dL_isSound_234 (by decide) (by rfl) ?_
      refine g_iconst (v := 0) dL_isSound_236 (by decide) ?_
      refine g_istore (L1 := [(0, _), (1, _), (2, _), (3, _), (4, _), (5, _)]) dL_isSound_237 (by decide) (by rfl) ?_
      refine g_iconst (v := 0) dL_isSound_239 (by decide) ?_
      refine g_istore (L1 := [(0, _), (1, _), (2, _), (3, _), (4, _), (5, _), (6, _)]) dL_isSound_240 (by decide) (by rfl) ?_
      refine g_iconst (v := 0) dL_isSound_242 (by decide) ?_
      refine g_istore (L1 := [(0, _), (1, _), (2, _), (3, _), (4, _), (5, _), (6, _), (7, _)]) dL_isSound_243 (by decide) (by rfl) ?_
      have loop245 : ∀ l, l ≤ cl (r 8) → G X RL cL_isSound 12 (some .boolean) "isSound" (Rm 5 0 0) (Fm X (Ex (.int 1) h) 0 0) 0 0 245 [(0, .ref (m 0)), (1, .int 1), (2, .int (nI (cntN (hangs r) l))), (3, .int (nI (cntN (rackB r 0) l))), (4, .int (nI (cntN (fun l => cntW 4 (ltx r l)) l))), (5, .int (nI (cntN (fun l => cntW 5 (ltx r l)) l))), (6, .int (sumP (fun _ => true) (fun l => ltx r l 14) l)), (7, .int (nI l))] [] h := by
        refine up_ind (cl (r 8)) (fun l hl ih => ?_)
        refine g_iload dL_isSound_245 (by rfl) ?_
        refine g_aload_n dL_isSound_247 (by rfl) (by first | exact isRf_r | exact isRf_n | exact isRf_o | assumption) ?_
        refine g_iconst (v := 1) dL_isSound_248 (by decide) ?_
        refine g_cV1x dL_isSound_249 lL_9 vX9_count (ct_X9_count X o hY) (hY.1) rfl ⟨Nat.le_of_ble_eq_true rfl, Nat.le_of_ble_eq_true rfl⟩ (Nat.le_of_ble_eq_true rfl) ⟨Nat.le_of_ble_eq_true rfl, Nat.le_of_ble_eq_true rfl⟩ ?_
        refine g_icmp_ge (tgt := 467) dL_isSound_252 (by decide) (fun c7 => ?_) (fun c7 => ?_)
        · skip
          have el := ge_nI (qc_1.trans o.e8) hl (cl8_k o) c7
          subst el
          refine g_iload_n dL_isSound_467 (by rfl) ?_
          refine g_if_eq (tgt := 527) dL_isSound_468 (by decide) (fun c8 => absurd c8 (by decide)) (fun c8 => ?_)
          refine g_iload_n dL_isSound_471 (by rfl) ?_
          refine g_aload_n dL_isSound_472 (by rfl) (by first | exact isRf_r | exact isRf_n | exact isRf_o | assumption) ?_
          refine g_iconst (v := 3) dL_isSound_473 (by decide) ?_
          refine g_cV1x dL_isSound_474 lL_9 vX9_count (ct_X9_count X o hY) (hY.1) rfl ⟨Nat.le_of_ble_eq_true rfl, Nat.le_of_ble_eq_true rfl⟩ (Nat.le_of_ble_eq_true rfl) ⟨Nat.le_of_ble_eq_true rfl, Nat.le_of_ble_eq_true rfl⟩ ?_
          refine g_icmp_ne (tgt := 527) dL_isSound_477 (by decide) (fun c9 => absurd ff_1 c9) (fun c9 => ?_)
          refine g_iload_n dL_isSound_480 (by rfl) ?_
          refine g_iconst (v := 4) dL_isSound_481 (by decide) ?_
          refine g_icmp_gt (tgt := 527) dL_isSound_482 (by decide) (fun c10 => absurd c10 (ff_2 o2)) (fun c10 => ?_)
          refine g_iload_n dL_isSound_485 (by rfl) ?_
          refine g_iload_n dL_isSound_486 (by rfl) ?_
          refine g_isub dL_isSound_487 ?_
          refine g_iconst (v := 4) dL_isSound_488 (by decide) ?_
          refine g_icmp_gt (tgt := 527) dL_isSound_489 (by decide) (fun c11 => absurd c11 (ff_3 o o2)) (fun c11 => ?_)
          refine g_iload dL_isSound_492 (by rfl) ?_
          refine g_aload_n dL_isSound_494 (by rfl) (by first | exact isRf_r | exact isRf_n | exact isRf_o | assumption) ?_
          refine g_iconst (v := 4) dL_isSound_495 (by decide) ?_
          refine g_cV1x dL_isSound_496 lL_9 vX9_count (ct_X9_count X o hY) (hY.1) rfl ⟨Nat.le_of_ble_eq_true rfl, Nat.le_of_ble_eq_true rfl⟩ (Nat.le_of_ble_eq_true rfl) ⟨Nat.le_of_ble_eq_true rfl, Nat.le_of_ble_eq_true rfl⟩ ?_
          refine g_icmp_ne (tgt := 527) dL_isSound_499 (by decide) (fun c12 => absurd ff_4 c12) (fun c12 => ?_)
          refine g_iload dL_isSound_502 (by rfl) ?_
          refine g_aload_n dL_isSound_504 (by rfl) (by first | exact isRf_r | exact isRf_n | exact isRf_o | assumption) ?_
          refine g_iconst (v := 5) dL_isSound_505 (by decide) ?_
          refine g_cV1x dL_isSound_506 lL_9 vX9_count (ct_X9_count X o hY) (hY.1) rfl ⟨Nat.le_of_ble_eq_true rfl, Nat.le_of_ble_eq_true rfl⟩ (Nat.le_of_ble_eq_true rfl) ⟨Nat.le_of_ble_eq_true rfl, Nat.le_of_ble_eq_true rfl⟩ ?_
          refine g_icmp_ne (tgt := 527) dL_isSound_509 (by decide) (fun c13 => absurd ff_5 c13) (fun c13 => ?_)
          refine g_iload dL_isSound_512 (by rfl) ?_
          refine g_aload_n dL_isSound_514 (by rfl) (by first | exact isRf_r | exact isRf_n | exact isRf_o | assumption) ?_
          refine g_bipush (v := 9) dL_isSound_515 (by decide) ?_
          refine g_cV1x dL_isSound_517 lL_9 vX9_count (ct_X9_count X o hY) (hY.1) rfl ⟨Nat.le_of_ble_eq_true rfl, Nat.le_of_ble_eq_true rfl⟩ (Nat.le_of_ble_eq_true rfl) ⟨Nat.le_of_ble_eq_true rfl, Nat.le_of_ble_eq_true rfl⟩ ?_
          refine g_icmp_ne (tgt := 527) dL_isSound_520 (by decide) (fun c14 => absurd (ff_6 s) c14) (fun c14 => ?_)
          refine g_iconst (v := 1) dL_isSound_523 (by decide) ?_
          refine g_goto (tgt := 528) dL_isSound_524 (by decide) ?_
          refine g_istore_n (L1 := [(0, _), (1, _), (2, _), (3, _), (4, _), (5, _), (6, _), (7, _)]) dL_isSound_528 (by decide) (by rfl) ?_
          refine g_iconst (v := 0) dL_isSound_529 (by decide) ?_
          refine g_istore (L1 := [(0, _), (1, _), (2, _), (3, _), (4, _), (5, _), (6, _), (7, _)]) dL_isSound_530 (by decide) (by rfl) ?_
          refine g_iconst (v := 0) dL_isSound_532 (by decide) ?_
          refine g_istore (L1 := [(0, _), (1, _), (2, _), (3, _), (4, _), (5, _), (6, _), (7, _), (8, _)]) dL_isSound_533 (by decide) (by rfl) ?_
          have loop535 : ∀ k, k ≤ cl (r 7) → G X RL cL_isSound 12 (some .boolean) "isSound" (Rm 5 0 0) (Fm X (Ex (.int 1) h) 0 0) 0 0 535 [(0, .ref (m 0)), (1, .int 1), (7, .int (nI (setN (vaN r) k))), (8, .int (nI k))] [] h := by
            refine up_ind (cl (r 7)) (fun k hk ih => ?_)
            refine g_iload dL_isSound_535 (by rfl) ?_
            refine g_aload_n dL_isSound_537 (by rfl) (by first | exact isRf_r | exact isRf_n | exact isRf_o | assumption) ?_
            refine g_iconst (v := 0) dL_isSound_538 (by decide) ?_
            refine g_cV1x dL_isSound_539 lL_9 vX9_count (ct_X9_count X o hY) (hY.1) rfl ⟨Nat.le_of_ble_eq_true rfl, Nat.le_of_ble_eq_true rfl⟩ (Nat.le_of_ble_eq_true rfl) ⟨Nat.le_of_ble_eq_true rfl, Nat.le_of_ble_eq_true rfl⟩ ?_
            refine g_icmp_ge (tgt := 739) dL_isSound_542 (by decide) (fun c15 => ?_) (fun c15 => ?_)
            · skip
              have ek := ge_nI (qc_0.trans o.e7) hk (cl7_k o) c15
              subst ek
              refine g_iload_n dL_isSound_739 (by rfl) ?_
              refine g_if_eq (tgt := 818) dL_isSound_740 (by decide) (fun c16 => absurd c16 (by decide)) (fun c16 => ?_)
              refine g_iload dL_isSound_743 (by rfl) ?_
              refine g_iconst (v := 1) dL_isSound_745 (by decide) ?_
              refine g_aload_n dL_isSound_746 (by rfl) (by first | exact isRf_r | exact isRf_n | exact isRf_o | assumption) ?_
              refine g_iconst (v := 0) dL_isSound_747 (by decide) ?_
              refine g_cV1x dL_isSound_748 lL_9 vX9_count (ct_X9_count X o hY) (hY.1) rfl ⟨Nat.le_of_ble_eq_true rfl, Nat.le_of_ble_eq_true rfl⟩ (Nat.le_of_ble_eq_true rfl) ⟨Nat.le_of_ble_eq_true rfl, Nat.le_of_ble_eq_true rfl⟩ ?_
              refine g_ishl dL_isSound_751 ?_
              refine g_iconst (v := 1) dL_isSound_752 (by decide) ?_
              refine g_isub dL_isSound_753 ?_
              refine g_icmp_ne (tgt := 818) dL_isSound_754 (by decide) (fun c17 => absurd (fv_all o) c17) (fun c17 => ?_)
              refine g_aload_n dL_isSound_757 (by rfl) (by first | exact isRf_r | exact isRf_n | exact isRf_o | assumption) ?_
              refine g_aload_n dL_isSound_758 (by rfl) (by first | exact isRf_r | exact isRf_n | exact isRf_o | assumption) ?_
              refine g_iconst (v := 0) dL_isSound_759 (by decide) ?_
              refine g_cV1x dL_isSound_760 lL_9 vX9_count (ct_X9_count X o hY) (hY.1) rfl ⟨Nat.le_of_ble_eq_true rfl, Nat.le_of_ble_eq_true rfl⟩ (Nat.le_of_ble_eq_true rfl) ⟨Nat.le_of_ble_eq_true rfl, Nat.le_of_ble_eq_true rfl⟩ ?_
              refine g_cV1x dL_isSound_763 lL_35 vX9_vatAt (ct_X9_vatAt X o hY) (hY.1) rfl ⟨Nat.le_of_ble_eq_true rfl, Nat.le_of_ble_eq_true rfl⟩ (Nat.le_of_ble_eq_true rfl) ⟨Nat.le_of_ble_eq_true rfl, Nat.le_of_ble_eq_true rfl⟩ ?_
              refine g_bipush (v := (-4)) dL_isSound_766 (by decide) ?_
              refine g_icmp_ne (tgt := 818) dL_isSound_768 (by decide) (fun c18 => absurd (fe_1 o) c18) (fun c18 => ?_)
              refine g_aload_n dL_isSound_771 (by rfl) (by first | exact isRf_r | exact isRf_n | exact isRf_o | assumption) ?_
              refine g_aload_n dL_isSound_772 (by rfl) (by first | exact isRf_r | exact isRf_n | exact isRf_o | assumption) ?_
              refine g_iconst (v := 0) dL_isSound_773 (by decide) ?_
              refine g_cV1x dL_isSound_774 lL_9 vX9_count (ct_X9_count X o hY) (hY.1) rfl ⟨Nat.le_of_ble_eq_true rfl, Nat.le_of_ble_eq_true rfl⟩ (Nat.le_of_ble_eq_true rfl) ⟨Nat.le_of_ble_eq_true rfl, Nat.le_of_ble_eq_true rfl⟩ ?_
              refine g_iconst (v := 0) dL_isSound_777 (by decide) ?_
              refine g_cV2x dL_isSound_778 lL_38 vX9_vatOf (ct_X9_vatOf X o hY) (hY.1) rfl ⟨Nat.le_of_ble_eq_true rfl, Nat.le_of_ble_eq_true rfl⟩ (Nat.le_of_ble_eq_true rfl) ⟨Nat.le_of_ble_eq_true rfl, Nat.le_of_ble_eq_true rfl⟩ ?_
              refine g_iconst (v := (-1)) dL_isSound_781 (by decide) ?_
              refine g_icmp_ne (tgt := 818) dL_isSound_782 (by decide) (fun c19 => absurd (fe_2 o) c19) (fun c19 => ?_)
              refine g_aload_n dL_isSound_785 (by rfl) (by first | exact isRf_r | exact isRf_n | exact isRf_o | assumption) ?_
              refine g_aload_n dL_isSound_786 (by rfl) (by first | exact isRf_r | exact isRf_n | exact isRf_o | assumption) ?_
              refine g_iconst (v := 1) dL_isSound_787 (by decide) ?_
              refine g_cV1x dL_isSound_788 lL_9 vX9_count (ct_X9_count X o hY) (hY.1) rfl ⟨Nat.le_of_ble_eq_true rfl, Nat.le_of_ble_eq_true rfl⟩ (Nat.le_of_ble_eq_true rfl) ⟨Nat.le_of_ble_eq_true rfl, Nat.le_of_ble_eq_true rfl⟩ ?_
              refine g_iconst (v := 0) dL_isSound_791 (by decide) ?_
              refine g_cV2x dL_isSound_792 lL_26 vX9_lotOf (ct_X9_lotOf X o hY) (hY.1) rfl ⟨Nat.le_of_ble_eq_true rfl, Nat.le_of_ble_eq_true rfl⟩ (Nat.le_of_ble_eq_true rfl) ⟨Nat.le_of_ble_eq_true rfl, Nat.le_of_ble_eq_true rfl⟩ ?_
              refine g_iconst (v := (-1)) dL_isSound_795 (by decide) ?_
              refine g_icmp_ne (tgt := 818) dL_isSound_796 (by decide) (fun c20 => absurd (fe_3 o) c20) (fun c20 => ?_)
              refine g_aload_n dL_isSound_799 (by rfl) (by first | exact isRf_r | exact isRf_n | exact isRf_o | assumption) ?_
              refine g_aload_n dL_isSound_800 (by rfl) (by first | exact isRf_r | exact isRf_n | exact isRf_o | assumption) ?_
              refine g_bipush (v := 7) dL_isSound_801 (by decide) ?_
              refine g_cV1x dL_isSound_803 lL_9 vX9_count (ct_X9_count X o hY) (hY.1) rfl ⟨Nat.le_of_ble_eq_true rfl, Nat.le_of_ble_eq_true rfl⟩ (Nat.le_of_ble_eq_true rfl) ⟨Nat.le_of_ble_eq_true rfl, Nat.le_of_ble_eq_true rfl⟩ ?_
              refine g_iconst (v := 0) dL_isSound_806 (by decide) ?_
              refine g_cV2x dL_isSound_807 lL_29 vX9_orderOf (ct_X9_orderOf X o hY) (hY.1) rfl ⟨Nat.le_of_ble_eq_true rfl, Nat.le_of_ble_eq_true rfl⟩ (Nat.le_of_ble_eq_true rfl) ⟨Nat.le_of_ble_eq_true rfl, Nat.le_of_ble_eq_true rfl⟩ ?_
              refine g_iconst (v := (-1)) dL_isSound_810 (by decide) ?_
              refine g_icmp_ne (tgt := 818) dL_isSound_811 (by decide) (fun c21 => absurd (fe_4 o) c21) (fun c21 => ?_)
              refine g_iconst (v := 1) dL_isSound_814 (by decide) ?_
              refine g_goto (tgt := 819) dL_isSound_815 (by decide) ?_
              refine g_zret dL_isSound_819 rfl (by decide) (Nat.le_refl _) (Nat.le_refl _) ?_
              exact ⟨rfl, rfl⟩
            · skip
              have hkk := nge_nI (qc_0.trans o.e7) (cl7_k o) hk c15
              refine g_iload_n dL_isSound_545 (by rfl) ?_
              refine g_if_eq (tgt := 739) dL_isSound_546 (by decide) (fun c22 => absurd c22 (by decide)) (fun c22 => ?_)
              refine g_aload_n dL_isSound_549 (by rfl) (by first | exact isRf_r | exact isRf_n | exact isRf_o | assumption) ?_
              refine g_iload dL_isSound_550 (by rfl) ?_
              refine g_cV1x dL_isSound_552 lL_35 vX9_vatAt (ct_X9_vatAt X o hY) (hY.1) rfl ⟨Nat.le_of_ble_eq_true rfl, Nat.le_of_ble_eq_true rfl⟩ (Nat.le_of_ble_eq_true rfl) ⟨Nat.le_of_ble_eq_true rfl, Nat.le_of_ble_eq_true rfl⟩ ?_
              refine g_istore (L1 := [(0, _), (1, _), (7, _), (8, _), (9, _)]) dL_isSound_555 (by decide) (by rfl) ?_
              refine g_iload dL_isSound_557 (by rfl) ?_
              refine g_iconst (v := 1) dL_isSound_559 (by decide) ?_
              refine g_iload dL_isSound_560 (by rfl) ?_
              refine g_ishl dL_isSound_562 ?_
              refine g_ior dL_isSound_563 ?_
              refine g_istore (L1 := [(0, _), (1, _), (7, _), (8, _), (9, _)]) dL_isSound_564 (by decide) (by rfl) ?_
              rw [fv_or o hkk]
              refine g_aload_n dL_isSound_566 (by rfl) (by first | exact isRf_r | exact isRf_n | exact isRf_o | assumption) ?_
              refine g_iload dL_isSound_567 (by rfl) ?_
              refine g_iconst (v := 1) dL_isSound_569 (by decide) ?_
              refine g_iadd dL_isSound_570 ?_
              rw [nI_1]
              refine g_cV1x dL_isSound_571 lL_35 vX9_vatAt (ct_X9_vatAt X o hY) (hY.1) rfl ⟨Nat.le_of_ble_eq_true rfl, Nat.le_of_ble_eq_true rfl⟩ (Nat.le_of_ble_eq_true rfl) ⟨Nat.le_of_ble_eq_true rfl, Nat.le_of_ble_eq_true rfl⟩ ?_
              refine g_istore (L1 := [(0, _), (1, _), (7, _), (8, _), (9, _), (10, _)]) dL_isSound_574 (by decide) (by rfl) ?_
              refine g_aload_n dL_isSound_576 (by rfl) (by first | exact isRf_r | exact isRf_n | exact isRf_o | assumption) ?_
              refine g_iload dL_isSound_577 (by rfl) ?_
              refine g_iconst (v := 2) dL_isSound_579 (by decide) ?_
              refine g_cV2x dL_isSound_580 lL_38 vX9_vatOf (ct_X9_vatOf X o hY) (hY.1) rfl ⟨Nat.le_of_ble_eq_true rfl, Nat.le_of_ble_eq_true rfl⟩ (Nat.le_of_ble_eq_true rfl) ⟨Nat.le_of_ble_eq_true rfl, Nat.le_of_ble_eq_true rfl⟩ ?_
              refine g_aload_n dL_isSound_583 (by rfl) (by first | exact isRf_r | exact isRf_n | exact isRf_o | assumption) ?_
              refine g_iload dL_isSound_584 (by rfl) ?_
              refine g_iconst (v := 1) dL_isSound_586 (by decide) ?_
              refine g_cV2x dL_isSound_587 lL_38 vX9_vatOf (ct_X9_vatOf X o hY) (hY.1) rfl ⟨Nat.le_of_ble_eq_true rfl, Nat.le_of_ble_eq_true rfl⟩ (Nat.le_of_ble_eq_true rfl) ⟨Nat.le_of_ble_eq_true rfl, Nat.le_of_ble_eq_true rfl⟩ ?_
              refine g_idiv dL_isSound_590 (fv_d o hkk) ?_
              refine g_istore (L1 := [(0, _), (1, _), (7, _), (8, _), (9, _), (10, _), (11, _)]) dL_isSound_591 (by decide) (by rfl) ?_
              refine g_iload dL_isSound_593 (by rfl) ?_
              refine g_if_lt (tgt := 690) dL_isSound_595 (by decide) (fun c23 => absurd c23 (fv_0 o hkk)) (fun c23 => ?_)
              have J686 : G X RL cL_isSound 12 (some .boolean) "isSound" (Rm 5 0 0) (Fm X (Ex (.int 1) h) 0 0) 0 0 686 [(0, .ref (m 0)), (1, .int 1), (7, .int (nI (setN (vaN r) (k + 1)))), (8, .int (nI k)), (9, .int (Q_vatAt r (nI k)))] [] h := by
                skip
                refine g_iconst (v := 1) dL_isSound_686 (by decide) ?_
                refine g_goto (tgt := 691) dL_isSound_687 (by decide) ?_
                refine g_istore_n (L1 := [(0, _), (1, _), (7, _), (8, _), (9, _)]) dL_isSound_691 (by decide) (by rfl) ?_
                refine g_iload_n dL_isSound_692 (by rfl) ?_
                refine g_if_eq (tgt := 731) dL_isSound_693 (by decide) (fun c24 => absurd c24 (by decide)) (fun c24 => ?_)
                refine g_aload_n dL_isSound_696 (by rfl) (by first | exact isRf_r | exact isRf_n | exact isRf_o | assumption) ?_
                refine g_iload dL_isSound_697 (by rfl) ?_
                refine g_iconst (v := 4) dL_isSound_699 (by decide) ?_
                refine g_cV2x dL_isSound_700 lL_38 vX9_vatOf (ct_X9_vatOf X o hY) (hY.1) rfl ⟨Nat.le_of_ble_eq_true rfl, Nat.le_of_ble_eq_true rfl⟩ (Nat.le_of_ble_eq_true rfl) ⟨Nat.le_of_ble_eq_true rfl, Nat.le_of_ble_eq_true rfl⟩ ?_
                refine g_aload_n dL_isSound_703 (by rfl) (by first | exact isRf_r | exact isRf_n | exact isRf_o | assumption) ?_
                refine g_iload dL_isSound_704 (by rfl) ?_
                refine g_iconst (v := 3) dL_isSound_706 (by decide) ?_
                refine g_cV2x dL_isSound_707 lL_38 vX9_vatOf (ct_X9_vatOf X o hY) (hY.1) rfl ⟨Nat.le_of_ble_eq_true rfl, Nat.le_of_ble_eq_true rfl⟩ (Nat.le_of_ble_eq_true rfl) ⟨Nat.le_of_ble_eq_true rfl, Nat.le_of_ble_eq_true rfl⟩ ?_
                refine g_aload_n dL_isSound_710 (by rfl) (by first | exact isRf_r | exact isRf_n | exact isRf_o | assumption) ?_
                refine g_bipush (v := 22) dL_isSound_711 (by decide) ?_
                refine g_cV1x dL_isSound_713 lL_9 vX9_count (ct_X9_count X o hY) (hY.1) rfl ⟨Nat.le_of_ble_eq_true rfl, Nat.le_of_ble_eq_true rfl⟩ (Nat.le_of_ble_eq_true rfl) ⟨Nat.le_of_ble_eq_true rfl, Nat.le_of_ble_eq_true rfl⟩ ?_
                refine g_icmpD_le dL_isSound_716 dL_isSound_719 dL_isSound_720 dL_isSound_723 ?_
                refine g_icmp_ne (tgt := 731) dL_isSound_724 (by decide) (fun c25 => absurd (fv_4 o hkk) c25) (fun c25 => ?_)
                refine g_iconst (v := 1) dL_isSound_727 (by decide) ?_
                refine g_goto (tgt := 732) dL_isSound_728 (by decide) ?_
                refine g_istore_n (L1 := [(0, _), (1, _), (7, _), (8, _), (9, _)]) dL_isSound_732 (by decide) (by rfl) ?_
                refine g_iinc (v := nI (k + 1)) (L1 := [(0, _), (1, _), (7, _), (8, _), (9, _)]) dL_isSound_733 (by rfl) (nI_1 k) (by decide) (by rfl) ?_
                refine g_goto (tgt := 535) dL_isSound_736 (by decide) ?_
                refine g_pick [0, 1, 2, 3] rfl ?_
                exact ih hkk
              refine g_iload dL_isSound_598 (by rfl) ?_
              refine g_bipush (v := (-4)) dL_isSound_600 (by decide) ?_
              refine g_icmp_eq (tgt := 686) dL_isSound_602 (by decide) (fun c26 => ?_) (fun c26 => ?_)
              · skip
                refine g_pick [0, 1, 2, 3, 4] rfl ?_
                exact J686
              · skip
                obtain ⟨hk1, hnx⟩ := (fv_n o hkk).resolve_left c26
                refine g_iload dL_isSound_605 (by rfl) ?_
                refine g_aload_n dL_isSound_607 (by rfl) (by first | exact isRf_r | exact isRf_n | exact isRf_o | assumption) ?_
                refine g_iload dL_isSound_608 (by rfl) ?_
                refine g_iconst (v := 2) dL_isSound_610 (by decide) ?_
                refine g_cV2x dL_isSound_611 lL_38 vX9_vatOf (ct_X9_vatOf X o hY) (hY.1) rfl ⟨Nat.le_of_ble_eq_true rfl, Nat.le_of_ble_eq_true rfl⟩ (Nat.le_of_ble_eq_true rfl) ⟨Nat.le_of_ble_eq_true rfl, Nat.le_of_ble_eq_true rfl⟩ ?_
                refine g_aload_n dL_isSound_614 (by rfl) (by first | exact isRf_r | exact isRf_n | exact isRf_o | assumption) ?_
                refine g_iload dL_isSound_615 (by rfl) ?_
                refine g_iconst (v := 1) dL_isSound_617 (by decide) ?_
                refine g_cV2x dL_isSound_618 lL_38 vX9_vatOf (ct_X9_vatOf X o hY) (hY.1) rfl ⟨Nat.le_of_ble_eq_true rfl, Nat.le_of_ble_eq_true rfl⟩ (Nat.le_of_ble_eq_true rfl) ⟨Nat.le_of_ble_eq_true rfl, Nat.le_of_ble_eq_true rfl⟩ ?_
                refine g_idiv dL_isSound_621 (fv_d o hk1) ?_
                refine g_icmp_gt (tgt := 686) dL_isSound_622 (by decide) (fun c27 => ?_) (fun c27 => ?_)
                · skip
                  refine g_pick [0, 1, 2, 3, 4] rfl ?_
                  exact J686
                · skip
                  have hnx2 := hnx.resolve_left c27
                  obtain ⟨hnx2a, hnx2b⟩ := id hnx2
                  refine g_iload dL_isSound_625 (by rfl) ?_
                  refine g_aload_n dL_isSound_627 (by rfl) (by first | exact isRf_r | exact isRf_n | exact isRf_o | assumption) ?_
                  refine g_iload dL_isSound_628 (by rfl) ?_
                  refine g_iconst (v := 2) dL_isSound_630 (by decide) ?_
                  refine g_cV2x dL_isSound_631 lL_38 vX9_vatOf (ct_X9_vatOf X o hY) (hY.1) rfl ⟨Nat.le_of_ble_eq_true rfl, Nat.le_of_ble_eq_true rfl⟩ (Nat.le_of_ble_eq_true rfl) ⟨Nat.le_of_ble_eq_true rfl, Nat.le_of_ble_eq_true rfl⟩ ?_
                  refine g_aload_n dL_isSound_634 (by rfl) (by first | exact isRf_r | exact isRf_n | exact isRf_o | assumption) ?_
                  refine g_iload dL_isSound_635 (by rfl) ?_
                  refine g_iconst (v := 1) dL_isSound_637 (by decide) ?_
                  refine g_cV2x dL_isSound_638 lL_38 vX9_vatOf (ct_X9_vatOf X o hY) (hY.1) rfl ⟨Nat.le_of_ble_eq_true rfl, Nat.le_of_ble_eq_true rfl⟩ (Nat.le_of_ble_eq_true rfl) ⟨Nat.le_of_ble_eq_true rfl, Nat.le_of_ble_eq_true rfl⟩ ?_
                  refine g_idiv dL_isSound_641 (fv_d o hk1) ?_
                  refine g_icmp_ne (tgt := 690) dL_isSound_642 (by decide) (fun c28 => absurd hnx2.1 c28) (fun c28 => ?_)
                  refine g_aload_n dL_isSound_645 (by rfl) (by first | exact isRf_r | exact isRf_n | exact isRf_o | assumption) ?_
                  refine g_iload dL_isSound_646 (by rfl) ?_
                  refine g_iconst (v := 3) dL_isSound_648 (by decide) ?_
                  refine g_cV2x dL_isSound_649 lL_38 vX9_vatOf (ct_X9_vatOf X o hY) (hY.1) rfl ⟨Nat.le_of_ble_eq_true rfl, Nat.le_of_ble_eq_true rfl⟩ (Nat.le_of_ble_eq_true rfl) ⟨Nat.le_of_ble_eq_true rfl, Nat.le_of_ble_eq_true rfl⟩ ?_
                  refine g_aload_n dL_isSound_652 (by rfl) (by first | exact isRf_r | exact isRf_n | exact isRf_o | assumption) ?_
                  refine g_iload dL_isSound_653 (by rfl) ?_
                  refine g_iconst (v := 3) dL_isSound_655 (by decide) ?_
                  refine g_cV2x dL_isSound_656 lL_38 vX9_vatOf (ct_X9_vatOf X o hY) (hY.1) rfl ⟨Nat.le_of_ble_eq_true rfl, Nat.le_of_ble_eq_true rfl⟩ (Nat.le_of_ble_eq_true rfl) ⟨Nat.le_of_ble_eq_true rfl, Nat.le_of_ble_eq_true rfl⟩ ?_
                  refine g_icmp_lt (tgt := 686) dL_isSound_659 (by decide) (fun c29 => ?_) (fun c29 => ?_)
                  · skip
                    refine g_pick [0, 1, 2, 3, 4] rfl ?_
                    exact J686
                  · skip
                    have hnx3 := hnx2.2.resolve_left c29
                    refine g_aload_n dL_isSound_662 (by rfl) (by first | exact isRf_r | exact isRf_n | exact isRf_o | assumption) ?_
                    refine g_iload dL_isSound_663 (by rfl) ?_
                    refine g_iconst (v := 3) dL_isSound_665 (by decide) ?_
                    refine g_cV2x dL_isSound_666 lL_38 vX9_vatOf (ct_X9_vatOf X o hY) (hY.1) rfl ⟨Nat.le_of_ble_eq_true rfl, Nat.le_of_ble_eq_true rfl⟩ (Nat.le_of_ble_eq_true rfl) ⟨Nat.le_of_ble_eq_true rfl, Nat.le_of_ble_eq_true rfl⟩ ?_
                    refine g_aload_n dL_isSound_669 (by rfl) (by first | exact isRf_r | exact isRf_n | exact isRf_o | assumption) ?_
                    refine g_iload dL_isSound_670 (by rfl) ?_
                    refine g_iconst (v := 3) dL_isSound_672 (by decide) ?_
                    refine g_cV2x dL_isSound_673 lL_38 vX9_vatOf (ct_X9_vatOf X o hY) (hY.1) rfl ⟨Nat.le_of_ble_eq_true rfl, Nat.le_of_ble_eq_true rfl⟩ (Nat.le_of_ble_eq_true rfl) ⟨Nat.le_of_ble_eq_true rfl, Nat.le_of_ble_eq_true rfl⟩ ?_
                    refine g_icmp_ne (tgt := 690) dL_isSound_676 (by decide) (fun c30 => absurd hnx3.1 c30) (fun c30 => ?_)
                    refine g_iload dL_isSound_679 (by rfl) ?_
                    refine g_iload dL_isSound_681 (by rfl) ?_
                    refine g_icmp_ge (tgt := 690) dL_isSound_683 (by decide) (fun c31 => absurd c31 (i_nle hnx3.2)) (fun c31 => ?_)
                    refine g_pick [0, 1, 2, 3, 4] rfl ?_
                    exact J686
          refine g_pick [0, 1, 7, 8] rfl ?_
          exact loop535 0 (Nat.zero_le _)
        · skip
          have hll := nge_nI (qc_1.trans o.e8) (cl8_k o) hl c7
          refine g_iload_n dL_isSound_255 (by rfl) ?_
          refine g_if_eq (tgt := 467) dL_isSound_256 (by decide) (fun c32 => absurd c32 (by decide)) (fun c32 => ?_)
          refine g_aload_n dL_isSound_259 (by rfl) (by first | exact isRf_r | exact isRf_n | exact isRf_o | assumption) ?_
          refine g_iload dL_isSound_260 (by rfl) ?_
          refine g_bipush (v := 8) dL_isSound_262 (by decide) ?_
          refine g_cV2x dL_isSound_264 lL_26 vX9_lotOf (ct_X9_lotOf X o hY) (hY.1) rfl ⟨Nat.le_of_ble_eq_true rfl, Nat.le_of_ble_eq_true rfl⟩ (Nat.le_of_ble_eq_true rfl) ⟨Nat.le_of_ble_eq_true rfl, Nat.le_of_ble_eq_true rfl⟩ ?_
          refine g_ifD_lt dL_isSound_267 dL_isSound_270 dL_isSound_271 dL_isSound_274 ?_
          rw [fl_8b s o hll]
          refine g_istore (L1 := [(0, _), (1, _), (2, _), (3, _), (4, _), (5, _), (6, _), (7, _), (8, _)]) dL_isSound_275 (by decide) (by rfl) ?_
          refine g_aload_n dL_isSound_277 (by rfl) (by first | exact isRf_r | exact isRf_n | exact isRf_o | assumption) ?_
          refine g_iload dL_isSound_278 (by rfl) ?_
          refine g_iconst (v := 5) dL_isSound_280 (by decide) ?_
          refine g_cV2x dL_isSound_281 lL_26 vX9_lotOf (ct_X9_lotOf X o hY) (hY.1) rfl ⟨Nat.le_of_ble_eq_true rfl, Nat.le_of_ble_eq_true rfl⟩ (Nat.le_of_ble_eq_true rfl) ⟨Nat.le_of_ble_eq_true rfl, Nat.le_of_ble_eq_true rfl⟩ ?_
          refine g_istore (L1 := [(0, _), (1, _), (2, _), (3, _), (4, _), (5, _), (6, _), (7, _), (8, _), (9, _)]) dL_isSound_284 (by decide) (by rfl) ?_
          refine g_iload_n dL_isSound_286 (by rfl) ?_
          refine g_iload dL_isSound_287 (by rfl) ?_
          refine g_iadd dL_isSound_289 ?_
          refine g_istore_n (L1 := [(0, _), (1, _), (2, _), (3, _), (4, _), (5, _), (6, _), (7, _), (8, _), (9, _)]) dL_isSound_290 (by decide) (by rfl) ?_
          have J313 : G X RL cL_isSound 12 (some .boolean) "isSound" (Rm 5 0 0) (Fm X (Ex (.int 1) h) 0 0) 0 0 313 [(0, .ref (m 0)), (1, .int 1), (2, .int (nI (cntN (hangs r) (l + 1)))), (3, .int (nI (cntN (rackB r 0) l))), (4, .int (nI (cntN (fun l => cntW 4 (ltx r l)) l))), (5, .int (nI (cntN (fun l => cntW 5 (ltx r l)) l))), (6, .int (sumP (fun _ => true) (fun l => ltx r l 14) l)), (7, .int (nI l)), (8, .int (bI (sold r l))), (9, .int (Q_lotOf r (nI l) 5))] [.int (bI (decide (Q_lotOf r (nI l) 5 = 1) && decide (Q_lotOf r (nI l) 0 = 0))), .int (nI (cntN (rackB r 0) l))] h := by
            skip
            refine g_iadd dL_isSound_313 ?_
            refine g_istore_n (L1 := [(0, _), (1, _), (2, _), (3, _), (4, _), (5, _), (6, _), (7, _), (8, _), (9, _)]) dL_isSound_314 (by decide) (by rfl) ?_
            have J334 : G X RL cL_isSound 12 (some .boolean) "isSound" (Rm 5 0 0) (Fm X (Ex (.int 1) h) 0 0) 0 0 334 [(0, .ref (m 0)), (1, .int 1), (2, .int (nI (cntN (hangs r) (l + 1)))), (3, .int (nI (cntN (rackB r 0) (l + 1)))), (4, .int (nI (cntN (fun l => cntW 4 (ltx r l)) l))), (5, .int (nI (cntN (fun l => cntW 5 (ltx r l)) l))), (6, .int (sumP (fun _ => true) (fun l => ltx r l 14) l)), (7, .int (nI l)), (8, .int (bI (sold r l))), (9, .int (Q_lotOf r (nI l) 5))] [.int (cond (sold r l) 0 (Q_lotOf r (nI l) 6)), .int (nI (cntN (fun l => cntW 4 (ltx r l)) l))] h := by
              skip
              refine g_iadd dL_isSound_334 ?_
              refine g_istore (L1 := [(0, _), (1, _), (2, _), (3, _), (4, _), (5, _), (6, _), (7, _), (8, _), (9, _)]) dL_isSound_335 (by decide) (by rfl) ?_
              rw [fl_s s o hll]
              refine g_iload dL_isSound_337 (by rfl) ?_
              refine g_aload_n dL_isSound_339 (by rfl) (by first | exact isRf_r | exact isRf_n | exact isRf_o | assumption) ?_
              refine g_iload dL_isSound_340 (by rfl) ?_
              refine g_bipush (v := 7) dL_isSound_342 (by decide) ?_
              refine g_cV2x dL_isSound_344 lL_26 vX9_lotOf (ct_X9_lotOf X o hY) (hY.1) rfl ⟨Nat.le_of_ble_eq_true rfl, Nat.le_of_ble_eq_true rfl⟩ (Nat.le_of_ble_eq_true rfl) ⟨Nat.le_of_ble_eq_true rfl, Nat.le_of_ble_eq_true rfl⟩ ?_
              refine g_iadd dL_isSound_347 ?_
              refine g_istore (L1 := [(0, _), (1, _), (2, _), (3, _), (4, _), (5, _), (6, _), (7, _), (8, _), (9, _)]) dL_isSound_348 (by decide) (by rfl) ?_
              rw [fl_d o hll]
              refine g_iload dL_isSound_350 (by rfl) ?_
              refine g_aload_n dL_isSound_352 (by rfl) (by first | exact isRf_r | exact isRf_n | exact isRf_o | assumption) ?_
              refine g_iload dL_isSound_353 (by rfl) ?_
              refine g_bipush (v := 9) dL_isSound_355 (by decide) ?_
              refine g_cV2x dL_isSound_357 lL_26 vX9_lotOf (ct_X9_lotOf X o hY) (hY.1) rfl ⟨Nat.le_of_ble_eq_true rfl, Nat.le_of_ble_eq_true rfl⟩ (Nat.le_of_ble_eq_true rfl) ⟨Nat.le_of_ble_eq_true rfl, Nat.le_of_ble_eq_true rfl⟩ ?_
              refine g_iadd dL_isSound_360 ?_
              refine g_istore (L1 := [(0, _), (1, _), (2, _), (3, _), (4, _), (5, _), (6, _), (7, _), (8, _), (9, _)]) dL_isSound_361 (by decide) (by rfl) ?_
              have J401 : G X RL cL_isSound 12 (some .boolean) "isSound" (Rm 5 0 0) (Fm X (Ex (.int 1) h) 0 0) 0 0 401 [(0, .ref (m 0)), (1, .int 1), (2, .int (nI (cntN (hangs r) (l + 1)))), (3, .int (nI (cntN (rackB r 0) (l + 1)))), (4, .int (nI (cntN (fun l => cntW 4 (ltx r l)) (l + 1)))), (5, .int (nI (cntN (fun l => cntW 5 (ltx r l)) (l + 1)))), (6, .int (sumP (fun _ => true) (fun l => ltx r l 14) (l + 1))), (7, .int (nI l))] [] h := by
                skip
                have J423 : G X RL cL_isSound 12 (some .boolean) "isSound" (Rm 5 0 0) (Fm X (Ex (.int 1) h) 0 0) 0 0 423 [(0, .ref (m 0)), (1, .int 1), (2, .int (nI (cntN (hangs r) (l + 1)))), (3, .int (nI (cntN (rackB r 0) (l + 1)))), (4, .int (nI (cntN (fun l => cntW 4 (ltx r l)) (l + 1)))), (5, .int (nI (cntN (fun l => cntW 5 (ltx r l)) (l + 1)))), (6, .int (sumP (fun _ => true) (fun l => ltx r l 14) (l + 1))), (7, .int (nI l))] [] h := by
                  skip
                  refine g_aload_n dL_isSound_423 (by rfl) (by first | exact isRf_r | exact isRf_n | exact isRf_o | assumption) ?_
                  refine g_iload dL_isSound_424 (by rfl) ?_
                  refine g_iload dL_isSound_426 (by rfl) ?_
                  refine g_cV2x dL_isSound_428 lL_32 vX9_match (ct_X9_match X o hY) (hY.1) rfl ⟨Nat.le_of_ble_eq_true rfl, Nat.le_of_ble_eq_true rfl⟩ (Nat.le_of_ble_eq_true rfl) ⟨Nat.le_of_ble_eq_true rfl, Nat.le_of_ble_eq_true rfl⟩ ?_
                  refine g_iconst (v := 1) dL_isSound_431 (by decide) ?_
                  refine g_icmp_ne (tgt := 459) dL_isSound_432 (by decide) (fun c33 => absurd (fl_m o hll) c33) (fun c33 => ?_)
                  refine g_aload_n dL_isSound_435 (by rfl) (by first | exact isRf_r | exact isRf_n | exact isRf_o | assumption) ?_
                  refine g_iload dL_isSound_436 (by rfl) ?_
                  refine g_iconst (v := 3) dL_isSound_438 (by decide) ?_
                  refine g_cV2x dL_isSound_439 lL_26 vX9_lotOf (ct_X9_lotOf X o hY) (hY.1) rfl ⟨Nat.le_of_ble_eq_true rfl, Nat.le_of_ble_eq_true rfl⟩ (Nat.le_of_ble_eq_true rfl) ⟨Nat.le_of_ble_eq_true rfl, Nat.le_of_ble_eq_true rfl⟩ ?_
                  refine g_if_lt (tgt := 459) dL_isSound_442 (by decide) (fun c34 => absurd c34 (fl_3 o hll)) (fun c34 => ?_)
                  refine g_aload_n dL_isSound_445 (by rfl) (by first | exact isRf_r | exact isRf_n | exact isRf_o | assumption) ?_
                  refine g_iload dL_isSound_446 (by rfl) ?_
                  refine g_iconst (v := 4) dL_isSound_448 (by decide) ?_
                  refine g_cV2x dL_isSound_449 lL_26 vX9_lotOf (ct_X9_lotOf X o hY) (hY.1) rfl ⟨Nat.le_of_ble_eq_true rfl, Nat.le_of_ble_eq_true rfl⟩ (Nat.le_of_ble_eq_true rfl) ⟨Nat.le_of_ble_eq_true rfl, Nat.le_of_ble_eq_true rfl⟩ ?_
                  refine g_if_lt (tgt := 459) dL_isSound_452 (by decide) (fun c35 => absurd c35 (fl_4 o hll)) (fun c35 => ?_)
                  refine g_iconst (v := 1) dL_isSound_455 (by decide) ?_
                  refine g_goto (tgt := 460) dL_isSound_456 (by decide) ?_
                  refine g_istore_n (L1 := [(0, _), (1, _), (2, _), (3, _), (4, _), (5, _), (6, _), (7, _)]) dL_isSound_460 (by decide) (by rfl) ?_
                  refine g_iinc (v := nI (l + 1)) (L1 := [(0, _), (1, _), (2, _), (3, _), (4, _), (5, _), (6, _), (7, _)]) dL_isSound_461 (by rfl) (nI_1 l) (by decide) (by rfl) ?_
                  refine g_goto (tgt := 245) dL_isSound_464 (by decide) ?_
                  exact ih hll
                refine g_aload_n dL_isSound_401 (by rfl) (by first | exact isRf_r | exact isRf_n | exact isRf_o | assumption) ?_
                refine g_iload dL_isSound_402 (by rfl) ?_
                refine g_bipush (v := 7) dL_isSound_404 (by decide) ?_
                refine g_cV2x dL_isSound_406 lL_26 vX9_lotOf (ct_X9_lotOf X o hY) (hY.1) rfl ⟨Nat.le_of_ble_eq_true rfl, Nat.le_of_ble_eq_true rfl⟩ (Nat.le_of_ble_eq_true rfl) ⟨Nat.le_of_ble_eq_true rfl, Nat.le_of_ble_eq_true rfl⟩ ?_
                refine g_if_eq (tgt := 423) dL_isSound_409 (by decide) (fun c36 => ?_) (fun c36 => ?_)
                · skip
                  exact J423
                · skip
                  have hdk := fl_dk s o hll c36
                  refine g_aload_n dL_isSound_412 (by rfl) (by first | exact isRf_r | exact isRf_n | exact isRf_o | assumption) ?_
                  refine g_iload dL_isSound_413 (by rfl) ?_
                  refine g_bipush (v := 6) dL_isSound_415 (by decide) ?_
                  refine g_cV2x dL_isSound_417 lL_26 vX9_lotOf (ct_X9_lotOf X o hY) (hY.1) rfl ⟨Nat.le_of_ble_eq_true rfl, Nat.le_of_ble_eq_true rfl⟩ (Nat.le_of_ble_eq_true rfl) ⟨Nat.le_of_ble_eq_true rfl, Nat.le_of_ble_eq_true rfl⟩ ?_
                  refine g_if_ne (tgt := 459) dL_isSound_420 (by decide) (fun c37 => absurd hdk c37) (fun c37 => ?_)
                  exact J423
              rw [fl_n o hll]
              refine g_iload dL_isSound_363 (by rfl) ?_
              refine g_if_eq (tgt := 401) dL_isSound_365 (by decide) (fun c38 => ?_) (fun c38 => ?_)
              · skip
                refine g_pick [0, 1, 2, 3, 4, 5, 6, 7] rfl ?_
                exact J401
              · skip
                have hs2 := bI_1 c38
                refine g_iload dL_isSound_368 (by rfl) ?_
                refine g_if_ne (tgt := 459) dL_isSound_370 (by decide) (fun c39 => absurd (fl_s5 s o hll hs2) c39) (fun c39 => ?_)
                refine g_aload_n dL_isSound_373 (by rfl) (by first | exact isRf_r | exact isRf_n | exact isRf_o | assumption) ?_
                refine g_iload dL_isSound_374 (by rfl) ?_
                refine g_bipush (v := 6) dL_isSound_376 (by decide) ?_
                refine g_cV2x dL_isSound_378 lL_26 vX9_lotOf (ct_X9_lotOf X o hY) (hY.1) rfl ⟨Nat.le_of_ble_eq_true rfl, Nat.le_of_ble_eq_true rfl⟩ (Nat.le_of_ble_eq_true rfl) ⟨Nat.le_of_ble_eq_true rfl, Nat.le_of_ble_eq_true rfl⟩ ?_
                refine g_if_ne (tgt := 459) dL_isSound_381 (by decide) (fun c40 => absurd (fl_s6 s o hll hs2) c40) (fun c40 => ?_)
                refine g_aload_n dL_isSound_384 (by rfl) (by first | exact isRf_r | exact isRf_n | exact isRf_o | assumption) ?_
                refine g_aload_n dL_isSound_385 (by rfl) (by first | exact isRf_r | exact isRf_n | exact isRf_o | assumption) ?_
                refine g_iload dL_isSound_386 (by rfl) ?_
                refine g_bipush (v := 8) dL_isSound_388 (by decide) ?_
                refine g_cV2x dL_isSound_390 lL_26 vX9_lotOf (ct_X9_lotOf X o hY) (hY.1) rfl ⟨Nat.le_of_ble_eq_true rfl, Nat.le_of_ble_eq_true rfl⟩ (Nat.le_of_ble_eq_true rfl) ⟨Nat.le_of_ble_eq_true rfl, Nat.le_of_ble_eq_true rfl⟩ ?_
                refine g_iconst (v := 4) dL_isSound_393 (by decide) ?_
                refine g_cV2x dL_isSound_394 lL_29 vX9_orderOf (ct_X9_orderOf X o hY) (hY.1) rfl ⟨Nat.le_of_ble_eq_true rfl, Nat.le_of_ble_eq_true rfl⟩ (Nat.le_of_ble_eq_true rfl) ⟨Nat.le_of_ble_eq_true rfl, Nat.le_of_ble_eq_true rfl⟩ ?_
                refine g_iconst (v := 1) dL_isSound_397 (by decide) ?_
                refine g_icmp_ne (tgt := 459) dL_isSound_398 (by decide) (fun c41 => absurd (fl_so s o hll hs2) c41) (fun c41 => ?_)
                refine g_pick [0, 1, 2, 3, 4, 5, 6, 7] rfl ?_
                exact J401
            rw [fl_l o hll]
            refine g_iload dL_isSound_315 (by rfl) ?_
            refine g_iload dL_isSound_317 (by rfl) ?_
            refine g_if_eq (tgt := 326) dL_isSound_319 (by decide) (fun c42 => ?_) (fun c42 => ?_)
            · skip
              have hs := bI_0 c42
              refine g_aload_n dL_isSound_326 (by rfl) (by first | exact isRf_r | exact isRf_n | exact isRf_o | assumption) ?_
              refine g_iload dL_isSound_327 (by rfl) ?_
              refine g_bipush (v := 6) dL_isSound_329 (by decide) ?_
              refine g_cV2x dL_isSound_331 lL_26 vX9_lotOf (ct_X9_lotOf X o hY) (hY.1) rfl ⟨Nat.le_of_ble_eq_true rfl, Nat.le_of_ble_eq_true rfl⟩ (Nat.le_of_ble_eq_true rfl) ⟨Nat.le_of_ble_eq_true rfl, Nat.le_of_ble_eq_true rfl⟩ ?_
              exact g_stk (by rw [hs]; rfl) J334
            · skip
              have hs := bI_1 c42
              refine g_iconst (v := 0) dL_isSound_322 (by decide) ?_
              refine g_goto (tgt := 334) dL_isSound_323 (by decide) ?_
              exact g_stk (by rw [hs]; rfl) J334
          rw [fl_h o hll]
          refine g_iload_n dL_isSound_291 (by rfl) ?_
          refine g_iload dL_isSound_292 (by rfl) ?_
          refine g_iconst (v := 1) dL_isSound_294 (by decide) ?_
          refine g_icmp_ne (tgt := 312) dL_isSound_295 (by decide) (fun c43 => ?_) (fun c43 => ?_)
          · skip
            refine g_iconst (v := 0) dL_isSound_312 (by decide) ?_
            first
              | exact g_stk (by rw [decide_eq_true (show Q_lotOf r (nI l) 5 = 1 by assumption), decide_eq_true (show Q_lotOf r (nI l) 0 = 0 by assumption)]; rfl) J313
              | exact g_stk (by rw [decide_eq_false (show ¬ Q_lotOf r (nI l) 5 = 1 by assumption)]; rfl) J313
              | exact g_stk (by rw [decide_eq_false (show ¬ Q_lotOf r (nI l) 0 = 0 by assumption), Bool.and_false]; rfl) J313
          · skip
            refine g_aload_n dL_isSound_298 (by rfl) (by first | exact isRf_r | exact isRf_n | exact isRf_o | assumption) ?_
            refine g_iload dL_isSound_299 (by rfl) ?_
            refine g_iconst (v := 0) dL_isSound_301 (by decide) ?_
            refine g_cV2x dL_isSound_302 lL_26 vX9_lotOf (ct_X9_lotOf X o hY) (hY.1) rfl ⟨Nat.le_of_ble_eq_true rfl, Nat.le_of_ble_eq_true rfl⟩ (Nat.le_of_ble_eq_true rfl) ⟨Nat.le_of_ble_eq_true rfl, Nat.le_of_ble_eq_true rfl⟩ ?_
            refine g_if_ne (tgt := 312) dL_isSound_305 (by decide) (fun c44 => ?_) (fun c44 => ?_)
            · skip
              refine g_iconst (v := 0) dL_isSound_312 (by decide) ?_
              first
                | exact g_stk (by rw [decide_eq_true (show Q_lotOf r (nI l) 5 = 1 by assumption), decide_eq_true (show Q_lotOf r (nI l) 0 = 0 by assumption)]; rfl) J313
                | exact g_stk (by rw [decide_eq_false (show ¬ Q_lotOf r (nI l) 5 = 1 by assumption)]; rfl) J313
                | exact g_stk (by rw [decide_eq_false (show ¬ Q_lotOf r (nI l) 0 = 0 by assumption), Bool.and_false]; rfl) J313
            · skip
              refine g_iconst (v := 1) dL_isSound_308 (by decide) ?_
              refine g_goto (tgt := 313) dL_isSound_309 (by decide) ?_
              first
                | exact g_stk (by rw [decide_eq_true (show Q_lotOf r (nI l) 5 = 1 by assumption), decide_eq_true (show Q_lotOf r (nI l) 0 = 0 by assumption)]; rfl) J313
                | exact g_stk (by rw [decide_eq_false (show ¬ Q_lotOf r (nI l) 5 = 1 by assumption)]; rfl) J313
                | exact g_stk (by rw [decide_eq_false (show ¬ Q_lotOf r (nI l) 0 = 0 by assumption), Bool.and_false]; rfl) J313
      exact loop245 0 (Nat.zero_le _)
    · skip
      have hd4 : d < 4 := nge_nI (x := 4) (N := 4) (by decide) (by omega) hd c6
      refine g_iload_n dL_isSound_86 (by rfl) ?_
      refine g_if_eq (tgt := 229) dL_isSound_87 (by decide) (fun c45 => absurd c45 (by decide)) (fun c45 => ?_)
      refine g_aload_n dL_isSound_90 (by rfl) (by first | exact isRf_r | exact isRf_n | exact isRf_o | assumption) ?_
      refine g_iload_n dL_isSound_91 (by rfl) ?_
      refine g_iconst (v := 0) dL_isSound_92 (by decide) ?_
      refine g_cV2x dL_isSound_93 lL_15 vX9_account (ct_X9_account X o hY) (hY.1) rfl ⟨Nat.le_of_ble_eq_true rfl, Nat.le_of_ble_eq_true rfl⟩ (Nat.le_of_ble_eq_true rfl) ⟨Nat.le_of_ble_eq_true rfl, Nat.le_of_ble_eq_true rfl⟩ ?_
      refine g_aload_n dL_isSound_96 (by rfl) (by first | exact isRf_r | exact isRf_n | exact isRf_o | assumption) ?_
      refine g_iload_n dL_isSound_97 (by rfl) ?_
      refine g_iconst (v := 1) dL_isSound_98 (by decide) ?_
      refine g_cV2x dL_isSound_99 lL_15 vX9_account (ct_X9_account X o hY) (hY.1) rfl ⟨Nat.le_of_ble_eq_true rfl, Nat.le_of_ble_eq_true rfl⟩ (Nat.le_of_ble_eq_true rfl) ⟨Nat.le_of_ble_eq_true rfl, Nat.le_of_ble_eq_true rfl⟩ ?_
      refine g_aload_n dL_isSound_102 (by rfl) (by first | exact isRf_r | exact isRf_n | exact isRf_o | assumption) ?_
      refine g_iload_n dL_isSound_103 (by rfl) ?_
      refine g_iconst (v := 2) dL_isSound_104 (by decide) ?_
      refine g_cV2x dL_isSound_105 lL_15 vX9_account (ct_X9_account X o hY) (hY.1) rfl ⟨Nat.le_of_ble_eq_true rfl, Nat.le_of_ble_eq_true rfl⟩ (Nat.le_of_ble_eq_true rfl) ⟨Nat.le_of_ble_eq_true rfl, Nat.le_of_ble_eq_true rfl⟩ ?_
      refine g_iadd dL_isSound_108 ?_
      refine g_aload_n dL_isSound_109 (by rfl) (by first | exact isRf_r | exact isRf_n | exact isRf_o | assumption) ?_
      refine g_iload_n dL_isSound_110 (by rfl) ?_
      refine g_iconst (v := 3) dL_isSound_111 (by decide) ?_
      refine g_cV2x dL_isSound_112 lL_15 vX9_account (ct_X9_account X o hY) (hY.1) rfl ⟨Nat.le_of_ble_eq_true rfl, Nat.le_of_ble_eq_true rfl⟩ (Nat.le_of_ble_eq_true rfl) ⟨Nat.le_of_ble_eq_true rfl, Nat.le_of_ble_eq_true rfl⟩ ?_
      refine g_iadd dL_isSound_115 ?_
      refine g_aload_n dL_isSound_116 (by rfl) (by first | exact isRf_r | exact isRf_n | exact isRf_o | assumption) ?_
      refine g_iload_n dL_isSound_117 (by rfl) ?_
      refine g_iconst (v := 4) dL_isSound_118 (by decide) ?_
      refine g_cV2x dL_isSound_119 lL_15 vX9_account (ct_X9_account X o hY) (hY.1) rfl ⟨Nat.le_of_ble_eq_true rfl, Nat.le_of_ble_eq_true rfl⟩ (Nat.le_of_ble_eq_true rfl) ⟨Nat.le_of_ble_eq_true rfl, Nat.le_of_ble_eq_true rfl⟩ ?_
      refine g_iadd dL_isSound_122 ?_
      refine g_aload_n dL_isSound_123 (by rfl) (by first | exact isRf_r | exact isRf_n | exact isRf_o | assumption) ?_
      refine g_iload_n dL_isSound_124 (by rfl) ?_
      refine g_iconst (v := 5) dL_isSound_125 (by decide) ?_
      refine g_cV2x dL_isSound_126 lL_15 vX9_account (ct_X9_account X o hY) (hY.1) rfl ⟨Nat.le_of_ble_eq_true rfl, Nat.le_of_ble_eq_true rfl⟩ (Nat.le_of_ble_eq_true rfl) ⟨Nat.le_of_ble_eq_true rfl, Nat.le_of_ble_eq_true rfl⟩ ?_
      refine g_iadd dL_isSound_129 ?_
      refine g_icmp_ne (tgt := 221) dL_isSound_130 (by decide) (fun c46 => absurd (fs_6 s hd4) c46) (fun c46 => ?_)
      refine g_aload_n dL_isSound_133 (by rfl) (by first | exact isRf_r | exact isRf_n | exact isRf_o | assumption) ?_
      refine g_iload_n dL_isSound_134 (by rfl) ?_
      refine g_iconst (v := 0) dL_isSound_135 (by decide) ?_
      refine g_cV2x dL_isSound_136 lL_15 vX9_account (ct_X9_account X o hY) (hY.1) rfl ⟨Nat.le_of_ble_eq_true rfl, Nat.le_of_ble_eq_true rfl⟩ (Nat.le_of_ble_eq_true rfl) ⟨Nat.le_of_ble_eq_true rfl, Nat.le_of_ble_eq_true rfl⟩ ?_
      refine g_ldc dL_isSound_139 cL_19 ?_
      refine g_icmp_gt (tgt := 221) dL_isSound_141 (by decide) (fun c47 => absurd c47 (fs_7 o hd4)) (fun c47 => ?_)
      refine g_aload_n dL_isSound_144 (by rfl) (by first | exact isRf_r | exact isRf_n | exact isRf_o | assumption) ?_
      refine g_iload_n dL_isSound_145 (by rfl) ?_
      refine g_cV1x dL_isSound_146 lL_20 vX9_alike (ct_X9_alike X o hY) (hY.1) rfl ⟨Nat.le_of_ble_eq_true rfl, Nat.le_of_ble_eq_true rfl⟩ (Nat.le_of_ble_eq_true rfl) ⟨Nat.le_of_ble_eq_true rfl, Nat.le_of_ble_eq_true rfl⟩ ?_
      refine g_aload_n dL_isSound_149 (by rfl) (by first | exact isRf_r | exact isRf_n | exact isRf_o | assumption) ?_
      refine g_iconst (v := 2) dL_isSound_150 (by decide) ?_
      refine g_cV1x dL_isSound_151 lL_9 vX9_count (ct_X9_count X o hY) (hY.1) rfl ⟨Nat.le_of_ble_eq_true rfl, Nat.le_of_ble_eq_true rfl⟩ (Nat.le_of_ble_eq_true rfl) ⟨Nat.le_of_ble_eq_true rfl, Nat.le_of_ble_eq_true rfl⟩ ?_
      refine g_icmp_gt (tgt := 221) dL_isSound_154 (by decide) (fun c48 => absurd c48 (fs_8 o hd4)) (fun c48 => ?_)
      refine g_aload_n dL_isSound_157 (by rfl) (by first | exact isRf_r | exact isRf_n | exact isRf_o | assumption) ?_
      refine g_iconst (v := 2) dL_isSound_158 (by decide) ?_
      refine g_cV1x dL_isSound_159 lL_9 vX9_count (ct_X9_count X o hY) (hY.1) rfl ⟨Nat.le_of_ble_eq_true rfl, Nat.le_of_ble_eq_true rfl⟩ (Nat.le_of_ble_eq_true rfl) ⟨Nat.le_of_ble_eq_true rfl, Nat.le_of_ble_eq_true rfl⟩ ?_
      refine g_ifD_ne dL_isSound_162 dL_isSound_165 dL_isSound_166 dL_isSound_169 ?_
      refine g_aload_n dL_isSound_170 (by rfl) (by first | exact isRf_r | exact isRf_n | exact isRf_o | assumption) ?_
      refine g_iload_n dL_isSound_171 (by rfl) ?_
      refine g_cV1x dL_isSound_172 lL_20 vX9_alike (ct_X9_alike X o hY) (hY.1) rfl ⟨Nat.le_of_ble_eq_true rfl, Nat.le_of_ble_eq_true rfl⟩ (Nat.le_of_ble_eq_true rfl) ⟨Nat.le_of_ble_eq_true rfl, Nat.le_of_ble_eq_true rfl⟩ ?_
      refine g_ifD_ne dL_isSound_175 dL_isSound_178 dL_isSound_179 dL_isSound_182 ?_
      refine g_icmp_ne (tgt := 221) dL_isSound_183 (by decide) (fun c49 => absurd (fs_9 o hd4) c49) (fun c49 => ?_)
      refine g_aload_n dL_isSound_186 (by rfl) (by first | exact isRf_r | exact isRf_n | exact isRf_o | assumption) ?_
      refine g_iconst (v := 2) dL_isSound_187 (by decide) ?_
      refine g_cV1x dL_isSound_188 lL_9 vX9_count (ct_X9_count X o hY) (hY.1) rfl ⟨Nat.le_of_ble_eq_true rfl, Nat.le_of_ble_eq_true rfl⟩ (Nat.le_of_ble_eq_true rfl) ⟨Nat.le_of_ble_eq_true rfl, Nat.le_of_ble_eq_true rfl⟩ ?_
      refine g_ifD_ne dL_isSound_191 dL_isSound_194 dL_isSound_195 dL_isSound_198 ?_
      refine g_aload_n dL_isSound_199 (by rfl) (by first | exact isRf_r | exact isRf_n | exact isRf_o | assumption) ?_
      refine g_iload_n dL_isSound_200 (by rfl) ?_
      refine g_cV1x dL_isSound_201 lL_23 vX9_meanBits (ct_X9_meanBits X o hY) (hY.1) rfl ⟨Nat.le_of_ble_eq_true rfl, Nat.le_of_ble_eq_true rfl⟩ (Nat.le_of_ble_eq_true rfl) ⟨Nat.le_of_ble_eq_true rfl, Nat.le_of_ble_eq_true rfl⟩ ?_
      refine g_bipush (v := (-4)) dL_isSound_204 (by decide) ?_
      refine g_icmpD_ne dL_isSound_206 dL_isSound_209 dL_isSound_210 dL_isSound_213 ?_
      refine g_icmp_ne (tgt := 221) dL_isSound_214 (by decide) (fun c50 => absurd (fs_10 o hd4) c50) (fun c50 => ?_)
      refine g_iconst (v := 1) dL_isSound_217 (by decide) ?_
      refine g_goto (tgt := 222) dL_isSound_218 (by decide) ?_
      refine g_istore_n (L1 := [(0, _), (1, _), (2, _)]) dL_isSound_222 (by decide) (by rfl) ?_
      refine g_iinc (v := nI (d + 1)) (L1 := [(0, _), (1, _), (2, _)]) dL_isSound_223 (by rfl) (nI_1 d) (by decide) (by rfl) ?_
      refine g_goto (tgt := 81) dL_isSound_226 (by decide) ?_
      exact ih hd4
  exact loop81 0 (by omega)
