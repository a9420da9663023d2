theorem Ok.lk {r : Nat → Int32} {nl : Nat} (k : Ok r) (h : nl ≤ 20) (e : r 8 = nI nl) : ∀ l, l < nl → LOk (ltx r l) := by
  intro l hl
  obtain ⟨nv, nl2, no, hnv, hnl, hno, e7, e8, e9, hset, hvok, hvz, hlok, hlz, hok, hoz, hw⟩ := k
  have q := c_eq (a := nl) (b := nl2) (by omega) (by omega) (e.symm.trans e8)
  exact hlok l (by omega)
theorem fit_e {x o r : Nat → Int32} : (decide (x 11 = 0) && allB (fun d => decide (dist (shF x d) (o d) ≤ r 4)) 4) = fitB x o r := by
  have q : ∀ n, allB (fun d => decide (dist (shF x d) (o d) ≤ r 4)) n = true ↔ ∀ d, d < n → dist (shF x d) (o d) ≤ r 4 := by
    intro n
    induction n with
    | zero => exact ⟨fun _ d hd => absurd hd (by omega), fun _ => rfl⟩
    | succ n ih =>
      show (allB _ n && decide _) = true ↔ _
      rw [Bool.and_eq_true, ih, decide_eq_true_iff]
      refine ⟨fun h d hd => ?_, fun h => ⟨fun d hd => h d (by omega), h n (by omega)⟩⟩
      by_cases e : d = n
      · subst e; exact h.2
      · exact h.1 d (by omega)
  refine Bool.eq_iff_iff.mpr ?_
  rw [fitB_i, Bool.and_eq_true, q, decide_eq_true_iff]
  exact Iff.rfl

set_option maxHeartbeats 4000000 in
set_option maxRecDepth 100000 in
theorem ct_X10_dips (X : Cx) {h : Hp} {a n1 : Nat} {r : Nat → Int32} {w : Int32} {z : Int32}  (hM : MoAt X h a n1 r) (hO : Ok r) : Ct X mX10_dips 4 0 0 [.ref a, .int w, .int z] h (Ex (.int (F_dip r w z).1) (hr X h n1 (F_dip r w z).2)) := by
  obtain ⟨⟨n2, st, n3, n4, le, n5, at0, lt, n6, fl, n7, m0⟩, m1⟩ := id hM
  unfold mdl at m0
  have dA := hM.ne
  obtain ⟨nv, nl, no, hnv, hnl, hno, e7, e8, e9, hset, hvok, hvz, hlok, hlz, hok, hoz, hw⟩ := id hO
  refine Ct.ofG vX10_dips.1.2.2.1 (Nat.le_of_ble_eq_true rfl) ?_
  show G X RX10 cX10_dips 3 (some .int) "dips" (Rm 4 0 0) (Fm X (Ex (.int (F_dip r w z).1) (hr X h n1 (F_dip r w z).2)) 0 0) 0 0 0 [(0, .ref a), (1, .int w), (2, .int z)] [] h
  refine g_aload_n dX10_dips_0 (by rfl) (by first | exact isRf_r | exact isRf_n | exact isRf_o | assumption) ?_
  refine g_iload_n dX10_dips_1 (by rfl) ?_
  refine g_cV1x dX10_dips_2 lX10_94 vX10_isLot (ct_X10_isLot X (n := nl) (by first | exact hM | exact hM.hr) (by omega) e8) (by first | exact m0 | exact hr_a dA m0) rfl ⟨Nat.le_of_ble_eq_true rfl, Nat.le_of_ble_eq_true rfl⟩ (Nat.le_of_ble_eq_true rfl) ⟨Nat.le_of_ble_eq_true rfl, Nat.le_of_ble_eq_true rfl⟩ ?_
  refine g_if_eq (tgt := 16) dX10_dips_5 (by decide) (fun c1 => ?_) (fun c1 => ?_)
  · skip
    have eF : F_dip r w z = (-1, r) := by
      unfold F_dip
      rw [e8, show okB (nI nl) w = false from bI_0 c1]
      rfl
    refine g_iconst (v := (-1)) dX10_dips_16 (by decide) ?_
    refine g_iret dX10_dips_17 rfl (Nat.le_refl _) (Nat.le_refl _) ?_
    rw [eF]
    first | exact Ex.i rfl rfl | exact Ex.i rfl (hr_id m1).symm
  · skip
    have hk : okB (nI nl) w = true := bI_1 c1
    obtain ⟨l, hl, rfl⟩ := okB_i (by omega) hk
    have cj : cl (nI l) = l := cl_nI (by omega)
    have hlo := hlok l hl
    have hl20 : l < 20 := by omega
    refine g_aload_n dX10_dips_8 (by rfl) (by first | exact isRf_r | exact isRf_n | exact isRf_o | assumption) ?_
    refine g_iload_n dX10_dips_9 (by rfl) ?_
    refine g_cV1x dX10_dips_10 lX10_53 vX10_isVat (ct_X10_isVat X (n := nv) (by first | exact hM | exact hM.hr) (by omega) e7) (by first | exact m0 | exact hr_a dA m0) rfl ⟨Nat.le_of_ble_eq_true rfl, Nat.le_of_ble_eq_true rfl⟩ (Nat.le_of_ble_eq_true rfl) ⟨Nat.le_of_ble_eq_true rfl, Nat.le_of_ble_eq_true rfl⟩ ?_
    refine g_if_ne (tgt := 18) dX10_dips_13 (by decide) (fun c2 => ?_) (fun c2 => ?_)
    · skip
      have hkv : okB (nI nv) z = true := bI_1 c2
      obtain ⟨v, hv, rfl⟩ := okB_i (by omega) hkv
      have cv : cl (nI v) = v := cl_nI (by omega)
      have hvo := hvok v hv
      obtain ⟨⟨d, hd, ed⟩, hli1, hli2, hgr⟩ := id hvo
      refine g_aload_n dX10_dips_18 (by rfl) (by first | exact isRf_r | exact isRf_n | exact isRf_o | assumption) ?_
      refine g_iload_n dX10_dips_19 (by rfl) ?_
      refine g_cV1x dX10_dips_20 lX10_97 vX10_isSold (ct_X10_isSold X (l := l) hM (by omega) hlo.s13) (by first | exact m0 | exact hr_a dA m0) rfl ⟨Nat.le_of_ble_eq_true rfl, Nat.le_of_ble_eq_true rfl⟩ (Nat.le_of_ble_eq_true rfl) ⟨Nat.le_of_ble_eq_true rfl, Nat.le_of_ble_eq_true rfl⟩ ?_
      refine g_if_ne (tgt := 43) dX10_dips_23 (by decide) (fun c3 => ?_) (fun c3 => ?_)
      · skip
        have eF : F_dip r (nI l) (nI v) = (-2, r) := by
          unfold F_dip
          rw [e8, e7, hk, hkv, cj, show sold r l = true from bI_1 c3]
          rfl
        refine g_bipush (v := (-2)) dX10_dips_43 (by decide) ?_
        refine g_goto (tgt := 54) dX10_dips_45 (by decide) ?_
        refine g_iret dX10_dips_54 rfl (Nat.le_refl _) (Nat.le_refl _) ?_
        rw [eF]
        first | exact Ex.i rfl rfl | exact Ex.i rfl (hr_id m1).symm
      · skip
        have hs0 := bI_0 c3
        refine g_aload_n dX10_dips_26 (by rfl) (by first | exact isRf_r | exact isRf_n | exact isRf_o | assumption) ?_
        refine g_iload_n dX10_dips_27 (by rfl) ?_
        refine g_cV1x dX10_dips_28 lX10_100 vX10_hangs (ct_X10_hangs X (l := l) hM (by omega) hlo.b10) (by first | exact m0 | exact hr_a dA m0) rfl ⟨Nat.le_of_ble_eq_true rfl, Nat.le_of_ble_eq_true rfl⟩ (Nat.le_of_ble_eq_true rfl) ⟨Nat.le_of_ble_eq_true rfl, Nat.le_of_ble_eq_true rfl⟩ ?_
        refine g_if_ne (tgt := 43) dX10_dips_31 (by decide) (fun c4 => ?_) (fun c4 => ?_)
        · skip
          have eF : F_dip r (nI l) (nI v) = (-2, r) := by
            unfold F_dip
            rw [e8, e7, hk, hkv, cj, hs0, show hangs r l = true from bI_1 c4]
            rfl
          refine g_bipush (v := (-2)) dX10_dips_43 (by decide) ?_
          refine g_goto (tgt := 54) dX10_dips_45 (by decide) ?_
          refine g_iret dX10_dips_54 rfl (Nat.le_refl _) (Nat.le_refl _) ?_
          rw [eF]
          first | exact Ex.i rfl rfl | exact Ex.i rfl (hr_id m1).symm
        · skip
          have hh0 := bI_0 c4
          refine g_aload_n dX10_dips_34 (by rfl) (by first | exact isRf_r | exact isRf_n | exact isRf_o | assumption) ?_
          refine g_iload_n dX10_dips_35 (by rfl) ?_
          refine g_iconst (v := 2) dX10_dips_36 (by decide) ?_
          refine g_cV2x dX10_dips_37 lX10_57 vX10_vatNumber (ct_X10_vatNumber X (i := v) (k := 2) (by first | exact hM | exact hM.hr) (by omega)) (by first | exact m0 | exact hr_a dA m0) rfl ⟨Nat.le_of_ble_eq_true rfl, Nat.le_of_ble_eq_true rfl⟩ (Nat.le_of_ble_eq_true rfl) ⟨Nat.le_of_ble_eq_true rfl, Nat.le_of_ble_eq_true rfl⟩ ?_
          refine g_if_ne (tgt := 48) dX10_dips_40 (by decide) (fun c5 => ?_) (fun c5 => ?_)
          · skip
            have hg0 : ¬ vt r v 2 ≤ 0 := fun y => c5 (Int32.toInt_inj.mp (by rw [i_le, z_toInt] at y; rw [z_toInt]; show (vt r v 2).toInt = 0; omega))
            have eF : F_dip r (nI l) (nI v) = (tkR r l v, dyeR r l v) := by
              unfold F_dip
              rw [e8, e7, hk, hkv, cj, cv, hs0, hh0, decide_eq_false hg0]
              rfl
            refine g_aload_n dX10_dips_48 (by rfl) (by first | exact isRf_r | exact isRf_n | exact isRf_o | assumption) ?_
            refine g_iload_n dX10_dips_49 (by rfl) ?_
            refine g_iload_n dX10_dips_50 (by rfl) ?_
            refine g_cV2x dX10_dips_51 lX10_103 vX10_dyes (ct_X10_dyes X hM hO hl20 (by omega) hlo hvo hd ed rfl) (by first | exact m0 | exact hr_a dA m0) rfl ⟨Nat.le_of_ble_eq_true rfl, Nat.le_of_ble_eq_true rfl⟩ (Nat.le_of_ble_eq_true rfl) ⟨Nat.le_of_ble_eq_true rfl, Nat.le_of_ble_eq_true rfl⟩ ?_
            refine g_iret dX10_dips_54 rfl (Nat.le_refl _) (Nat.le_refl _) ?_
            rw [eF]
            first | exact Ex.i rfl rfl | exact Ex.i rfl (hr_id m1).symm
          · skip
            have hg0 : vt r v 2 ≤ 0 := by
              rw [show vt r v 2 = 0 from c5]
              exact Int32.le_refl _
            have eF : F_dip r (nI l) (nI v) = (-2, r) := by
              unfold F_dip
              rw [e8, e7, hk, hkv, cj, cv, hs0, hh0, decide_eq_true hg0]
              rfl
            refine g_bipush (v := (-2)) dX10_dips_43 (by decide) ?_
            refine g_goto (tgt := 54) dX10_dips_45 (by decide) ?_
            refine g_iret dX10_dips_54 rfl (Nat.le_refl _) (Nat.le_refl _) ?_
            rw [eF]
            first | exact Ex.i rfl rfl | exact Ex.i rfl (hr_id m1).symm
    · skip
      have eF : F_dip r (nI l) z = (-1, r) := by
        unfold F_dip
        rw [e8, e7, hk, show okB (nI nv) z = false from bI_0 c2]
        rfl
      refine g_iconst (v := (-1)) dX10_dips_16 (by decide) ?_
      refine g_iret dX10_dips_17 rfl (Nat.le_refl _) (Nat.le_refl _) ?_
      rw [eF]
      first | exact Ex.i rfl rfl | exact Ex.i rfl (hr_id m1).symm

set_option maxHeartbeats 4000000 in
set_option maxRecDepth 100000 in
theorem ct_X10_rinses (X : Cx) {h : Hp} {a n1 : Nat} {r : Nat → Int32} {w : Int32}  (hM : MoAt X h a n1 r) (hO : Ok r) : Ct X mX10_rinses 2 0 0 [.ref a, .int w] h (Ex (.int (F_rinse r w).1) (hr X h n1 (F_rinse r w).2)) := by
  obtain ⟨⟨n2, st, n3, n4, le, n5, at0, lt, n6, fl, n7, m0⟩, m1⟩ := id hM
  unfold mdl at m0
  have dA := hM.ne
  obtain ⟨nv, nl, no, hnv, hnl, hno, e7, e8, e9, hset, hvok, hvz, hlok, hlz, hok, hoz, hw⟩ := id hO
  refine Ct.ofG vX10_rinses.1.2.2.1 (Nat.le_of_ble_eq_true rfl) ?_
  show G X RX10 cX10_rinses 5 (some .int) "rinses" (Rm 2 0 0) (Fm X (Ex (.int (F_rinse r w).1) (hr X h n1 (F_rinse r w).2)) 0 0) 0 0 0 [(0, .ref a), (1, .int w)] [] h
  refine g_aload_n dX10_rinses_0 (by rfl) (by first | exact isRf_r | exact isRf_n | exact isRf_o | assumption) ?_
  refine g_iload_n dX10_rinses_1 (by rfl) ?_
  refine g_cV1x dX10_rinses_2 lX10_94 vX10_isLot (ct_X10_isLot X (n := nl) (by first | exact hM | exact hM.hr) (by omega) e8) (by first | exact m0 | exact hr_a dA m0) rfl ⟨Nat.le_of_ble_eq_true rfl, Nat.le_of_ble_eq_true rfl⟩ (Nat.le_of_ble_eq_true rfl) ⟨Nat.le_of_ble_eq_true rfl, Nat.le_of_ble_eq_true rfl⟩ ?_
  refine g_if_ne (tgt := 10) dX10_rinses_5 (by decide) (fun c1 => ?_) (fun c1 => ?_)
  · skip
    have hk : okB (nI nl) w = true := bI_1 c1
    obtain ⟨l, hl, rfl⟩ := okB_i (by omega) hk
    have cj : cl (nI l) = l := cl_nI (by omega)
    have hlo := hlok l hl
    have hl20 : l < 20 := by omega
    refine g_aload_n dX10_rinses_10 (by rfl) (by first | exact isRf_r | exact isRf_n | exact isRf_o | assumption) ?_
    refine g_iload_n dX10_rinses_11 (by rfl) ?_
    refine g_cV1x dX10_rinses_12 lX10_97 vX10_isSold (ct_X10_isSold X (l := l) hM (by omega) hlo.s13) (by first | exact m0 | exact hr_a dA m0) rfl ⟨Nat.le_of_ble_eq_true rfl, Nat.le_of_ble_eq_true rfl⟩ (Nat.le_of_ble_eq_true rfl) ⟨Nat.le_of_ble_eq_true rfl, Nat.le_of_ble_eq_true rfl⟩ ?_
    refine g_if_ne (tgt := 26) dX10_rinses_15 (by decide) (fun c2 => ?_) (fun c2 => ?_)
    · skip
      have eF : F_rinse r (nI l) = (-2, r) := by
        unfold F_rinse
        rw [e8, hk, cj, show sold r l = true from bI_1 c2]
        rfl
      refine g_bipush (v := (-2)) dX10_rinses_26 (by decide) ?_
      refine g_iret dX10_rinses_28 rfl (Nat.le_refl _) (Nat.le_refl _) ?_
      rw [eF]
      first
        | exact Ex.i rfl (hr_id m1).symm
        | exact Ex.i eacc rfl
    · skip
      have hs0 := bI_0 c2
      refine g_aload_n dX10_rinses_18 (by rfl) (by first | exact isRf_r | exact isRf_n | exact isRf_o | assumption) ?_
      refine g_iload_n dX10_rinses_19 (by rfl) ?_
      refine g_cV1x dX10_rinses_20 lX10_100 vX10_hangs (ct_X10_hangs X (l := l) hM (by omega) hlo.b10) (by first | exact m0 | exact hr_a dA m0) rfl ⟨Nat.le_of_ble_eq_true rfl, Nat.le_of_ble_eq_true rfl⟩ (Nat.le_of_ble_eq_true rfl) ⟨Nat.le_of_ble_eq_true rfl, Nat.le_of_ble_eq_true rfl⟩ ?_
      refine g_if_eq (tgt := 29) dX10_rinses_23 (by decide) (fun c3 => ?_) (fun c3 => ?_)
      · skip
        have hh0 := bI_0 c3
        have eF : F_rinse r (nI l) = (sumI (fun d => ltx r l (6 + d)) 4, rinR r l 4) := by
          unfold F_rinse
          rw [e8, hk, cj, hs0, hh0]
          rfl
        refine g_iconst (v := 0) dX10_rinses_29 (by decide) ?_
        refine g_istore_n (L1 := [(0, _), (1, _), (2, _)]) dX10_rinses_30 (by decide) (by rfl) ?_
        refine g_iconst (v := 0) dX10_rinses_31 (by decide) ?_
        refine g_istore_n (L1 := [(0, _), (1, _), (2, _), (3, _)]) dX10_rinses_32 (by decide) (by rfl) ?_
        have loop33 : ∀ i, i ≤ 4 → ∀ acc, acc = sumI (fun d => ltx r l (6 + d)) i → G X RX10 cX10_rinses 5 (some .int) "rinses" (Rm 2 0 0) (Fm X (Ex (.int (F_rinse r (nI l)).1) (hr X h n1 (F_rinse r (nI l)).2)) 0 0) 0 0 33 [(0, .ref a), (1, .int (nI l)), (2, .int acc), (3, .int (nI i))] [] (hr X h n1 (rinR r l i)) := by
          refine up_ind 4 (fun i hi ih => ?_)
          intro acc eacc
          refine g_iload_n dX10_rinses_33 (by rfl) ?_
          refine g_iconst (v := 4) dX10_rinses_34 (by decide) ?_
          refine g_icmp_ge (tgt := 84) dX10_rinses_35 (by decide) (fun c4 => ?_) (fun c4 => ?_)
          · skip
            have hie : i = 4 := Nat.le_antisymm hi (c_ge (a := 4) (by omega) (by omega) c4)
            subst hie
            refine g_iload_n dX10_rinses_84 (by rfl) ?_
            refine g_iret dX10_rinses_85 rfl (Nat.le_refl _) (Nat.le_refl _) ?_
            rw [eF]
            first
              | exact Ex.i rfl (hr_id m1).symm
              | exact Ex.i eacc rfl
          · skip
            have hi4 : i < 4 := c_nge (a := 4) (b := i) (by omega) (by omega) c4
            refine g_aload_n dX10_rinses_38 (by rfl) (by first | exact isRf_r | exact isRf_n | exact isRf_o | assumption) ?_
            refine g_iload_n dX10_rinses_39 (by rfl) ?_
            refine g_bipush (v := 6) dX10_rinses_40 (by decide) ?_
            refine g_iload_n dX10_rinses_42 (by rfl) ?_
            refine g_iadd dX10_rinses_43 ?_
            rw [show (6 : Int32) + nI i = nI (6 + i) from linA]
            refine g_cV2x dX10_rinses_44 lX10_35 vX10_lotNumber (ct_X10_lotNumber X (i := l) (k := 6 + i) (by first | exact hM | exact hM.hr) (by omega)) (by first | exact m0 | exact hr_a dA m0) rfl ⟨Nat.le_of_ble_eq_true rfl, Nat.le_of_ble_eq_true rfl⟩ (Nat.le_of_ble_eq_true rfl) ⟨Nat.le_of_ble_eq_true rfl, Nat.le_of_ble_eq_true rfl⟩ ?_
            refine g_istore (L1 := [(0, _), (1, _), (2, _), (3, _), (4, _)]) dX10_rinses_47 (by decide) (by rfl) ?_
            refine g_iload_n dX10_rinses_49 (by rfl) ?_
            refine g_iload dX10_rinses_50 (by rfl) ?_
            refine g_iadd dX10_rinses_52 ?_
            refine g_istore_n (L1 := [(0, _), (1, _), (2, _), (3, _), (4, _)]) dX10_rinses_53 (by decide) (by rfl) ?_
            refine g_aload_n dX10_rinses_54 (by rfl) (by first | exact isRf_r | exact isRf_n | exact isRf_o | assumption) ?_
            refine g_getf dX10_rinses_55 fX10_7 (by first | exact m0 | exact hr_a dA m0) (by rfl) ?_
            refine g_bipush (v := 15) dX10_rinses_58 (by decide) ?_
            refine g_iload_n dX10_rinses_60 (by rfl) ?_
            refine g_iadd dX10_rinses_61 ?_
            refine g_dup2 dX10_rinses_62 (by rfl) (by rfl) ?_
            refine g_ilM (15 + i) dX10_rinses_63 (by first | exact m1 | exact hr_n) (by first | rfl | exact lin3 | exact lin3a | exact linA | exact linB) (by omega) ?_
            refine g_iload dX10_rinses_64 (by rfl) ?_
            refine g_iadd dX10_rinses_66 ?_
            first | refine g_isH (15 + i) dX10_rinses_67 (by first | rfl | exact lin3 | exact lin3a | exact linA | exact linB) (by omega) ?_ | refine g_isM (15 + i) dX10_rinses_67 (by first | exact m1 | exact hr_n) (by first | rfl | exact lin3 | exact lin3a | exact linA | exact linB) (by omega) ?_
            refine g_aload_n dX10_rinses_68 (by rfl) (by first | exact isRf_r | exact isRf_n | exact isRf_o | assumption) ?_
            refine g_iload_n dX10_rinses_69 (by rfl) ?_
            refine g_bipush (v := 6) dX10_rinses_70 (by decide) ?_
            refine g_iload_n dX10_rinses_72 (by rfl) ?_
            refine g_iadd dX10_rinses_73 ?_
            refine g_iconst (v := 0) dX10_rinses_74 (by decide) ?_
            rw [show (6 : Int32) + nI i = nI (6 + i) from linA]
            refine g_cV3v dX10_rinses_75 lX10_80 vX10_puts (ct_X10_puts X (i := l) (k := 6 + i) (by first | exact hM | exact hM.hr) (by omega)) (by first | exact m0 | exact hr_a dA m0) rfl ⟨Nat.le_of_ble_eq_true rfl, Nat.le_of_ble_eq_true rfl⟩ (Nat.le_of_ble_eq_true rfl) ⟨Nat.le_of_ble_eq_true rfl, Nat.le_of_ble_eq_true rfl⟩ ?_
            rw [hrr]
            refine g_iinc (v := nI (i + 1)) (L1 := [(0, _), (1, _), (2, _), (3, _), (4, _)]) dX10_rinses_78 (by rfl) (nI_1 i) (by decide) (by rfl) ?_
            refine g_goto (tgt := 33) dX10_rinses_81 (by decide) ?_
            refine g_pick [0, 1, 2, 3] rfl ?_
            refine ih (by omega) _ ?_
            rw [eacc]
            show _ = sumI (fun d => ltx r l (6 + d)) i + ltx r l (6 + i)
            rw [show rinR r l i (43 + 15 * l + (6 + i)) = ltx r l (6 + i) from rin_ltx (fun m hm => by omega) (by omega) hl20]
        have l33 := loop33 0 (by omega) 0 rfl
        rw [show rinR r l 0 = r from rfl, hr_id m1] at l33
        exact l33
      · skip
        have eF : F_rinse r (nI l) = (-2, r) := by
          unfold F_rinse
          rw [e8, hk, cj, hs0, show hangs r l = true from bI_1 c3]
          rfl
        refine g_bipush (v := (-2)) dX10_rinses_26 (by decide) ?_
        refine g_iret dX10_rinses_28 rfl (Nat.le_refl _) (Nat.le_refl _) ?_
        rw [eF]
        first
          | exact Ex.i rfl (hr_id m1).symm
          | exact Ex.i eacc rfl
  · skip
    have eF : F_rinse r w = (-1, r) := by
      unfold F_rinse
      rw [e8, show okB (nI nl) w = false from bI_0 c1]
      rfl
    refine g_iconst (v := (-1)) dX10_rinses_8 (by decide) ?_
    refine g_iret dX10_rinses_9 rfl (Nat.le_refl _) (Nat.le_refl _) ?_
    rw [eF]
    first
      | exact Ex.i rfl (hr_id m1).symm
      | exact Ex.i eacc rfl

set_option maxHeartbeats 4000000 in
set_option maxRecDepth 100000 in
theorem ct_X10_hangsOn (X : Cx) {h : Hp} {a n1 : Nat} {r : Nat → Int32} {w : Int32} {k : Int32}  (hM : MoAt X h a n1 r) (hO : Ok r) (hR : ∀ k, rackN r k ≤ 4) : Ct X mX10_hangsOn 3 0 0 [.ref a, .int w, .int k] h (Ex (.int (F_hang r w k).1) (hr X h n1 (F_hang r w k).2)) := by
  obtain ⟨⟨n2, st, n3, n4, le, n5, at0, lt, n6, fl, n7, m0⟩, m1⟩ := id hM
  unfold mdl at m0
  have dA := hM.ne
  obtain ⟨nv, nl, no, hnv, hnl, hno, e7, e8, e9, hset, hvok, hvz, hlok, hlz, hok, hoz, hw⟩ := id hO
  refine Ct.ofG vX10_hangsOn.1.2.2.1 (Nat.le_of_ble_eq_true rfl) ?_
  show G X RX10 cX10_hangsOn 3 (some .int) "hangsOn" (Rm 3 0 0) (Fm X (Ex (.int (F_hang r w k).1) (hr X h n1 (F_hang r w k).2)) 0 0) 0 0 0 [(0, .ref a), (1, .int w), (2, .int k)] [] h
  refine g_aload_n dX10_hangsOn_0 (by rfl) (by first | exact isRf_r | exact isRf_n | exact isRf_o | assumption) ?_
  refine g_iload_n dX10_hangsOn_1 (by rfl) ?_
  refine g_cV1x dX10_hangsOn_2 lX10_94 vX10_isLot (ct_X10_isLot X (n := nl) (by first | exact hM | exact hM.hr) (by omega) e8) (by first | exact m0 | exact hr_a dA m0) rfl ⟨Nat.le_of_ble_eq_true rfl, Nat.le_of_ble_eq_true rfl⟩ (Nat.le_of_ble_eq_true rfl) ⟨Nat.le_of_ble_eq_true rfl, Nat.le_of_ble_eq_true rfl⟩ ?_
  refine g_if_eq (tgt := 17) dX10_hangsOn_5 (by decide) (fun c1 => ?_) (fun c1 => ?_)
  · skip
    have eF : F_hang r w k = (-1, r) := by
      unfold F_hang
      rw [e8, show okB (nI nl) w = false from bI_0 c1]
      rfl
    refine g_iconst (v := (-1)) dX10_hangsOn_17 (by decide) ?_
    refine g_iret dX10_hangsOn_18 rfl (Nat.le_refl _) (Nat.le_refl _) ?_
    rw [eF]
    first | exact Ex.i rfl rfl | exact Ex.i rfl (hr_id m1).symm
  · skip
    have hk : okB (nI nl) w = true := bI_1 c1
    obtain ⟨l, hl, rfl⟩ := okB_i (by omega) hk
    have cj : cl (nI l) = l := cl_nI (by omega)
    have hlo := hlok l hl
    have hl20 : l < 20 := by omega
    refine g_iload_n dX10_hangsOn_8 (by rfl) ?_
    refine g_iconst (v := 0) dX10_hangsOn_9 (by decide) ?_
    refine g_iconst (v := 1) dX10_hangsOn_10 (by decide) ?_
    refine g_cS3x dX10_hangsOn_11 lX10_31 rfl vX10_in (ct_X10_in X) ⟨Nat.le_of_ble_eq_true rfl, Nat.le_of_ble_eq_true rfl⟩ (Nat.le_of_ble_eq_true rfl) ⟨Nat.le_of_ble_eq_true rfl, Nat.le_of_ble_eq_true rfl⟩ ?_
    refine g_if_ne (tgt := 19) dX10_hangsOn_14 (by decide) (fun c2 => ?_) (fun c2 => ?_)
    · skip
      have hg := bI_1 c2
      refine g_aload_n dX10_hangsOn_19 (by rfl) (by first | exact isRf_r | exact isRf_n | exact isRf_o | assumption) ?_
      refine g_iload_n dX10_hangsOn_20 (by rfl) ?_
      refine g_cV1x dX10_hangsOn_21 lX10_97 vX10_isSold (ct_X10_isSold X (l := l) hM (by omega) hlo.s13) (by first | exact m0 | exact hr_a dA m0) rfl ⟨Nat.le_of_ble_eq_true rfl, Nat.le_of_ble_eq_true rfl⟩ (Nat.le_of_ble_eq_true rfl) ⟨Nat.le_of_ble_eq_true rfl, Nat.le_of_ble_eq_true rfl⟩ ?_
      refine g_if_ne (tgt := 45) dX10_hangsOn_24 (by decide) (fun c3 => ?_) (fun c3 => ?_)
      · skip
        have eF : F_hang r (nI l) k = (-2, r) := by
          unfold F_hang
          rw [e8, hk, hg, cj, show sold r l = true from bI_1 c3]
          rfl
        refine g_bipush (v := (-2)) dX10_hangsOn_45 (by decide) ?_
        refine g_iret dX10_hangsOn_47 rfl (Nat.le_refl _) (Nat.le_refl _) ?_
        rw [eF]
        first | exact Ex.i rfl rfl | exact Ex.i rfl (hr_id m1).symm
      · skip
        have hs0 := bI_0 c3
        refine g_aload_n dX10_hangsOn_27 (by rfl) (by first | exact isRf_r | exact isRf_n | exact isRf_o | assumption) ?_
        refine g_iload_n dX10_hangsOn_28 (by rfl) ?_
        refine g_cV1x dX10_hangsOn_29 lX10_100 vX10_hangs (ct_X10_hangs X (l := l) hM (by omega) hlo.b10) (by first | exact m0 | exact hr_a dA m0) rfl ⟨Nat.le_of_ble_eq_true rfl, Nat.le_of_ble_eq_true rfl⟩ (Nat.le_of_ble_eq_true rfl) ⟨Nat.le_of_ble_eq_true rfl, Nat.le_of_ble_eq_true rfl⟩ ?_
        refine g_if_ne (tgt := 45) dX10_hangsOn_32 (by decide) (fun c4 => ?_) (fun c4 => ?_)
        · skip
          have eF : F_hang r (nI l) k = (-2, r) := by
            unfold F_hang
            rw [e8, hk, hg, cj, hs0, show hangs r l = true from bI_1 c4]
            rfl
          refine g_bipush (v := (-2)) dX10_hangsOn_45 (by decide) ?_
          refine g_iret dX10_hangsOn_47 rfl (Nat.le_refl _) (Nat.le_refl _) ?_
          rw [eF]
          first | exact Ex.i rfl rfl | exact Ex.i rfl (hr_id m1).symm
        · skip
          have hh0 := bI_0 c4
          refine g_aload_n dX10_hangsOn_35 (by rfl) (by first | exact isRf_r | exact isRf_n | exact isRf_o | assumption) ?_
          refine g_iload_n dX10_hangsOn_36 (by rfl) ?_
          refine g_iconst (v := 0) dX10_hangsOn_37 (by decide) ?_
          refine g_cV2x dX10_hangsOn_38 lX10_35 vX10_lotNumber (ct_X10_lotNumber X (i := l) (k := 0) (by first | exact hM | exact hM.hr) (by omega)) (by first | exact m0 | exact hr_a dA m0) rfl ⟨Nat.le_of_ble_eq_true rfl, Nat.le_of_ble_eq_true rfl⟩ (Nat.le_of_ble_eq_true rfl) ⟨Nat.le_of_ble_eq_true rfl, Nat.le_of_ble_eq_true rfl⟩ ?_
          refine g_iload_n dX10_hangsOn_41 (by rfl) ?_
          refine g_icmp_eq (tgt := 48) dX10_hangsOn_42 (by decide) (fun c5 => ?_) (fun c5 => ?_)
          · skip
            have hq0 : ¬ ¬ ltx r l 0 = k := fun z => z c5
            have er : rackN r k = cntN (rackB r k) nl := by
              unfold rackN
              rw [e8, cl_nI (by omega)]
            refine g_aload_n dX10_hangsOn_48 (by rfl) (by first | exact isRf_r | exact isRf_n | exact isRf_o | assumption) ?_
            refine g_iload_n dX10_hangsOn_49 (by rfl) ?_
            refine g_cV1x dX10_hangsOn_50 lX10_112 vX10_hanging (ct_X10_hanging X hM hnl e8 hlok) (by first | exact m0 | exact hr_a dA m0) rfl ⟨Nat.le_of_ble_eq_true rfl, Nat.le_of_ble_eq_true rfl⟩ (Nat.le_of_ble_eq_true rfl) ⟨Nat.le_of_ble_eq_true rfl, Nat.le_of_ble_eq_true rfl⟩ ?_
            refine g_iconst (v := 4) dX10_hangsOn_53 (by decide) ?_
            refine g_icmp_ne (tgt := 60) dX10_hangsOn_54 (by decide) (fun c6 => ?_) (fun c6 => ?_)
            · skip
              have h4 : ¬ 4 ≤ nI (rackN r k) := by
                intro z
                have y := hR k
                have u : 4 ≤ rackN r k := (nI_leI (a := 4) (by omega) (by omega)).mp z
                exact c6 (by rw [← er, show rackN r k = 4 by omega]; rfl)
              have eF : F_hang r (nI l) k = (nI (rackN (upd r (43 + 15 * l + 10) 1) k), upd r (43 + 15 * l + 10) 1) := by
                unfold F_hang
                rw [e8, hk, hg, cj, hs0, hh0, decide_eq_false hq0, decide_eq_false h4]
                rfl
              have er2 : rackN (upd r (43 + 15 * l + 10) 1) k = cntN (rackB (upd r (43 + 15 * l + 10) 1) k) nl := by
                unfold rackN
                rw [upd_n (by omega), e8, cl_nI (by omega)]
              refine g_aload_n dX10_hangsOn_60 (by rfl) (by first | exact isRf_r | exact isRf_n | exact isRf_o | assumption) ?_
              refine g_iload_n dX10_hangsOn_61 (by rfl) ?_
              refine g_bipush (v := 10) dX10_hangsOn_62 (by decide) ?_
              refine g_iconst (v := 1) dX10_hangsOn_64 (by decide) ?_
              refine g_cV3v dX10_hangsOn_65 lX10_80 vX10_puts (ct_X10_puts X (i := l) (k := 10) (by first | exact hM | exact hM.hr) (by omega)) (by first | exact m0 | exact hr_a dA m0) rfl ⟨Nat.le_of_ble_eq_true rfl, Nat.le_of_ble_eq_true rfl⟩ (Nat.le_of_ble_eq_true rfl) ⟨Nat.le_of_ble_eq_true rfl, Nat.le_of_ble_eq_true rfl⟩ ?_
              try rw [hrr]
              refine g_aload_n dX10_hangsOn_68 (by rfl) (by first | exact isRf_r | exact isRf_n | exact isRf_o | assumption) ?_
              refine g_iload_n dX10_hangsOn_69 (by rfl) ?_
              refine g_cV1x dX10_hangsOn_70 lX10_112 vX10_hanging (ct_X10_hanging X hM.hr hnl ((upd_n (by omega)).trans e8) (Ok.lk (Ok.hng hO hl20 hlo (Or.inr rfl)) hnl ((upd_n (by omega)).trans e8))) (by first | exact m0 | exact hr_a dA m0) rfl ⟨Nat.le_of_ble_eq_true rfl, Nat.le_of_ble_eq_true rfl⟩ (Nat.le_of_ble_eq_true rfl) ⟨Nat.le_of_ble_eq_true rfl, Nat.le_of_ble_eq_true rfl⟩ ?_
              refine g_iret dX10_hangsOn_73 rfl (Nat.le_refl _) (Nat.le_refl _) ?_
              rw [eF, er2]
              exact Ex.i rfl rfl
            · skip
              have h4 : 4 ≤ nI (rackN r k) := by
                rw [er, show nI (cntN (rackB r k) nl) = 4 from c6]
                exact Int32.le_refl _
              have eF : F_hang r (nI l) k = (-3, r) := by
                unfold F_hang
                rw [e8, hk, hg, cj, hs0, hh0, decide_eq_false hq0, decide_eq_true h4]
                rfl
              refine g_bipush (v := (-3)) dX10_hangsOn_57 (by decide) ?_
              refine g_iret dX10_hangsOn_59 rfl (Nat.le_refl _) (Nat.le_refl _) ?_
              rw [eF]
              first | exact Ex.i rfl rfl | exact Ex.i rfl (hr_id m1).symm
          · skip
            have eF : F_hang r (nI l) k = (-2, r) := by
              unfold F_hang
              rw [e8, hk, hg, cj, hs0, hh0, decide_eq_true (show ¬ ltx r l 0 = k from c5)]
              rfl
            refine g_bipush (v := (-2)) dX10_hangsOn_45 (by decide) ?_
            refine g_iret dX10_hangsOn_47 rfl (Nat.le_refl _) (Nat.le_refl _) ?_
            rw [eF]
            first | exact Ex.i rfl rfl | exact Ex.i rfl (hr_id m1).symm
    · skip
      have eF : F_hang r (nI l) k = (-1, r) := by
        unfold F_hang
        rw [e8, hk, show rngB 0 1 k = false from bI_0 c2]
        rfl
      refine g_iconst (v := (-1)) dX10_hangsOn_17 (by decide) ?_
      refine g_iret dX10_hangsOn_18 rfl (Nat.le_refl _) (Nat.le_refl _) ?_
      rw [eF]
      first | exact Ex.i rfl rfl | exact Ex.i rfl (hr_id m1).symm

set_option maxHeartbeats 4000000 in
set_option maxRecDepth 100000 in
theorem ct_X10_takesDown (X : Cx) {h : Hp} {a n1 : Nat} {r : Nat → Int32} {w : Int32}  (hM : MoAt X h a n1 r) (hO : Ok r) : Ct X mX10_takesDown 3 0 0 [.ref a, .int w] h (Ex (.int (F_take r w).1) (hr X h n1 (F_take r w).2)) := by
  obtain ⟨⟨n2, st, n3, n4, le, n5, at0, lt, n6, fl, n7, m0⟩, m1⟩ := id hM
  unfold mdl at m0
  have dA := hM.ne
  obtain ⟨nv, nl, no, hnv, hnl, hno, e7, e8, e9, hset, hvok, hvz, hlok, hlz, hok, hoz, hw⟩ := id hO
  refine Ct.ofG vX10_takesDown.1.2.2.1 (Nat.le_of_ble_eq_true rfl) ?_
  show G X RX10 cX10_takesDown 2 (some .int) "takesDown" (Rm 3 0 0) (Fm X (Ex (.int (F_take r w).1) (hr X h n1 (F_take r w).2)) 0 0) 0 0 0 [(0, .ref a), (1, .int w)] [] h
  refine g_aload_n dX10_takesDown_0 (by rfl) (by first | exact isRf_r | exact isRf_n | exact isRf_o | assumption) ?_
  refine g_iload_n dX10_takesDown_1 (by rfl) ?_
  refine g_cV1x dX10_takesDown_2 lX10_94 vX10_isLot (ct_X10_isLot X (n := nl) (by first | exact hM | exact hM.hr) (by omega) e8) (by first | exact m0 | exact hr_a dA m0) rfl ⟨Nat.le_of_ble_eq_true rfl, Nat.le_of_ble_eq_true rfl⟩ (Nat.le_of_ble_eq_true rfl) ⟨Nat.le_of_ble_eq_true rfl, Nat.le_of_ble_eq_true rfl⟩ ?_
  refine g_if_ne (tgt := 10) dX10_takesDown_5 (by decide) (fun c1 => ?_) (fun c1 => ?_)
  · skip
    have hk : okB (nI nl) w = true := bI_1 c1
    obtain ⟨l, hl, rfl⟩ := okB_i (by omega) hk
    have cj : cl (nI l) = l := cl_nI (by omega)
    have hlo := hlok l hl
    have hl20 : l < 20 := by omega
    refine g_aload_n dX10_takesDown_10 (by rfl) (by first | exact isRf_r | exact isRf_n | exact isRf_o | assumption) ?_
    refine g_iload_n dX10_takesDown_11 (by rfl) ?_
    refine g_cV1x dX10_takesDown_12 lX10_100 vX10_hangs (ct_X10_hangs X (l := l) hM (by omega) hlo.b10) (by first | exact m0 | exact hr_a dA m0) rfl ⟨Nat.le_of_ble_eq_true rfl, Nat.le_of_ble_eq_true rfl⟩ (Nat.le_of_ble_eq_true rfl) ⟨Nat.le_of_ble_eq_true rfl, Nat.le_of_ble_eq_true rfl⟩ ?_
    refine g_if_ne (tgt := 21) dX10_takesDown_15 (by decide) (fun c2 => ?_) (fun c2 => ?_)
    · skip
      have eF : F_take r (nI l) = (nI (rackN (upd r (43 + 15 * l + 10) 0) (ltx r l 0)), upd r (43 + 15 * l + 10) 0) := by
        unfold F_take
        rw [e8, hk, cj, show hangs r l = true from bI_1 c2]
        rfl
      have er2 : rackN (upd r (43 + 15 * l + 10) 0) (ltx r l 0) = cntN (rackB (upd r (43 + 15 * l + 10) 0) (ltx r l 0)) nl := by
        unfold rackN
        rw [upd_n (by omega), e8, cl_nI (by omega)]
      refine g_aload_n dX10_takesDown_21 (by rfl) (by first | exact isRf_r | exact isRf_n | exact isRf_o | assumption) ?_
      refine g_iload_n dX10_takesDown_22 (by rfl) ?_
      refine g_bipush (v := 10) dX10_takesDown_23 (by decide) ?_
      refine g_iconst (v := 0) dX10_takesDown_25 (by decide) ?_
      refine g_cV3v dX10_takesDown_26 lX10_80 vX10_puts (ct_X10_puts X (i := l) (k := 10) (by first | exact hM | exact hM.hr) (by omega)) (by first | exact m0 | exact hr_a dA m0) rfl ⟨Nat.le_of_ble_eq_true rfl, Nat.le_of_ble_eq_true rfl⟩ (Nat.le_of_ble_eq_true rfl) ⟨Nat.le_of_ble_eq_true rfl, Nat.le_of_ble_eq_true rfl⟩ ?_
      try rw [hrr]
      refine g_aload_n dX10_takesDown_29 (by rfl) (by first | exact isRf_r | exact isRf_n | exact isRf_o | assumption) ?_
      refine g_aload_n dX10_takesDown_30 (by rfl) (by first | exact isRf_r | exact isRf_n | exact isRf_o | assumption) ?_
      refine g_iload_n dX10_takesDown_31 (by rfl) ?_
      refine g_iconst (v := 0) dX10_takesDown_32 (by decide) ?_
      refine g_cV2x dX10_takesDown_33 lX10_35 vX10_lotNumber (ct_X10_lotNumber X (i := l) (k := 0) (by first | exact hM | exact hM.hr) (by omega)) (by first | exact m0 | exact hr_a dA m0) rfl ⟨Nat.le_of_ble_eq_true rfl, Nat.le_of_ble_eq_true rfl⟩ (Nat.le_of_ble_eq_true rfl) ⟨Nat.le_of_ble_eq_true rfl, Nat.le_of_ble_eq_true rfl⟩ ?_
      rw [upd_n (by omega), show r (43 + 15 * l + 0) = ltx r l 0 from rfl]
      refine g_cV1x dX10_takesDown_36 lX10_112 vX10_hanging (ct_X10_hanging X hM.hr hnl ((upd_n (by omega)).trans e8) (Ok.lk (Ok.hng hO hl20 hlo (Or.inl rfl)) hnl ((upd_n (by omega)).trans e8))) (by first | exact m0 | exact hr_a dA m0) rfl ⟨Nat.le_of_ble_eq_true rfl, Nat.le_of_ble_eq_true rfl⟩ (Nat.le_of_ble_eq_true rfl) ⟨Nat.le_of_ble_eq_true rfl, Nat.le_of_ble_eq_true rfl⟩ ?_
      refine g_iret dX10_takesDown_39 rfl (Nat.le_refl _) (Nat.le_refl _) ?_
      rw [eF, er2]
      exact Ex.i rfl rfl
    · skip
      have eF : F_take r (nI l) = (-2, r) := by
        unfold F_take
        rw [e8, hk, cj, show hangs r l = false from bI_0 c2]
        rfl
      refine g_bipush (v := (-2)) dX10_takesDown_18 (by decide) ?_
      refine g_iret dX10_takesDown_20 rfl (Nat.le_refl _) (Nat.le_refl _) ?_
      rw [eF]
      first | exact Ex.i rfl rfl | exact Ex.i rfl (hr_id m1).symm
  · skip
    have eF : F_take r w = (-1, r) := by
      unfold F_take
      rw [e8, show okB (nI nl) w = false from bI_0 c1]
      rfl
    refine g_iconst (v := (-1)) dX10_takesDown_8 (by decide) ?_
    refine g_iret dX10_takesDown_9 rfl (Nat.le_refl _) (Nat.le_refl _) ?_
    rw [eF]
    first | exact Ex.i rfl rfl | exact Ex.i rfl (hr_id m1).symm

set_option maxHeartbeats 4000000 in
set_option maxRecDepth 100000 in
theorem ct_X10_fits (X : Cx) {h : Hp} {a n1 : Nat} {r : Nat → Int32} {l o : Nat}  (hM : MoAt X h a n1 r) (hl : l < 20) (ho : o < 60) (hp : 0 < (ltx r l 1).toInt) : Ct X mX10_fits 3 0 0 [.ref a, .int (nI l), .int (nI o)] h (Ex (.int (bI (fitB (ltx r l) (od r o) r))) h) := by
  obtain ⟨⟨n2, st, n3, n4, le, n5, at0, lt, n6, fl, n7, m0⟩, m1⟩ := id hM
  unfold mdl at m0
  have dA := hM.ne
  refine Ct.ofG vX10_fits.1.2.2.1 (Nat.le_of_ble_eq_true rfl) ?_
  show G X RX10 cX10_fits 5 (some .boolean) "fits" (Rm 3 0 0) (Fm X (Ex (.int (bI (fitB (ltx r l) (od r o) r))) h) 0 0) 0 0 0 [(0, .ref a), (1, .int (nI l)), (2, .int (nI o))] [] h
  refine g_aload_n dX10_fits_0 (by rfl) (by first | exact isRf_r | exact isRf_n | exact isRf_o | assumption) ?_
  refine g_iload_n dX10_fits_1 (by rfl) ?_
  refine g_bipush (v := 11) dX10_fits_2 (by decide) ?_
  refine g_cV2x dX10_fits_4 lX10_35 vX10_lotNumber (ct_X10_lotNumber X (i := l) (k := 11) (by first | exact hM | exact hM.hr) (by omega)) (by first | exact m0 | exact hr_a dA m0) rfl ⟨Nat.le_of_ble_eq_true rfl, Nat.le_of_ble_eq_true rfl⟩ (Nat.le_of_ble_eq_true rfl) ⟨Nat.le_of_ble_eq_true rfl, Nat.le_of_ble_eq_true rfl⟩ ?_
  have J15 : G X RX10 cX10_fits 5 (some .boolean) "fits" (Rm 3 0 0) (Fm X (Ex (.int (bI (fitB (ltx r l) (od r o) r))) h) 0 0) 0 0 15 [(0, .ref a), (1, .int (nI l)), (2, .int (nI o))] [.int (bI (decide (ltx r l 11 = 0)))] h := by
    refine g_istore_n (L1 := [(0, _), (1, _), (2, _), (3, _)]) dX10_fits_15 (by decide) (by rfl) ?_
    refine g_iconst (v := 0) dX10_fits_16 (by decide) ?_
    refine g_istore (L1 := [(0, _), (1, _), (2, _), (3, _), (4, _)]) dX10_fits_17 (by decide) (by rfl) ?_
    have loop19 : ∀ i, i ≤ 4 → ∀ acc, acc = bI (decide (ltx r l 11 = 0) && allB (fun d => decide (dist (shF (ltx r l) d) (od r o d) ≤ r 4)) i) → G X RX10 cX10_fits 5 (some .boolean) "fits" (Rm 3 0 0) (Fm X (Ex (.int (bI (fitB (ltx r l) (od r o) r))) h) 0 0) 0 0 19 [(0, .ref a), (1, .int (nI l)), (2, .int (nI o)), (3, .int acc), (4, .int (nI i))] [] h := by
      refine up_ind 4 (fun i hi ih => ?_)
      intro acc eacc
      refine g_iload dX10_fits_19 (by rfl) ?_
      refine g_iconst (v := 4) dX10_fits_21 (by decide) ?_
      refine g_icmp_ge (tgt := 67) dX10_fits_22 (by decide) (fun c1 => ?_) (fun c1 => ?_)
      · skip
        have hie : i = 4 := Nat.le_antisymm hi (c_ge (a := 4) (by omega) (by omega) c1)
        subst hie
        refine g_iload_n dX10_fits_67 (by rfl) ?_
        refine g_zret dX10_fits_68 rfl (by rw [eacc]; exact bI_nz _) (Nat.le_refl _) (Nat.le_refl _) ?_
        refine Ex.i ?_ rfl
        rw [eacc, fit_e]
      · skip
        have hi4 : i < 4 := c_nge (a := 4) (b := i) (by omega) (by omega) c1
        refine g_iload_n dX10_fits_25 (by rfl) ?_
        refine g_if_eq (tgt := 59) dX10_fits_26 (by decide) (fun c2 => ?_) (fun c2 => ?_)
        · skip
          have hB := bI_0 (eacc.symm.trans c2)
          refine g_iconst (v := 0) dX10_fits_59 (by decide) ?_
          refine g_istore_n (L1 := [(0, _), (1, _), (2, _), (3, _), (4, _)]) dX10_fits_60 (by decide) (by rfl) ?_
          refine g_iinc (v := nI (i + 1)) (L1 := [(0, _), (1, _), (2, _), (3, _), (4, _)]) dX10_fits_61 (by rfl) (nI_1 i) (by decide) (by rfl) ?_
          refine g_goto (tgt := 19) dX10_fits_64 (by decide) ?_
          refine ih hi4 _ ?_
          show _ = bI (decide (ltx r l 11 = 0) && (allB (fun d => decide (dist (shF (ltx r l) d) (od r o d) ≤ r 4)) i && (fun d => decide (dist (shF (ltx r l) d) (od r o d) ≤ r 4)) i))
          rw [← Bool.and_assoc, hB]
          first
            | rfl
            | (rw [hp1]; rfl)
        · skip
          have hB := bI_1 (fun z => c2 (eacc.trans z))
          refine g_aload_n dX10_fits_29 (by rfl) (by first | exact isRf_r | exact isRf_n | exact isRf_o | assumption) ?_
          refine g_iload_n dX10_fits_30 (by rfl) ?_
          refine g_iload dX10_fits_31 (by rfl) ?_
          refine g_cV2x dX10_fits_33 lX10_91 vX10_shadeOf (ct_X10_shadeOf X hM hl hi4 hp) (by first | exact m0 | exact hr_a dA m0) rfl ⟨Nat.le_of_ble_eq_true rfl, Nat.le_of_ble_eq_true rfl⟩ (Nat.le_of_ble_eq_true rfl) ⟨Nat.le_of_ble_eq_true rfl, Nat.le_of_ble_eq_true rfl⟩ ?_
          refine g_aload_n dX10_fits_36 (by rfl) (by first | exact isRf_r | exact isRf_n | exact isRf_o | assumption) ?_
          refine g_iload_n dX10_fits_37 (by rfl) ?_
          refine g_iload dX10_fits_38 (by rfl) ?_
          refine g_cV2x dX10_fits_40 lX10_134 vX10_orderNumber (ct_X10_orderNumber X (i := o) (k := i) (by first | exact hM | exact hM.hr) (by omega)) (by first | exact m0 | exact hr_a dA m0) rfl ⟨Nat.le_of_ble_eq_true rfl, Nat.le_of_ble_eq_true rfl⟩ (Nat.le_of_ble_eq_true rfl) ⟨Nat.le_of_ble_eq_true rfl, Nat.le_of_ble_eq_true rfl⟩ ?_
          refine g_cS2x dX10_fits_43 lX10_144 rfl vX10_apart (ct_X10_apart X) ⟨Nat.le_of_ble_eq_true rfl, Nat.le_of_ble_eq_true rfl⟩ (Nat.le_of_ble_eq_true rfl) ⟨Nat.le_of_ble_eq_true rfl, Nat.le_of_ble_eq_true rfl⟩ ?_
          refine g_aload_n dX10_fits_46 (by rfl) (by first | exact isRf_r | exact isRf_n | exact isRf_o | assumption) ?_
          refine g_getf dX10_fits_47 fX10_7 (by first | exact m0 | exact hr_a dA m0) (by rfl) ?_
          refine g_iconst (v := 4) dX10_fits_50 (by decide) ?_
          refine g_ilM (4) dX10_fits_51 (by first | exact m1 | exact hr_n) (by first | rfl | exact lin3 | exact lin3a | exact linA | exact linB) (by omega) ?_
          refine g_icmp_gt (tgt := 59) dX10_fits_52 (by decide) (fun c3 => ?_) (fun c3 => ?_)
          · skip
            have hp1 : (fun d => decide (dist (shF (ltx r l) d) (od r o d) ≤ r 4)) i = false := decide_eq_false (fun z => i_nle c3 z)
            refine g_iconst (v := 0) dX10_fits_59 (by decide) ?_
            refine g_istore_n (L1 := [(0, _), (1, _), (2, _), (3, _), (4, _)]) dX10_fits_60 (by decide) (by rfl) ?_
            refine g_iinc (v := nI (i + 1)) (L1 := [(0, _), (1, _), (2, _), (3, _), (4, _)]) dX10_fits_61 (by rfl) (nI_1 i) (by decide) (by rfl) ?_
            refine g_goto (tgt := 19) dX10_fits_64 (by decide) ?_
            refine ih hi4 _ ?_
            show _ = bI (decide (ltx r l 11 = 0) && (allB (fun d => decide (dist (shF (ltx r l) d) (od r o d) ≤ r 4)) i && (fun d => decide (dist (shF (ltx r l) d) (od r o d) ≤ r 4)) i))
            rw [← Bool.and_assoc, hB]
            first
              | rfl
              | (rw [hp1]; rfl)
          · skip
            have hp1 : (fun d => decide (dist (shF (ltx r l) d) (od r o d) ≤ r 4)) i = true := decide_eq_true (i_nlt c3)
            refine g_iconst (v := 1) dX10_fits_55 (by decide) ?_
            refine g_goto (tgt := 60) dX10_fits_56 (by decide) ?_
            refine g_istore_n (L1 := [(0, _), (1, _), (2, _), (3, _), (4, _)]) dX10_fits_60 (by decide) (by rfl) ?_
            refine g_iinc (v := nI (i + 1)) (L1 := [(0, _), (1, _), (2, _), (3, _), (4, _)]) dX10_fits_61 (by rfl) (nI_1 i) (by decide) (by rfl) ?_
            refine g_goto (tgt := 19) dX10_fits_64 (by decide) ?_
            refine ih hi4 _ ?_
            show _ = bI (decide (ltx r l 11 = 0) && (allB (fun d => decide (dist (shF (ltx r l) d) (od r o d) ≤ r 4)) i && (fun d => decide (dist (shF (ltx r l) d) (od r o d) ≤ r 4)) i))
            rw [← Bool.and_assoc, hB]
            first
              | rfl
              | (rw [hp1]; rfl)
    exact loop19 0 (by omega) _ (by rw [show allB (fun d => decide (dist (shF (ltx r l) d) (od r o d) ≤ r 4)) 0 = true from rfl, Bool.and_true])
  refine g_if_ne (tgt := 14) dX10_fits_7 (by decide) (fun c4 => ?_) (fun c4 => ?_)
  · skip
    have hq : (0 : Int32) = bI (decide (ltx r l 11 = 0)) := bI_f c4
    refine g_iconst (v := 0) dX10_fits_14 (by decide) ?_
    rw [← hq] at J15
    exact J15
  · skip
    have hq : (1 : Int32) = bI (decide (ltx r l 11 = 0)) := bI_t c4
    refine g_iconst (v := 1) dX10_fits_10 (by decide) ?_
    refine g_goto (tgt := 15) dX10_fits_11 (by decide) ?_
    rw [← hq] at J15
    exact J15
