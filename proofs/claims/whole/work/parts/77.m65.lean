theorem nsold {r : Nat → Int32} {l : Nat} : (!sold r l) = decide (ltx r l 13 = 0) := by
  unfold sold
  by_cases h : ltx r l 13 = 0
  · rw [decide_eq_true h, decide_eq_false (fun z => z h)]
    rfl
  · rw [decide_eq_false h, decide_eq_true h]
    rfl
theorem cnt_split {p q s : Nat → Bool} : ∀ {n : Nat}, (∀ k, k < n → p k = (q k || s k) ∧ (q k && s k) = false) → cntN p n = cntN q n + cntN s n
  | 0, _ => rfl
  | n + 1, h => by
    have ih := cnt_split (p := p) (q := q) (s := s) (n := n) (fun k hk => h k (by omega))
    obtain ⟨e1, e2⟩ := h n (by omega)
    show cond (p n) (cntN p n + 1) (cntN p n) = cond (q n) (cntN q n + 1) (cntN q n) + cond (s n) (cntN s n + 1) (cntN s n)
    rw [e1, ih]
    cases hq : q n <;> cases hs : s n
    · rfl
    · show cntN q n + cntN s n + 1 = cntN q n + (cntN s n + 1)
      omega
    · show cntN q n + cntN s n + 1 = cntN q n + 1 + cntN s n
      omega
    · rw [hq, hs] at e2
      cases e2
theorem cnt_all {p : Nat → Bool} {n : Nat} : n = cntN p n + cntN (fun k => !p k) n := by
  have e : cntN (fun _ => true) n = n := by
    induction n with
    | zero => rfl
    | succ n ih =>
      show cntN (fun _ => true) n + 1 = n + 1
      rw [ih]
  have z := cnt_split (p := fun _ => true) (q := p) (s := fun k => !p k) (n := n) (fun k _ => by cases p k <;> exact ⟨rfl, rfl⟩)
  rw [e] at z
  exact z
theorem sum_cnt {p q : Nat → Bool} {f : Nat → Int32} : ∀ {n : Nat}, (∀ k, k < n → bz (f k)) → (∀ k, k < n → q k = (p k && decide (¬ f k = 0))) → sumP p f n = nI (cntN q n)
  | 0, _, _ => rfl
  | n + 1, h1, h2 => by
    have ih := sum_cnt (p := p) (q := q) (f := f) (n := n) (fun k hk => h1 k (by omega)) (fun k hk => h2 k (by omega))
    have b := h1 n (by omega)
    have e := h2 n (by omega)
    cases hp : p n with
    | false =>
      rw [sumI_f hp, cnt_f (by rw [e, hp]; rfl), ih]
    | true =>
      rw [sumI_t hp, ih]
      rcases b with z | z
      · rw [cnt_f (by rw [e, hp, z]; decide), z]
        exact Int32.add_zero _
      · rw [cnt_t (by rw [e, hp, z]; decide), z]

set_option maxHeartbeats 4000000 in
set_option maxRecDepth 100000 in
theorem ct_X10_match (X : Cx) {h : Hp} {a n1 : Nat} {r : Nat → Int32} {w z : Int32}  (hM : MoAt X h a n1 r) (hO : Ok r) : Ct X mX10_match 3 0 0 [.ref a, .int w, .int z] h (Ex (.int (Q_match r w z)) h) := by
  obtain ⟨⟨n2, st, n3, n4, le, n5, at0, lt, n6, fl, n7, m0⟩, m1⟩ := id hM
  unfold mdl at m0
  have dA := hM.ne
  obtain ⟨nv, nl, no, hnv, hnl, hno, e7, e8, e9, hset, hvok, hvz, hlok, hlz, hok, hoz, hw⟩ := id hO
  refine Ct.ofG vX10_match.1.2.2.1 (Nat.le_of_ble_eq_true rfl) ?_
  show G X RX10 cX10_match 5 (some .int) "match" (Rm 3 0 0) (Fm X (Ex (.int (Q_match r w z)) h) 0 0) 0 0 0 [(0, .ref a), (1, .int w), (2, .int z)] [] h
  refine g_aload_n dX10_match_0 (by rfl) (by first | exact isRf_r | exact isRf_n | exact isRf_o | assumption) ?_
  refine g_iload_n dX10_match_1 (by rfl) ?_
  refine g_cV1x dX10_match_2 lX10_94 vX10_isLot (ct_X10_isLot X (n := nl) (by first | exact hM | exact hM.hr) (by omega) e8) (by first | exact m0 | exact hr_a dA m0) rfl ⟨Nat.le_of_ble_eq_true rfl, Nat.le_of_ble_eq_true rfl⟩ (Nat.le_of_ble_eq_true rfl) ⟨Nat.le_of_ble_eq_true rfl, Nat.le_of_ble_eq_true rfl⟩ ?_
  refine g_if_eq (tgt := 16) dX10_match_5 (by decide) (fun c1 => ?_) (fun c1 => ?_)
  · skip
    have eF : Q_match r w z = -1 := by
      unfold Q_match
      rw [e8, show okB (nI nl) w = false from bI_0 c1]
      rfl
    refine g_iconst (v := (-1)) dX10_match_16 (by decide) ?_
    refine g_iret dX10_match_17 rfl (Nat.le_refl _) (Nat.le_refl _) ?_
    refine Ex.i ?_ rfl
    rw [eF]
  · skip
    have hk : okB (nI nl) w = true := bI_1 c1
    obtain ⟨l, hl, rfl⟩ := okB_i (by omega) hk
    have cj : cl (nI l) = l := cl_nI (by omega)
    have hlo := hlok l hl
    have hl20 : l < 20 := by omega
    refine g_aload_n dX10_match_8 (by rfl) (by first | exact isRf_r | exact isRf_n | exact isRf_o | assumption) ?_
    refine g_iload_n dX10_match_9 (by rfl) ?_
    refine g_cV1x dX10_match_10 lX10_94 vX10_isLot (ct_X10_isLot X (n := nl) (by first | exact hM | exact hM.hr) (by omega) e8) (by first | exact m0 | exact hr_a dA m0) rfl ⟨Nat.le_of_ble_eq_true rfl, Nat.le_of_ble_eq_true rfl⟩ (Nat.le_of_ble_eq_true rfl) ⟨Nat.le_of_ble_eq_true rfl, Nat.le_of_ble_eq_true rfl⟩ ?_
    refine g_if_ne (tgt := 18) dX10_match_13 (by decide) (fun c2 => ?_) (fun c2 => ?_)
    · skip
      have hk2 : okB (nI nl) z = true := bI_1 c2
      obtain ⟨m, hm2, rfl⟩ := okB_i (by omega) hk2
      have cm : cl (nI m) = m := cl_nI (by omega)
      have hlo2 := hlok m hm2
      have hm20 : m < 20 := by omega
      have eF : Q_match r (nI l) (nI m) = bI (allB (fun d => decide (dist (shF (ltx r l) d) (shF (ltx r m) d) ≤ r 4)) 4) := by
        unfold Q_match
        rw [e8, hk, hk2, cj, cm]
        rfl
      refine g_iconst (v := 1) dX10_match_18 (by decide) ?_
      refine g_istore_n (L1 := [(0, _), (1, _), (2, _), (3, _)]) dX10_match_19 (by decide) (by rfl) ?_
      refine g_iconst (v := 0) dX10_match_20 (by decide) ?_
      refine g_istore (L1 := [(0, _), (1, _), (2, _), (3, _), (4, _)]) dX10_match_21 (by decide) (by rfl) ?_
      have loop23 : ∀ i, i ≤ 4 → ∀ acc, acc = bI (allB (fun d => decide (dist (shF (ltx r l) d) (shF (ltx r m) d) ≤ r 4)) i) → G X RX10 cX10_match 5 (some .int) "match" (Rm 3 0 0) (Fm X (Ex (.int (Q_match r (nI l) (nI m))) h) 0 0) 0 0 23 [(0, .ref a), (1, .int (nI l)), (2, .int (nI m)), (3, .int acc), (4, .int (nI i))] [] h := by
        refine up_ind 4 (fun i hi ih => ?_)
        intro acc eacc
        refine g_iload dX10_match_23 (by rfl) ?_
        refine g_iconst (v := 4) dX10_match_25 (by decide) ?_
        refine g_icmp_ge (tgt := 71) dX10_match_26 (by decide) (fun c3 => ?_) (fun c3 => ?_)
        · skip
          have hie : i = 4 := Nat.le_antisymm hi (c_ge (a := 4) (by omega) (by omega) c3)
          rw [hie] at eacc
          refine g_iload_n dX10_match_71 (by rfl) ?_
          refine g_if_eq (tgt := 79) dX10_match_72 (by decide) (fun c4 => ?_) (fun c4 => ?_)
          · skip
            have hz := bI_0 (eacc.symm.trans c4)
            refine g_iconst (v := 0) dX10_match_79 (by decide) ?_
            refine g_iret dX10_match_80 rfl (Nat.le_refl _) (Nat.le_refl _) ?_
            refine Ex.i ?_ rfl
            rw [eF, hz]
            rfl
          · skip
            have hz := bI_1 (fun z => c4 (eacc.trans z))
            refine g_iconst (v := 1) dX10_match_75 (by decide) ?_
            refine g_goto (tgt := 80) dX10_match_76 (by decide) ?_
            refine g_iret dX10_match_80 rfl (Nat.le_refl _) (Nat.le_refl _) ?_
            refine Ex.i ?_ rfl
            rw [eF, hz]
            rfl
        · skip
          have hi4 : i < 4 := c_nge (a := 4) (b := i) (by omega) (by omega) c3
          refine g_iload_n dX10_match_29 (by rfl) ?_
          refine g_if_eq (tgt := 63) dX10_match_30 (by decide) (fun c5 => ?_) (fun c5 => ?_)
          · skip
            have hB := bI_0 (eacc.symm.trans c5)
            refine g_iconst (v := 0) dX10_match_63 (by decide) ?_
            refine g_istore_n (L1 := [(0, _), (1, _), (2, _), (3, _), (4, _)]) dX10_match_64 (by decide) (by rfl) ?_
            refine g_iinc (v := nI (i + 1)) (L1 := [(0, _), (1, _), (2, _), (3, _), (4, _)]) dX10_match_65 (by rfl) (nI_1 i) (by decide) (by rfl) ?_
            refine g_goto (tgt := 23) dX10_match_68 (by decide) ?_
            refine ih hi4 _ ?_
            show _ = bI (allB (fun d => decide (dist (shF (ltx r l) d) (shF (ltx r m) d) ≤ r 4)) i && (fun d => decide (dist (shF (ltx r l) d) (shF (ltx r m) d) ≤ r 4)) i)
            rw [hB]
            first
              | rfl
              | (rw [hp1]; rfl)
          · skip
            have hB := bI_1 (fun z => c5 (eacc.trans z))
            refine g_aload_n dX10_match_33 (by rfl) (by first | exact isRf_r | exact isRf_n | exact isRf_o | assumption) ?_
            refine g_iload_n dX10_match_34 (by rfl) ?_
            refine g_iload dX10_match_35 (by rfl) ?_
            refine g_cV2x dX10_match_37 lX10_91 vX10_shadeOf (ct_X10_shadeOf X hM hl20 hi4 hlo.pos) (by first | exact m0 | exact hr_a dA m0) rfl ⟨Nat.le_of_ble_eq_true rfl, Nat.le_of_ble_eq_true rfl⟩ (Nat.le_of_ble_eq_true rfl) ⟨Nat.le_of_ble_eq_true rfl, Nat.le_of_ble_eq_true rfl⟩ ?_
            refine g_aload_n dX10_match_40 (by rfl) (by first | exact isRf_r | exact isRf_n | exact isRf_o | assumption) ?_
            refine g_iload_n dX10_match_41 (by rfl) ?_
            refine g_iload dX10_match_42 (by rfl) ?_
            refine g_cV2x dX10_match_44 lX10_91 vX10_shadeOf (ct_X10_shadeOf X hM hm20 hi4 hlo2.pos) (by first | exact m0 | exact hr_a dA m0) rfl ⟨Nat.le_of_ble_eq_true rfl, Nat.le_of_ble_eq_true rfl⟩ (Nat.le_of_ble_eq_true rfl) ⟨Nat.le_of_ble_eq_true rfl, Nat.le_of_ble_eq_true rfl⟩ ?_
            refine g_cS2x dX10_match_47 lX10_144 rfl vX10_apart (ct_X10_apart X) ⟨Nat.le_of_ble_eq_true rfl, Nat.le_of_ble_eq_true rfl⟩ (Nat.le_of_ble_eq_true rfl) ⟨Nat.le_of_ble_eq_true rfl, Nat.le_of_ble_eq_true rfl⟩ ?_
            refine g_aload_n dX10_match_50 (by rfl) (by first | exact isRf_r | exact isRf_n | exact isRf_o | assumption) ?_
            refine g_getf dX10_match_51 fX10_7 (by first | exact m0 | exact hr_a dA m0) (by rfl) ?_
            refine g_iconst (v := 4) dX10_match_54 (by decide) ?_
            refine g_ilM (4) dX10_match_55 (by first | exact m1 | exact hr_n) (by first | rfl | exact lin3 | exact lin3a | exact linA | exact linB) (by omega) ?_
            refine g_icmp_gt (tgt := 63) dX10_match_56 (by decide) (fun c6 => ?_) (fun c6 => ?_)
            · skip
              have hp1 : (fun d => decide (dist (shF (ltx r l) d) (shF (ltx r m) d) ≤ r 4)) i = false := decide_eq_false (fun z => i_nle c6 z)
              refine g_iconst (v := 0) dX10_match_63 (by decide) ?_
              refine g_istore_n (L1 := [(0, _), (1, _), (2, _), (3, _), (4, _)]) dX10_match_64 (by decide) (by rfl) ?_
              refine g_iinc (v := nI (i + 1)) (L1 := [(0, _), (1, _), (2, _), (3, _), (4, _)]) dX10_match_65 (by rfl) (nI_1 i) (by decide) (by rfl) ?_
              refine g_goto (tgt := 23) dX10_match_68 (by decide) ?_
              refine ih hi4 _ ?_
              show _ = bI (allB (fun d => decide (dist (shF (ltx r l) d) (shF (ltx r m) d) ≤ r 4)) i && (fun d => decide (dist (shF (ltx r l) d) (shF (ltx r m) d) ≤ r 4)) i)
              rw [hB]
              first
                | rfl
                | (rw [hp1]; rfl)
            · skip
              have hp1 : (fun d => decide (dist (shF (ltx r l) d) (shF (ltx r m) d) ≤ r 4)) i = true := decide_eq_true (i_nlt c6)
              refine g_iconst (v := 1) dX10_match_59 (by decide) ?_
              refine g_goto (tgt := 64) dX10_match_60 (by decide) ?_
              refine g_istore_n (L1 := [(0, _), (1, _), (2, _), (3, _), (4, _)]) dX10_match_64 (by decide) (by rfl) ?_
              refine g_iinc (v := nI (i + 1)) (L1 := [(0, _), (1, _), (2, _), (3, _), (4, _)]) dX10_match_65 (by rfl) (nI_1 i) (by decide) (by rfl) ?_
              refine g_goto (tgt := 23) dX10_match_68 (by decide) ?_
              refine ih hi4 _ ?_
              show _ = bI (allB (fun d => decide (dist (shF (ltx r l) d) (shF (ltx r m) d) ≤ r 4)) i && (fun d => decide (dist (shF (ltx r l) d) (shF (ltx r m) d) ≤ r 4)) i)
              rw [hB]
              first
                | rfl
                | (rw [hp1]; rfl)
      exact loop23 0 (by omega) 1 rfl
    · skip
      have eF : Q_match r (nI l) z = -1 := by
        unfold Q_match
        rw [e8, hk, show okB (nI nl) z = false from bI_0 c2]
        rfl
      refine g_iconst (v := (-1)) dX10_match_16 (by decide) ?_
      refine g_iret dX10_match_17 rfl (Nat.le_refl _) (Nat.le_refl _) ?_
      refine Ex.i ?_ rfl
      rw [eF]

set_option maxHeartbeats 4000000 in
set_option maxRecDepth 100000 in
theorem ct_X10_alike (X : Cx) {h : Hp} {a n1 : Nat} {r : Nat → Int32} {k : Int32}  (hM : MoAt X h a n1 r) (hO : Ok r) : Ct X mX10_alike 3 0 0 [.ref a, .int k] h (Ex (.int (Q_alike r k)) h) := by
  obtain ⟨⟨n2, st, n3, n4, le, n5, at0, lt, n6, fl, n7, m0⟩, m1⟩ := id hM
  unfold mdl at m0
  have dA := hM.ne
  obtain ⟨nv, nl, no, hnv, hnl, hno, e7, e8, e9, hset, hvok, hvz, hlok, hlz, hok, hoz, hw⟩ := id hO
  refine Ct.ofG vX10_alike.1.2.2.1 (Nat.le_of_ble_eq_true rfl) ?_
  show G X RX10 cX10_alike 6 (some .int) "alike" (Rm 3 0 0) (Fm X (Ex (.int (Q_alike r k)) h) 0 0) 0 0 0 [(0, .ref a), (1, .int k)] [] h
  refine g_iload_n dX10_alike_0 (by rfl) ?_
  refine g_cS1x dX10_alike_1 lX10_49 rfl vX10_isDye (ct_X10_isDye X) ⟨Nat.le_of_ble_eq_true rfl, Nat.le_of_ble_eq_true rfl⟩ (Nat.le_of_ble_eq_true rfl) ⟨Nat.le_of_ble_eq_true rfl, Nat.le_of_ble_eq_true rfl⟩ ?_
  refine g_if_ne (tgt := 9) dX10_alike_4 (by decide) (fun c1 => ?_) (fun c1 => ?_)
  · skip
    have hg := bI_1 c1
    obtain ⟨d, hd, rfl⟩ := dye_nI hg
    have cd : cl (nI d) = d := cl_nI (by omega)
    have eF : Q_alike r (nI d) = alkF r d nl := by
      unfold Q_alike
      rw [hg, e8, cd, cl_nI (by omega)]
      rfl
    refine g_iconst (v := 0) dX10_alike_9 (by decide) ?_
    refine g_istore_n (L1 := [(0, _), (1, _), (2, _)]) dX10_alike_10 (by decide) (by rfl) ?_
    refine g_iconst (v := 0) dX10_alike_11 (by decide) ?_
    refine g_istore_n (L1 := [(0, _), (1, _), (2, _), (3, _)]) dX10_alike_12 (by decide) (by rfl) ?_
    have loop13 : ∀ i, i ≤ nl → ∀ most, most = alkF r d i → G X RX10 cX10_alike 6 (some .int) "alike" (Rm 3 0 0) (Fm X (Ex (.int (Q_alike r (nI d))) h) 0 0) 0 0 13 [(0, .ref a), (1, .int (nI d)), (2, .int most), (3, .int (nI i))] [] h := by
      refine up_ind nl (fun i hi ih => ?_)
      intro most eacc
      refine g_iload_n dX10_alike_13 (by rfl) ?_
      refine g_aload_n dX10_alike_14 (by rfl) (by first | exact isRf_r | exact isRf_n | exact isRf_o | assumption) ?_
      refine g_getf dX10_alike_15 fX10_7 (by first | exact m0 | exact hr_a dA m0) (by rfl) ?_
      refine g_bipush (v := 8) dX10_alike_18 (by decide) ?_
      refine g_ilM (8) dX10_alike_20 (by first | exact m1 | exact hr_n) (by first | rfl | exact lin3 | exact lin3a | exact linA | exact linB) (by omega) ?_
      rw [e8]
      refine g_icmp_ge (tgt := 121) dX10_alike_21 (by decide) (fun c2 => ?_) (fun c2 => ?_)
      · skip
        have hie : i = nl := Nat.le_antisymm hi (c_ge (by omega) (by omega) c2)
        rw [hie] at eacc
        refine g_iload_n dX10_alike_121 (by rfl) ?_
        refine g_iret dX10_alike_122 rfl (Nat.le_refl _) (Nat.le_refl _) ?_
        refine Ex.i ?_ rfl
        rw [eF]
        exact eacc
      · skip
        have hlt : i < nl := c_nge (by omega) (by omega) c2
        refine g_iconst (v := 0) dX10_alike_24 (by decide) ?_
        refine g_istore (L1 := [(0, _), (1, _), (2, _), (3, _), (4, _)]) dX10_alike_25 (by decide) (by rfl) ?_
        refine g_iconst (v := 0) dX10_alike_27 (by decide) ?_
        refine g_istore (L1 := [(0, _), (1, _), (2, _), (3, _), (4, _), (5, _)]) dX10_alike_28 (by decide) (by rfl) ?_
        have loop30 : ∀ j, j ≤ nl → ∀ n, n = nI (cntN (fun l2 => !sold r l2 && (!decide (shF (ltx r l2) d - shF (ltx r i) d < 0) && decide (shF (ltx r l2) d - shF (ltx r i) d ≤ r 4))) j) → G X RX10 cX10_alike 6 (some .int) "alike" (Rm 3 0 0) (Fm X (Ex (.int (Q_alike r (nI d))) h) 0 0) 0 0 30 [(0, .ref a), (1, .int (nI d)), (2, .int most), (3, .int (nI i)), (4, .int n), (5, .int (nI j))] [] h := by
          refine up_ind nl (fun j hj ih2 => ?_)
          intro n ecnt
          refine g_iload dX10_alike_30 (by rfl) ?_
          refine g_aload_n dX10_alike_32 (by rfl) (by first | exact isRf_r | exact isRf_n | exact isRf_o | assumption) ?_
          refine g_getf dX10_alike_33 fX10_7 (by first | exact m0 | exact hr_a dA m0) (by rfl) ?_
          refine g_bipush (v := 8) dX10_alike_36 (by decide) ?_
          refine g_ilM (8) dX10_alike_38 (by first | exact m1 | exact hr_n) (by first | rfl | exact lin3 | exact lin3a | exact linA | exact linB) (by omega) ?_
          rw [e8]
          refine g_icmp_ge (tgt := 94) dX10_alike_39 (by decide) (fun c3 => ?_) (fun c3 => ?_)
          · skip
            have hje : j = nl := Nat.le_antisymm hj (c_ge (by omega) (by omega) c3)
            have en : n = farN r d i := by
              unfold farN
              rw [e8, cl_nI (by omega), ecnt, hje]
            refine g_aload_n dX10_alike_94 (by rfl) (by first | exact isRf_r | exact isRf_n | exact isRf_o | assumption) ?_
            refine g_iload_n dX10_alike_95 (by rfl) ?_
            refine g_cV1x dX10_alike_96 lX10_97 vX10_isSold (ct_X10_isSold X (l := i) hM (by omega) (hlok i hlt).s13) (by first | exact m0 | exact hr_a dA m0) rfl ⟨Nat.le_of_ble_eq_true rfl, Nat.le_of_ble_eq_true rfl⟩ (Nat.le_of_ble_eq_true rfl) ⟨Nat.le_of_ble_eq_true rfl, Nat.le_of_ble_eq_true rfl⟩ ?_
            refine g_if_ne (tgt := 113) dX10_alike_99 (by decide) (fun c4 => ?_) (fun c4 => ?_)
            · skip
              have hsi : sold r i = true := bI_1 c4
              refine g_iload_n dX10_alike_113 (by rfl) ?_
              refine g_istore_n (L1 := [(0, _), (1, _), (2, _), (3, _), (4, _), (5, _)]) dX10_alike_114 (by decide) (by rfl) ?_
              refine g_iinc (v := nI (i + 1)) (L1 := [(0, _), (1, _), (2, _), (3, _), (4, _), (5, _)]) dX10_alike_115 (by rfl) (nI_1 i) (by decide) (by rfl) ?_
              refine g_goto (tgt := 13) dX10_alike_118 (by decide) ?_
              refine g_pick [0, 1, 2, 3] rfl ?_
              refine ih hlt _ ?_
              show _ = cond (sold r i) (alkF r d i) (cond (decide (farN r d i ≤ alkF r d i)) (alkF r d i) (farN r d i))
              first
                | (rw [hsi]; exact eacc)
                | (rw [hsi, decide_eq_true hle]; exact eacc)
                | (rw [hsi, decide_eq_false hle]; exact en)
            · skip
              have hsi : sold r i = false := bI_0 c4
              refine g_iload dX10_alike_102 (by rfl) ?_
              refine g_iload_n dX10_alike_104 (by rfl) ?_
              refine g_icmp_le (tgt := 113) dX10_alike_105 (by decide) (fun c5 => ?_) (fun c5 => ?_)
              · skip
                have hle : farN r d i ≤ alkF r d i := by
                  rw [← en, ← eacc]
                  exact c5
                refine g_iload_n dX10_alike_113 (by rfl) ?_
                refine g_istore_n (L1 := [(0, _), (1, _), (2, _), (3, _), (4, _), (5, _)]) dX10_alike_114 (by decide) (by rfl) ?_
                refine g_iinc (v := nI (i + 1)) (L1 := [(0, _), (1, _), (2, _), (3, _), (4, _), (5, _)]) dX10_alike_115 (by rfl) (nI_1 i) (by decide) (by rfl) ?_
                refine g_goto (tgt := 13) dX10_alike_118 (by decide) ?_
                refine g_pick [0, 1, 2, 3] rfl ?_
                refine ih hlt _ ?_
                show _ = cond (sold r i) (alkF r d i) (cond (decide (farN r d i ≤ alkF r d i)) (alkF r d i) (farN r d i))
                first
                  | (rw [hsi]; exact eacc)
                  | (rw [hsi, decide_eq_true hle]; exact eacc)
                  | (rw [hsi, decide_eq_false hle]; exact en)
              · skip
                have hle : ¬ farN r d i ≤ alkF r d i := by
                  rw [← en, ← eacc]
                  exact c5
                refine g_iload dX10_alike_108 (by rfl) ?_
                refine g_goto (tgt := 114) dX10_alike_110 (by decide) ?_
                refine g_istore_n (L1 := [(0, _), (1, _), (2, _), (3, _), (4, _), (5, _)]) dX10_alike_114 (by decide) (by rfl) ?_
                refine g_iinc (v := nI (i + 1)) (L1 := [(0, _), (1, _), (2, _), (3, _), (4, _), (5, _)]) dX10_alike_115 (by rfl) (nI_1 i) (by decide) (by rfl) ?_
                refine g_goto (tgt := 13) dX10_alike_118 (by decide) ?_
                refine g_pick [0, 1, 2, 3] rfl ?_
                refine ih hlt _ ?_
                show _ = cond (sold r i) (alkF r d i) (cond (decide (farN r d i ≤ alkF r d i)) (alkF r d i) (farN r d i))
                first
                  | (rw [hsi]; exact eacc)
                  | (rw [hsi, decide_eq_true hle]; exact eacc)
                  | (rw [hsi, decide_eq_false hle]; exact en)
          · skip
            have hjl : j < nl := c_nge (by omega) (by omega) c3
            refine g_iload dX10_alike_42 (by rfl) ?_
            refine g_aload_n dX10_alike_44 (by rfl) (by first | exact isRf_r | exact isRf_n | exact isRf_o | assumption) ?_
            refine g_iload dX10_alike_45 (by rfl) ?_
            refine g_cV1x dX10_alike_47 lX10_97 vX10_isSold (ct_X10_isSold X (l := j) hM (by omega) (hlok j hjl).s13) (by first | exact m0 | exact hr_a dA m0) rfl ⟨Nat.le_of_ble_eq_true rfl, Nat.le_of_ble_eq_true rfl⟩ (Nat.le_of_ble_eq_true rfl) ⟨Nat.le_of_ble_eq_true rfl, Nat.le_of_ble_eq_true rfl⟩ ?_
            refine g_if_ne (tgt := 84) dX10_alike_50 (by decide) (fun c6 => ?_) (fun c6 => ?_)
            · skip
              have hp : (fun l2 => !sold r l2 && (!decide (shF (ltx r l2) d - shF (ltx r i) d < 0) && decide (shF (ltx r l2) d - shF (ltx r i) d ≤ r 4))) j = false := by
                show (!sold r j && _) = false
                rw [show sold r j = true from bI_1 c6]
                rfl
              refine g_iconst (v := 0) dX10_alike_84 (by decide) ?_
              refine g_iadd dX10_alike_85 ?_
              refine g_istore (L1 := [(0, _), (1, _), (2, _), (3, _), (4, _), (5, _)]) dX10_alike_86 (by decide) (by rfl) ?_
              refine g_iinc (v := nI (j + 1)) (L1 := [(0, _), (1, _), (2, _), (3, _), (4, _), (5, _)]) dX10_alike_88 (by rfl) (nI_1 j) (by decide) (by rfl) ?_
              refine g_goto (tgt := 30) dX10_alike_91 (by decide) ?_
              refine ih2 hjl _ ?_
              first
                | (rw [cnt_f hp, ecnt]; exact Int32.add_zero _)
                | (rw [cnt_t hp, ecnt])
            · skip
              have hsd : sold r j = false := bI_0 c6
              refine g_aload_n dX10_alike_53 (by rfl) (by first | exact isRf_r | exact isRf_n | exact isRf_o | assumption) ?_
              refine g_iload dX10_alike_54 (by rfl) ?_
              refine g_iload_n dX10_alike_56 (by rfl) ?_
              refine g_cV2x dX10_alike_57 lX10_91 vX10_shadeOf (ct_X10_shadeOf X (l := j) hM (by omega) hd (hlok j hjl).pos) (by first | exact m0 | exact hr_a dA m0) rfl ⟨Nat.le_of_ble_eq_true rfl, Nat.le_of_ble_eq_true rfl⟩ (Nat.le_of_ble_eq_true rfl) ⟨Nat.le_of_ble_eq_true rfl, Nat.le_of_ble_eq_true rfl⟩ ?_
              refine g_aload_n dX10_alike_60 (by rfl) (by first | exact isRf_r | exact isRf_n | exact isRf_o | assumption) ?_
              refine g_iload_n dX10_alike_61 (by rfl) ?_
              refine g_iload_n dX10_alike_62 (by rfl) ?_
              refine g_cV2x dX10_alike_63 lX10_91 vX10_shadeOf (ct_X10_shadeOf X (l := i) hM (by omega) hd (hlok i hlt).pos) (by first | exact m0 | exact hr_a dA m0) rfl ⟨Nat.le_of_ble_eq_true rfl, Nat.le_of_ble_eq_true rfl⟩ (Nat.le_of_ble_eq_true rfl) ⟨Nat.le_of_ble_eq_true rfl, Nat.le_of_ble_eq_true rfl⟩ ?_
              refine g_isub dX10_alike_66 ?_
              refine g_iconst (v := 0) dX10_alike_67 (by decide) ?_
              refine g_aload_n dX10_alike_68 (by rfl) (by first | exact isRf_r | exact isRf_n | exact isRf_o | assumption) ?_
              refine g_getf dX10_alike_69 fX10_7 (by first | exact m0 | exact hr_a dA m0) (by rfl) ?_
              refine g_iconst (v := 4) dX10_alike_72 (by decide) ?_
              refine g_ilM (4) dX10_alike_73 (by first | exact m1 | exact hr_n) (by first | rfl | exact lin3 | exact lin3a | exact linA | exact linB) (by omega) ?_
              refine g_cS3x dX10_alike_74 lX10_31 rfl vX10_in (ct_X10_in X) ⟨Nat.le_of_ble_eq_true rfl, Nat.le_of_ble_eq_true rfl⟩ (Nat.le_of_ble_eq_true rfl) ⟨Nat.le_of_ble_eq_true rfl, Nat.le_of_ble_eq_true rfl⟩ ?_
              refine g_if_eq (tgt := 84) dX10_alike_77 (by decide) (fun c7 => ?_) (fun c7 => ?_)
              · skip
                have hp : (fun l2 => !sold r l2 && (!decide (shF (ltx r l2) d - shF (ltx r i) d < 0) && decide (shF (ltx r l2) d - shF (ltx r i) d ≤ r 4))) j = false := by
                  show (!sold r j && _) = false
                  rw [far_e, show rngB 0 (r 4) (shF (ltx r j) d - shF (ltx r i) d) = false from bI_0 c7, Bool.and_false]
                refine g_iconst (v := 0) dX10_alike_84 (by decide) ?_
                refine g_iadd dX10_alike_85 ?_
                refine g_istore (L1 := [(0, _), (1, _), (2, _), (3, _), (4, _), (5, _)]) dX10_alike_86 (by decide) (by rfl) ?_
                refine g_iinc (v := nI (j + 1)) (L1 := [(0, _), (1, _), (2, _), (3, _), (4, _), (5, _)]) dX10_alike_88 (by rfl) (nI_1 j) (by decide) (by rfl) ?_
                refine g_goto (tgt := 30) dX10_alike_91 (by decide) ?_
                refine ih2 hjl _ ?_
                first
                  | (rw [cnt_f hp, ecnt]; exact Int32.add_zero _)
                  | (rw [cnt_t hp, ecnt])
              · skip
                have hp : (fun l2 => !sold r l2 && (!decide (shF (ltx r l2) d - shF (ltx r i) d < 0) && decide (shF (ltx r l2) d - shF (ltx r i) d ≤ r 4))) j = true := by
                  show (!sold r j && _) = true
                  rw [far_e, show rngB 0 (r 4) (shF (ltx r j) d - shF (ltx r i) d) = true from bI_1 c7, hsd]
                  rfl
                refine g_iconst (v := 1) dX10_alike_80 (by decide) ?_
                refine g_goto (tgt := 85) dX10_alike_81 (by decide) ?_
                refine g_iadd dX10_alike_85 ?_
                refine g_istore (L1 := [(0, _), (1, _), (2, _), (3, _), (4, _), (5, _)]) dX10_alike_86 (by decide) (by rfl) ?_
                refine g_iinc (v := nI (j + 1)) (L1 := [(0, _), (1, _), (2, _), (3, _), (4, _), (5, _)]) dX10_alike_88 (by rfl) (nI_1 j) (by decide) (by rfl) ?_
                refine g_goto (tgt := 30) dX10_alike_91 (by decide) ?_
                refine ih2 hjl _ ?_
                first
                  | (rw [cnt_f hp, ecnt]; exact Int32.add_zero _)
                  | (rw [cnt_t hp, ecnt])
        exact loop30 0 (by omega) 0 rfl
    exact loop13 0 (by omega) 0 rfl
  · skip
    have eF : Q_alike r k = -1 := by
      unfold Q_alike
      rw [show rngB 0 3 k = false from bI_0 c1]
      rfl
    refine g_iconst (v := (-1)) dX10_alike_7 (by decide) ?_
    refine g_iret dX10_alike_8 rfl (Nat.le_refl _) (Nat.le_refl _) ?_
    refine Ex.i ?_ rfl
    rw [eF]

set_option maxHeartbeats 4000000 in
set_option maxRecDepth 100000 in
theorem ct_X10_takes (X : Cx) {h : Hp} {a n1 : Nat} {r : Nat → Int32} {w z k : Int32}  (hM : MoAt X h a n1 r) (hO : Ok r) : Ct X mX10_takes 2 0 0 [.ref a, .int w, .int z, .int k] h (Ex (.int (Q_takes r w z k)) h) := by
  obtain ⟨⟨n2, st, n3, n4, le, n5, at0, lt, n6, fl, n7, m0⟩, m1⟩ := id hM
  unfold mdl at m0
  have dA := hM.ne
  obtain ⟨nv, nl, no, hnv, hnl, hno, e7, e8, e9, hset, hvok, hvz, hlok, hlz, hok, hoz, hw⟩ := id hO
  refine Ct.ofG vX10_takes.1.2.2.1 (Nat.le_of_ble_eq_true rfl) ?_
  show G X RX10 cX10_takes 6 (some .int) "takes" (Rm 2 0 0) (Fm X (Ex (.int (Q_takes r w z k)) h) 0 0) 0 0 0 [(0, .ref a), (1, .int w), (2, .int z), (3, .int k)] [] h
  refine g_aload_n dX10_takes_0 (by rfl) (by first | exact isRf_r | exact isRf_n | exact isRf_o | assumption) ?_
  refine g_iload_n dX10_takes_1 (by rfl) ?_
  refine g_cV1x dX10_takes_2 lX10_94 vX10_isLot (ct_X10_isLot X (n := nl) (by first | exact hM | exact hM.hr) (by omega) e8) (by first | exact m0 | exact hr_a dA m0) rfl ⟨Nat.le_of_ble_eq_true rfl, Nat.le_of_ble_eq_true rfl⟩ (Nat.le_of_ble_eq_true rfl) ⟨Nat.le_of_ble_eq_true rfl, Nat.le_of_ble_eq_true rfl⟩ ?_
  refine g_if_eq (tgt := 26) dX10_takes_5 (by decide) (fun c1 => ?_) (fun c1 => ?_)
  · skip
    have eF : Q_takes r w z k = -1 := by
      unfold Q_takes
      rw [e8, show okB (nI nl) w = false from bI_0 c1]
      rfl
    refine g_iconst (v := (-1)) dX10_takes_26 (by decide) ?_
    refine g_iret dX10_takes_27 rfl (Nat.le_refl _) (Nat.le_refl _) ?_
    refine Ex.i ?_ rfl
    rw [eF]
  · skip
    have hk : okB (nI nl) w = true := bI_1 c1
    obtain ⟨l, hl, rfl⟩ := okB_i (by omega) hk
    have cj : cl (nI l) = l := cl_nI (by omega)
    have hlo := hlok l hl
    have hl20 : l < 20 := by omega
    refine g_aload_n dX10_takes_8 (by rfl) (by first | exact isRf_r | exact isRf_n | exact isRf_o | assumption) ?_
    refine g_iload_n dX10_takes_9 (by rfl) ?_
    refine g_cV1x dX10_takes_10 lX10_53 vX10_isVat (ct_X10_isVat X (n := nv) (by first | exact hM | exact hM.hr) (by omega) e7) (by first | exact m0 | exact hr_a dA m0) rfl ⟨Nat.le_of_ble_eq_true rfl, Nat.le_of_ble_eq_true rfl⟩ (Nat.le_of_ble_eq_true rfl) ⟨Nat.le_of_ble_eq_true rfl, Nat.le_of_ble_eq_true rfl⟩ ?_
    refine g_if_eq (tgt := 26) dX10_takes_13 (by decide) (fun c2 => ?_) (fun c2 => ?_)
    · skip
      have eF : Q_takes r (nI l) z k = -1 := by
        unfold Q_takes
        rw [e8, e7, hk, show okB (nI nv) z = false from bI_0 c2]
        rfl
      refine g_iconst (v := (-1)) dX10_takes_26 (by decide) ?_
      refine g_iret dX10_takes_27 rfl (Nat.le_refl _) (Nat.le_refl _) ?_
      refine Ex.i ?_ rfl
      rw [eF]
    · skip
      have hkv : okB (nI nv) z = true := bI_1 c2
      obtain ⟨v, hv, rfl⟩ := okB_i (by omega) hkv
      have cv : cl (nI v) = v := cl_nI (by omega)
      have hvo := hvok v hv
      have hkd := dok_of hset hvo hlo
      refine g_iload_n dX10_takes_16 (by rfl) ?_
      refine g_iconst (v := 1) dX10_takes_17 (by decide) ?_
      refine g_bipush (v := 30) dX10_takes_18 (by decide) ?_
      refine g_cS3x dX10_takes_20 lX10_31 rfl vX10_in (ct_X10_in X) ⟨Nat.le_of_ble_eq_true rfl, Nat.le_of_ble_eq_true rfl⟩ (Nat.le_of_ble_eq_true rfl) ⟨Nat.le_of_ble_eq_true rfl, Nat.le_of_ble_eq_true rfl⟩ ?_
      refine g_if_ne (tgt := 28) dX10_takes_23 (by decide) (fun c3 => ?_) (fun c3 => ?_)
      · skip
        have hg := bI_1 c3
        have hg2 := rng_b hg
        have q1 : (1 : Int32).toInt = 1 := by decide
        have q2 : (30 : Int32).toInt = 30 := by decide
        obtain ⟨t, ht, rfl⟩ := i_sm (x := k) (n := 31) (by omega) (by omega) (by omega)
        refine g_aload_n dX10_takes_28 (by rfl) (by first | exact isRf_r | exact isRf_n | exact isRf_o | assumption) ?_
        refine g_iload_n dX10_takes_29 (by rfl) ?_
        refine g_cV1x dX10_takes_30 lX10_97 vX10_isSold (ct_X10_isSold X (l := l) hM (by omega) hlo.s13) (by first | exact m0 | exact hr_a dA m0) rfl ⟨Nat.le_of_ble_eq_true rfl, Nat.le_of_ble_eq_true rfl⟩ (Nat.le_of_ble_eq_true rfl) ⟨Nat.le_of_ble_eq_true rfl, Nat.le_of_ble_eq_true rfl⟩ ?_
        refine g_if_eq (tgt := 39) dX10_takes_33 (by decide) (fun c4 => ?_) (fun c4 => ?_)
        · skip
          have eF : Q_takes r (nI l) (nI v) (nI t) = vt r v 2 - takL (r 0) (vt r v 2) (vt r v 1) (ltx r l) t := by
            unfold Q_takes
            rw [e8, e7, hk, hkv, hg, cj, cv, show cl (nI t) = t from cl_nI (by omega), show sold r l = false from bI_0 c4]
            rfl
          refine g_aload_n dX10_takes_39 (by rfl) (by first | exact isRf_r | exact isRf_n | exact isRf_o | assumption) ?_
          refine g_iload_n dX10_takes_40 (by rfl) ?_
          refine g_iconst (v := 2) dX10_takes_41 (by decide) ?_
          refine g_cV2x dX10_takes_42 lX10_57 vX10_vatNumber (ct_X10_vatNumber X (i := v) (k := 2) (by first | exact hM | exact hM.hr) (by omega)) (by first | exact m0 | exact hr_a dA m0) rfl ⟨Nat.le_of_ble_eq_true rfl, Nat.le_of_ble_eq_true rfl⟩ (Nat.le_of_ble_eq_true rfl) ⟨Nat.le_of_ble_eq_true rfl, Nat.le_of_ble_eq_true rfl⟩ ?_
          refine g_istore (L1 := [(0, _), (1, _), (2, _), (3, _), (4, _)]) dX10_takes_45 (by decide) (by rfl) ?_
          refine g_iconst (v := 0) dX10_takes_47 (by decide) ?_
          refine g_istore (L1 := [(0, _), (1, _), (2, _), (3, _), (4, _), (5, _)]) dX10_takes_48 (by decide) (by rfl) ?_
          have loop50 : ∀ i, i ≤ t → G X RX10 cX10_takes 6 (some .int) "takes" (Rm 2 0 0) (Fm X (Ex (.int (Q_takes r (nI l) (nI v) (nI t))) h) 0 0) 0 0 50 [(0, .ref a), (1, .int (nI l)), (2, .int (nI v)), (3, .int (nI t)), (4, .int (takL (r 0) (vt r v 2) (vt r v 1) (ltx r l) i)), (5, .int (nI i))] [] h := by
            refine up_ind t (fun i hi ih => ?_)
            refine g_iload dX10_takes_50 (by rfl) ?_
            refine g_iload_n dX10_takes_52 (by rfl) ?_
            refine g_icmp_ge (tgt := 75) dX10_takes_53 (by decide) (fun c5 => ?_) (fun c5 => ?_)
            · skip
              have hie : i = t := Nat.le_antisymm hi (c_ge (by omega) (by omega) c5)
              refine g_aload_n dX10_takes_75 (by rfl) (by first | exact isRf_r | exact isRf_n | exact isRf_o | assumption) ?_
              refine g_iload_n dX10_takes_76 (by rfl) ?_
              refine g_iconst (v := 2) dX10_takes_77 (by decide) ?_
              refine g_cV2x dX10_takes_78 lX10_57 vX10_vatNumber (ct_X10_vatNumber X (i := v) (k := 2) (by first | exact hM | exact hM.hr) (by omega)) (by first | exact m0 | exact hr_a dA m0) rfl ⟨Nat.le_of_ble_eq_true rfl, Nat.le_of_ble_eq_true rfl⟩ (Nat.le_of_ble_eq_true rfl) ⟨Nat.le_of_ble_eq_true rfl, Nat.le_of_ble_eq_true rfl⟩ ?_
              refine g_iload dX10_takes_81 (by rfl) ?_
              refine g_isub dX10_takes_83 ?_
              refine g_iret dX10_takes_84 rfl (Nat.le_refl _) (Nat.le_refl _) ?_
              refine Ex.i ?_ rfl
              rw [eF, hie]
              rfl
            · skip
              have hit : i < t := c_nge (by omega) (by omega) c5
              refine g_iload dX10_takes_56 (by rfl) ?_
              refine g_aload_n dX10_takes_58 (by rfl) (by first | exact isRf_r | exact isRf_n | exact isRf_o | assumption) ?_
              refine g_iload_n dX10_takes_59 (by rfl) ?_
              refine g_iload_n dX10_takes_60 (by rfl) ?_
              refine g_iload dX10_takes_61 (by rfl) ?_
              refine g_cV3x dX10_takes_63 lX10_84 vX10_taken (ct_X10_taken X hM hl20 (by omega) hkd) (by first | exact m0 | exact hr_a dA m0) rfl ⟨Nat.le_of_ble_eq_true rfl, Nat.le_of_ble_eq_true rfl⟩ (Nat.le_of_ble_eq_true rfl) ⟨Nat.le_of_ble_eq_true rfl, Nat.le_of_ble_eq_true rfl⟩ ?_
              refine g_isub dX10_takes_66 ?_
              refine g_istore (L1 := [(0, _), (1, _), (2, _), (3, _), (4, _), (5, _)]) dX10_takes_67 (by decide) (by rfl) ?_
              refine g_iinc (v := nI (i + 1)) (L1 := [(0, _), (1, _), (2, _), (3, _), (4, _), (5, _)]) dX10_takes_69 (by rfl) (nI_1 i) (by decide) (by rfl) ?_
              refine g_goto (tgt := 50) dX10_takes_72 (by decide) ?_
              exact ih hit
          exact loop50 0 (by omega)
        · skip
          have eF : Q_takes r (nI l) (nI v) (nI t) = -2 := by
            unfold Q_takes
            rw [e8, e7, hk, hkv, hg, cj, show sold r l = true from bI_1 c4]
            rfl
          refine g_bipush (v := (-2)) dX10_takes_36 (by decide) ?_
          refine g_iret dX10_takes_38 rfl (Nat.le_refl _) (Nat.le_refl _) ?_
          refine Ex.i ?_ rfl
          rw [eF]
      · skip
        have eF : Q_takes r (nI l) (nI v) k = -1 := by
          unfold Q_takes
          rw [e8, e7, hk, hkv, show rngB 1 30 k = false from bI_0 c3]
          rfl
        refine g_iconst (v := (-1)) dX10_takes_26 (by decide) ?_
        refine g_iret dX10_takes_27 rfl (Nat.le_refl _) (Nat.le_refl _) ?_
        refine Ex.i ?_ rfl
        rw [eF]

set_option maxHeartbeats 4000000 in
set_option maxRecDepth 100000 in
theorem ct_X10_inLots (X : Cx) {h : Hp} {a n1 : Nat} {r : Nat → Int32} {nl f : Nat} {b : Bool}  (hM : MoAt X h a n1 r) (hnl : nl ≤ 20) (e8 : r 8 = nI nl) (hlok : ∀ l, l < nl → LOk (ltx r l)) (hf : f < 15) : Ct X mX10_inLots 2 0 0 [.ref a, .int (nI f), .int (bI b)] h (Ex (.int (sumP (fun l => sold r l == b) (fun l => ltx r l f) nl)) h) := by
  obtain ⟨⟨n2, st, n3, n4, le, n5, at0, lt, n6, fl, n7, m0⟩, m1⟩ := id hM
  unfold mdl at m0
  have dA := hM.ne
  refine Ct.ofG vX10_inLots.1.2.2.1 (Nat.le_of_ble_eq_true rfl) ?_
  show G X RX10 cX10_inLots 5 (some .int) "inLots" (Rm 2 0 0) (Fm X (Ex (.int (sumP (fun l => sold r l == b) (fun l => ltx r l f) nl)) h) 0 0) 0 0 0 [(0, .ref a), (1, .int (nI f)), (2, .int (bI b))] [] h
  refine g_iconst (v := 0) dX10_inLots_0 (by decide) ?_
  refine g_istore_n (L1 := [(0, _), (1, _), (2, _), (3, _)]) dX10_inLots_1 (by decide) (by rfl) ?_
  refine g_iconst (v := 0) dX10_inLots_2 (by decide) ?_
  refine g_istore (L1 := [(0, _), (1, _), (2, _), (3, _), (4, _)]) dX10_inLots_3 (by decide) (by rfl) ?_
  have loop5 : ∀ i, i ≤ nl → ∀ acc, acc = sumP (fun l => sold r l == b) (fun l => ltx r l f) i → G X RX10 cX10_inLots 5 (some .int) "inLots" (Rm 2 0 0) (Fm X (Ex (.int (sumP (fun l => sold r l == b) (fun l => ltx r l f) nl)) h) 0 0) 0 0 5 [(0, .ref a), (1, .int (nI f)), (2, .int (bI b)), (3, .int acc), (4, .int (nI i))] [] h := by
    refine up_ind nl (fun i hi ih => ?_)
    intro acc eacc
    refine g_iload dX10_inLots_5 (by rfl) ?_
    refine g_aload_n dX10_inLots_7 (by rfl) (by first | exact isRf_r | exact isRf_n | exact isRf_o | assumption) ?_
    refine g_getf dX10_inLots_8 fX10_7 (by first | exact m0 | exact hr_a dA m0) (by rfl) ?_
    refine g_bipush (v := 8) dX10_inLots_11 (by decide) ?_
    refine g_ilM (8) dX10_inLots_13 (by first | exact m1 | exact hr_n) (by first | rfl | exact lin3 | exact lin3a | exact linA | exact linB) (by omega) ?_
    rw [e8]
    refine g_icmp_ge (tgt := 47) dX10_inLots_14 (by decide) (fun c1 => ?_) (fun c1 => ?_)
    · skip
      have hie : i = nl := Nat.le_antisymm hi (c_ge (by omega) (by omega) c1)
      rw [hie] at eacc
      refine g_iload_n dX10_inLots_47 (by rfl) ?_
      refine g_iret dX10_inLots_48 rfl (Nat.le_refl _) (Nat.le_refl _) ?_
      exact Ex.i eacc rfl
    · skip
      have hlt : i < nl := c_nge (by omega) (by omega) c1
      refine g_iload_n dX10_inLots_17 (by rfl) ?_
      refine g_aload_n dX10_inLots_18 (by rfl) (by first | exact isRf_r | exact isRf_n | exact isRf_o | assumption) ?_
      refine g_iload dX10_inLots_19 (by rfl) ?_
      refine g_cV1x dX10_inLots_21 lX10_97 vX10_isSold (ct_X10_isSold X (l := i) hM (by omega) (hlok i hlt).s13) (by first | exact m0 | exact hr_a dA m0) rfl ⟨Nat.le_of_ble_eq_true rfl, Nat.le_of_ble_eq_true rfl⟩ (Nat.le_of_ble_eq_true rfl) ⟨Nat.le_of_ble_eq_true rfl, Nat.le_of_ble_eq_true rfl⟩ ?_
      refine g_iload_n dX10_inLots_24 (by rfl) ?_
      refine g_icmp_ne (tgt := 38) dX10_inLots_25 (by decide) (fun c2 => ?_) (fun c2 => ?_)
      · skip
        have hp : (fun l => sold r l == b) i = false := by
          show (sold r i == b) = false
          refine Bool.eq_false_iff.mpr (fun z => ?_)
          exact c2 (by rw [eq_of_beq z])
        refine g_iconst (v := 0) dX10_inLots_38 (by decide) ?_
        refine g_iadd dX10_inLots_39 ?_
        refine g_istore_n (L1 := [(0, _), (1, _), (2, _), (3, _), (4, _)]) dX10_inLots_40 (by decide) (by rfl) ?_
        refine g_iinc (v := nI (i + 1)) (L1 := [(0, _), (1, _), (2, _), (3, _), (4, _)]) dX10_inLots_41 (by rfl) (nI_1 i) (by decide) (by rfl) ?_
        refine g_goto (tgt := 5) dX10_inLots_44 (by decide) ?_
        refine ih hlt _ ?_
        first
          | (rw [sumI_f hp, eacc]; exact Int32.add_zero _)
          | (rw [sumI_t hp, eacc]; rfl)
      · skip
        have hp : (fun l => sold r l == b) i = true := by
          show (sold r i == b) = true
          rw [bI_inj (show bI (sold r i) = bI b from c2)]
          exact beq_self_eq_true b
        refine g_aload_n dX10_inLots_28 (by rfl) (by first | exact isRf_r | exact isRf_n | exact isRf_o | assumption) ?_
        refine g_iload dX10_inLots_29 (by rfl) ?_
        refine g_iload_n dX10_inLots_31 (by rfl) ?_
        refine g_cV2x dX10_inLots_32 lX10_35 vX10_lotNumber (ct_X10_lotNumber X (i := i) (k := f) (by first | exact hM | exact hM.hr) (by omega)) (by first | exact m0 | exact hr_a dA m0) rfl ⟨Nat.le_of_ble_eq_true rfl, Nat.le_of_ble_eq_true rfl⟩ (Nat.le_of_ble_eq_true rfl) ⟨Nat.le_of_ble_eq_true rfl, Nat.le_of_ble_eq_true rfl⟩ ?_
        refine g_goto (tgt := 39) dX10_inLots_35 (by decide) ?_
        refine g_iadd dX10_inLots_39 ?_
        refine g_istore_n (L1 := [(0, _), (1, _), (2, _), (3, _), (4, _)]) dX10_inLots_40 (by decide) (by rfl) ?_
        refine g_iinc (v := nI (i + 1)) (L1 := [(0, _), (1, _), (2, _), (3, _), (4, _)]) dX10_inLots_41 (by rfl) (nI_1 i) (by decide) (by rfl) ?_
        refine g_goto (tgt := 5) dX10_inLots_44 (by decide) ?_
        refine ih hlt _ ?_
        first
          | (rw [sumI_f hp, eacc]; exact Int32.add_zero _)
          | (rw [sumI_t hp, eacc]; rfl)
  exact loop5 0 (by omega) _ rfl

set_option maxHeartbeats 4000000 in
set_option maxRecDepth 100000 in
theorem ct_X10_inHouse (X : Cx) {h : Hp} {a n1 : Nat} {r : Nat → Int32} {nl : Nat}  (hM : MoAt X h a n1 r) (hnl : nl ≤ 20) (e8 : r 8 = nI nl) (hlok : ∀ l, l < nl → LOk (ltx r l)) : Ct X mX10_inHouse 2 0 0 [.ref a] h (Ex (.int (nI (cntN (fun l => !sold r l) nl))) h) := by
  obtain ⟨⟨n2, st, n3, n4, le, n5, at0, lt, n6, fl, n7, m0⟩, m1⟩ := id hM
  unfold mdl at m0
  have dA := hM.ne
  refine Ct.ofG vX10_inHouse.1.2.2.1 (Nat.le_of_ble_eq_true rfl) ?_
  show G X RX10 cX10_inHouse 3 (some .int) "inHouse" (Rm 2 0 0) (Fm X (Ex (.int (nI (cntN (fun l => !sold r l) nl))) h) 0 0) 0 0 0 [(0, .ref a)] [] h
  refine g_iconst (v := 0) dX10_inHouse_0 (by decide) ?_
  refine g_istore_n (L1 := [(0, _), (1, _)]) dX10_inHouse_1 (by decide) (by rfl) ?_
  refine g_iconst (v := 0) dX10_inHouse_2 (by decide) ?_
  refine g_istore_n (L1 := [(0, _), (1, _), (2, _)]) dX10_inHouse_3 (by decide) (by rfl) ?_
  have loop4 : ∀ i, i ≤ nl → ∀ acc, acc = nI (cntN (fun l => !sold r l) i) → G X RX10 cX10_inHouse 3 (some .int) "inHouse" (Rm 2 0 0) (Fm X (Ex (.int (nI (cntN (fun l => !sold r l) nl))) h) 0 0) 0 0 4 [(0, .ref a), (1, .int acc), (2, .int (nI i))] [] h := by
    refine up_ind nl (fun i hi ih => ?_)
    intro acc eacc
    refine g_iload_n dX10_inHouse_4 (by rfl) ?_
    refine g_aload_n dX10_inHouse_5 (by rfl) (by first | exact isRf_r | exact isRf_n | exact isRf_o | assumption) ?_
    refine g_getf dX10_inHouse_6 fX10_7 (by first | exact m0 | exact hr_a dA m0) (by rfl) ?_
    refine g_bipush (v := 8) dX10_inHouse_9 (by decide) ?_
    refine g_ilM (8) dX10_inHouse_11 (by first | exact m1 | exact hr_n) (by first | rfl | exact lin3 | exact lin3a | exact linA | exact linB) (by omega) ?_
    rw [e8]
    refine g_icmp_ge (tgt := 37) dX10_inHouse_12 (by decide) (fun c1 => ?_) (fun c1 => ?_)
    · skip
      have hie : i = nl := Nat.le_antisymm hi (c_ge (by omega) (by omega) c1)
      rw [hie] at eacc
      refine g_iload_n dX10_inHouse_37 (by rfl) ?_
      refine g_iret dX10_inHouse_38 rfl (Nat.le_refl _) (Nat.le_refl _) ?_
      exact Ex.i eacc rfl
    · skip
      have hlt : i < nl := c_nge (by omega) (by omega) c1
      refine g_iload_n dX10_inHouse_15 (by rfl) ?_
      refine g_aload_n dX10_inHouse_16 (by rfl) (by first | exact isRf_r | exact isRf_n | exact isRf_o | assumption) ?_
      refine g_iload_n dX10_inHouse_17 (by rfl) ?_
      refine g_cV1x dX10_inHouse_18 lX10_97 vX10_isSold (ct_X10_isSold X (l := i) hM (by omega) (hlok i hlt).s13) (by first | exact m0 | exact hr_a dA m0) rfl ⟨Nat.le_of_ble_eq_true rfl, Nat.le_of_ble_eq_true rfl⟩ (Nat.le_of_ble_eq_true rfl) ⟨Nat.le_of_ble_eq_true rfl, Nat.le_of_ble_eq_true rfl⟩ ?_
      refine g_if_eq (tgt := 28) dX10_inHouse_21 (by decide) (fun c2 => ?_) (fun c2 => ?_)
      · skip
        have hp : (fun l => !sold r l) i = true := by
          show (!sold r i) = true
          rw [bI_0 c2]
          rfl
        refine g_iconst (v := 1) dX10_inHouse_28 (by decide) ?_
        refine g_iadd dX10_inHouse_29 ?_
        refine g_istore_n (L1 := [(0, _), (1, _), (2, _)]) dX10_inHouse_30 (by decide) (by rfl) ?_
        refine g_iinc (v := nI (i + 1)) (L1 := [(0, _), (1, _), (2, _)]) dX10_inHouse_31 (by rfl) (nI_1 i) (by decide) (by rfl) ?_
        refine g_goto (tgt := 4) dX10_inHouse_34 (by decide) ?_
        refine ih hlt _ ?_
        first
          | (rw [cnt_f hp, eacc]; exact Int32.add_zero _)
          | (rw [cnt_t hp, eacc])
      · skip
        have hp : (fun l => !sold r l) i = false := by
          show (!sold r i) = false
          rw [bI_1 c2]
          rfl
        refine g_iconst (v := 0) dX10_inHouse_24 (by decide) ?_
        refine g_goto (tgt := 29) dX10_inHouse_25 (by decide) ?_
        refine g_iadd dX10_inHouse_29 ?_
        refine g_istore_n (L1 := [(0, _), (1, _), (2, _)]) dX10_inHouse_30 (by decide) (by rfl) ?_
        refine g_iinc (v := nI (i + 1)) (L1 := [(0, _), (1, _), (2, _)]) dX10_inHouse_31 (by rfl) (nI_1 i) (by decide) (by rfl) ?_
        refine g_goto (tgt := 4) dX10_inHouse_34 (by decide) ?_
        refine ih hlt _ ?_
        first
          | (rw [cnt_f hp, eacc]; exact Int32.add_zero _)
          | (rw [cnt_t hp, eacc])
  exact loop4 0 (by omega) _ rfl

set_option maxHeartbeats 4000000 in
set_option maxRecDepth 100000 in
theorem ct_X10_account (X : Cx) {h : Hp} {a n1 : Nat} {r : Nat → Int32} {w k : Int32}  (hM : MoAt X h a n1 r) (hO : Ok r) : Ct X mX10_account 3 0 0 [.ref a, .int w, .int k] h (Ex (.int (Q_account r w k)) h) := by
  obtain ⟨⟨n2, st, n3, n4, le, n5, at0, lt, n6, fl, n7, m0⟩, m1⟩ := id hM
  unfold mdl at m0
  have dA := hM.ne
  obtain ⟨nv, nl, no, hnv, hnl, hno, e7, e8, e9, hset, hvok, hvz, hlok, hlz, hok, hoz, hw⟩ := id hO
  refine Ct.ofG vX10_account.1.2.2.1 (Nat.le_of_ble_eq_true rfl) ?_
  show G X RX10 cX10_account 3 (some .int) "account" (Rm 3 0 0) (Fm X (Ex (.int (Q_account r w k)) h) 0 0) 0 0 0 [(0, .ref a), (1, .int w), (2, .int k)] [] h
  refine g_iload_n dX10_account_0 (by rfl) ?_
  refine g_cS1x dX10_account_1 lX10_49 rfl vX10_isDye (ct_X10_isDye X) ⟨Nat.le_of_ble_eq_true rfl, Nat.le_of_ble_eq_true rfl⟩ (Nat.le_of_ble_eq_true rfl) ⟨Nat.le_of_ble_eq_true rfl, Nat.le_of_ble_eq_true rfl⟩ ?_
  refine g_if_ne (tgt := 9) dX10_account_4 (by decide) (fun c1 => ?_) (fun c1 => ?_)
  · skip
    have hg := bI_1 c1
    obtain ⟨d, hd, rfl⟩ := dye_nI hg
    have cd : cl (nI d) = d := cl_nI (by omega)
    refine g_iload_n dX10_account_9 (by rfl) ?_
    by_cases hsw : rngB 0 (nI 5) k = true
    · skip
      obtain ⟨jsw, hjsw, rfl⟩ := sw_in (m := 5) (by omega) hsw
      rcases (show jsw = 0 ∨ jsw = 1 ∨ jsw = 2 ∨ jsw = 3 ∨ jsw = 4 ∨ jsw = 5 by omega) with rfl | rfl | rfl | rfl | rfl | rfl
      · skip
        have eF : Q_account r (nI d) (nI 0) = r (11 + d) := by
          unfold Q_account
          rw [hg, show rngB 0 5 (nI 0) = true by decide, show cl (nI 0) = 0 from cl_nI (by omega), cd]
          rfl
        refine g_tableIn (tgt := 48) (off := 38) dX10_account_10 (by decide) (by decide) (by decide) (by decide) ?_
        refine g_aload_n dX10_account_48 (by rfl) (by first | exact isRf_r | exact isRf_n | exact isRf_o | assumption) ?_
        refine g_getf dX10_account_49 fX10_7 (by first | exact m0 | exact hr_a dA m0) (by rfl) ?_
        refine g_bipush (v := 11) dX10_account_52 (by decide) ?_
        refine g_iload_n dX10_account_54 (by rfl) ?_
        refine g_iadd dX10_account_55 ?_
        refine g_ilM (11 + d) dX10_account_56 (by first | exact m1 | exact hr_n) (by first | rfl | exact lin3 | exact lin3a | exact linA | exact linB) (by omega) ?_
        refine g_iret dX10_account_57 rfl (Nat.le_refl _) (Nat.le_refl _) ?_
        refine Ex.i ?_ rfl
        rw [eF]
        first
          | done
          | rfl
          | exact sumP_ext (fun k _ => eqb_f) (fun k _ => rfl)
          | (rw [sumP_add]; exact sumP_ext (fun k _ => eqb_t) (fun k _ => rfl))
      · skip
        have eF : Q_account r (nI d) (nI 1) = sumP (fun v => decide (vt r v 0 = nI d)) (fun v => vt r v 2) nv := by
          unfold Q_account
          rw [hg, show rngB 0 5 (nI 1) = true by decide, show cl (nI 1) = 1 from cl_nI (by omega), cd, e7, cl_nI (by omega)]
          rfl
        refine g_tableIn (tgt := 58) (off := 48) dX10_account_10 (by decide) (by decide) (by decide) (by decide) ?_
        refine g_aload_n dX10_account_58 (by rfl) (by first | exact isRf_r | exact isRf_n | exact isRf_o | assumption) ?_
        refine g_iload_n dX10_account_59 (by rfl) ?_
        refine g_cV1x dX10_account_60 lX10_169 vX10_inVats (ct_X10_inVats X hM hnv e7) (by first | exact m0 | exact hr_a dA m0) rfl ⟨Nat.le_of_ble_eq_true rfl, Nat.le_of_ble_eq_true rfl⟩ (Nat.le_of_ble_eq_true rfl) ⟨Nat.le_of_ble_eq_true rfl, Nat.le_of_ble_eq_true rfl⟩ ?_
        refine g_iret dX10_account_63 rfl (Nat.le_refl _) (Nat.le_refl _) ?_
        refine Ex.i ?_ rfl
        rw [eF]
        first
          | done
          | rfl
          | exact sumP_ext (fun k _ => eqb_f) (fun k _ => rfl)
          | (rw [sumP_add]; exact sumP_ext (fun k _ => eqb_t) (fun k _ => rfl))
      · skip
        have eF : Q_account r (nI d) (nI 2) = sumP (fun l => !sold r l) (fun l => ltx r l (2 + d)) nl := by
          unfold Q_account
          rw [hg, show rngB 0 5 (nI 2) = true by decide, show cl (nI 2) = 2 from cl_nI (by omega), cd, e8, cl_nI (by omega)]
          rfl
        refine g_tableIn (tgt := 64) (off := 54) dX10_account_10 (by decide) (by decide) (by decide) (by decide) ?_
        refine g_aload_n dX10_account_64 (by rfl) (by first | exact isRf_r | exact isRf_n | exact isRf_o | assumption) ?_
        refine g_iconst (v := 2) dX10_account_65 (by decide) ?_
        refine g_iload_n dX10_account_66 (by rfl) ?_
        refine g_iadd dX10_account_67 ?_
        refine g_iconst (v := 0) dX10_account_68 (by decide) ?_
        rw [show (2 : Int32) + nI d = nI (2 + d) from linA]
        refine g_cV2x dX10_account_69 lX10_172 vX10_inLots (ct_X10_inLots X (f := 2 + d) (b := false) hM hnl e8 hlok (by omega)) (by first | exact m0 | exact hr_a dA m0) rfl ⟨Nat.le_of_ble_eq_true rfl, Nat.le_of_ble_eq_true rfl⟩ (Nat.le_of_ble_eq_true rfl) ⟨Nat.le_of_ble_eq_true rfl, Nat.le_of_ble_eq_true rfl⟩ ?_
        refine g_iret dX10_account_72 rfl (Nat.le_refl _) (Nat.le_refl _) ?_
        refine Ex.i ?_ rfl
        rw [eF]
        first
          | done
          | rfl
          | exact sumP_ext (fun k _ => eqb_f) (fun k _ => rfl)
          | (rw [sumP_add]; exact sumP_ext (fun k _ => eqb_t) (fun k _ => rfl))
      · skip
        have eF : Q_account r (nI d) (nI 3) = sumP (fun l => !sold r l) (fun l => ltx r l (6 + d)) nl := by
          unfold Q_account
          rw [hg, show rngB 0 5 (nI 3) = true by decide, show cl (nI 3) = 3 from cl_nI (by omega), cd, e8, cl_nI (by omega)]
          rfl
        refine g_tableIn (tgt := 73) (off := 63) dX10_account_10 (by decide) (by decide) (by decide) (by decide) ?_
        refine g_aload_n dX10_account_73 (by rfl) (by first | exact isRf_r | exact isRf_n | exact isRf_o | assumption) ?_
        refine g_bipush (v := 6) dX10_account_74 (by decide) ?_
        refine g_iload_n dX10_account_76 (by rfl) ?_
        refine g_iadd dX10_account_77 ?_
        refine g_iconst (v := 0) dX10_account_78 (by decide) ?_
        rw [show (6 : Int32) + nI d = nI (6 + d) from linA]
        refine g_cV2x dX10_account_79 lX10_172 vX10_inLots (ct_X10_inLots X (f := 6 + d) (b := false) hM hnl e8 hlok (by omega)) (by first | exact m0 | exact hr_a dA m0) rfl ⟨Nat.le_of_ble_eq_true rfl, Nat.le_of_ble_eq_true rfl⟩ (Nat.le_of_ble_eq_true rfl) ⟨Nat.le_of_ble_eq_true rfl, Nat.le_of_ble_eq_true rfl⟩ ?_
        refine g_iret dX10_account_82 rfl (Nat.le_refl _) (Nat.le_refl _) ?_
        refine Ex.i ?_ rfl
        rw [eF]
        first
          | done
          | rfl
          | exact sumP_ext (fun k _ => eqb_f) (fun k _ => rfl)
          | (rw [sumP_add]; exact sumP_ext (fun k _ => eqb_t) (fun k _ => rfl))
      · skip
        have eF : Q_account r (nI d) (nI 4) = sumP (fun l => sold r l) (fun l => ltx r l (2 + d) + ltx r l (6 + d)) nl := by
          unfold Q_account
          rw [hg, show rngB 0 5 (nI 4) = true by decide, show cl (nI 4) = 4 from cl_nI (by omega), cd, e8, cl_nI (by omega)]
          rfl
        refine g_tableIn (tgt := 83) (off := 73) dX10_account_10 (by decide) (by decide) (by decide) (by decide) ?_
        refine g_aload_n dX10_account_83 (by rfl) (by first | exact isRf_r | exact isRf_n | exact isRf_o | assumption) ?_
        refine g_iconst (v := 2) dX10_account_84 (by decide) ?_
        refine g_iload_n dX10_account_85 (by rfl) ?_
        refine g_iadd dX10_account_86 ?_
        refine g_iconst (v := 1) dX10_account_87 (by decide) ?_
        rw [show (2 : Int32) + nI d = nI (2 + d) from linA]
        refine g_cV2x dX10_account_88 lX10_172 vX10_inLots (ct_X10_inLots X (f := 2 + d) (b := true) hM hnl e8 hlok (by omega)) (by first | exact m0 | exact hr_a dA m0) rfl ⟨Nat.le_of_ble_eq_true rfl, Nat.le_of_ble_eq_true rfl⟩ (Nat.le_of_ble_eq_true rfl) ⟨Nat.le_of_ble_eq_true rfl, Nat.le_of_ble_eq_true rfl⟩ ?_
        refine g_aload_n dX10_account_91 (by rfl) (by first | exact isRf_r | exact isRf_n | exact isRf_o | assumption) ?_
        refine g_bipush (v := 6) dX10_account_92 (by decide) ?_
        refine g_iload_n dX10_account_94 (by rfl) ?_
        refine g_iadd dX10_account_95 ?_
        refine g_iconst (v := 1) dX10_account_96 (by decide) ?_
        rw [show (6 : Int32) + nI d = nI (6 + d) from linA]
        refine g_cV2x dX10_account_97 lX10_172 vX10_inLots (ct_X10_inLots X (f := 6 + d) (b := true) hM hnl e8 hlok (by omega)) (by first | exact m0 | exact hr_a dA m0) rfl ⟨Nat.le_of_ble_eq_true rfl, Nat.le_of_ble_eq_true rfl⟩ (Nat.le_of_ble_eq_true rfl) ⟨Nat.le_of_ble_eq_true rfl, Nat.le_of_ble_eq_true rfl⟩ ?_
        refine g_iadd dX10_account_100 ?_
        refine g_iret dX10_account_101 rfl (Nat.le_refl _) (Nat.le_refl _) ?_
        refine Ex.i ?_ rfl
        rw [eF]
        first
          | done
          | rfl
          | exact sumP_ext (fun k _ => eqb_f) (fun k _ => rfl)
          | (rw [sumP_add]; exact sumP_ext (fun k _ => eqb_t) (fun k _ => rfl))
      · skip
        have eF : Q_account r (nI d) (nI 5) = r (15 + d) := by
          unfold Q_account
          rw [hg, show rngB 0 5 (nI 5) = true by decide, show cl (nI 5) = 5 from cl_nI (by omega), cd]
          rfl
        refine g_tableIn (tgt := 102) (off := 92) dX10_account_10 (by decide) (by decide) (by decide) (by decide) ?_
        refine g_aload_n dX10_account_102 (by rfl) (by first | exact isRf_r | exact isRf_n | exact isRf_o | assumption) ?_
        refine g_getf dX10_account_103 fX10_7 (by first | exact m0 | exact hr_a dA m0) (by rfl) ?_
        refine g_bipush (v := 15) dX10_account_106 (by decide) ?_
        refine g_iload_n dX10_account_108 (by rfl) ?_
        refine g_iadd dX10_account_109 ?_
        refine g_ilM (15 + d) dX10_account_110 (by first | exact m1 | exact hr_n) (by first | rfl | exact lin3 | exact lin3a | exact linA | exact linB) (by omega) ?_
        refine g_iret dX10_account_111 rfl (Nat.le_refl _) (Nat.le_refl _) ?_
        refine Ex.i ?_ rfl
        rw [eF]
        first
          | done
          | rfl
          | exact sumP_ext (fun k _ => eqb_f) (fun k _ => rfl)
          | (rw [sumP_add]; exact sumP_ext (fun k _ => eqb_t) (fun k _ => rfl))
    · skip
      have eF : Q_account r (nI d) k = -1 := by
        unfold Q_account
        rw [hg, show rngB 0 5 k = false from (Bool.not_eq_true _).mp hsw]
        rfl
      refine g_tableOut (tgt := 112) dX10_account_10 (sw_out (m := 5) (by omega) hsw) (by decide) ?_
      refine g_iconst (v := (-1)) dX10_account_112 (by decide) ?_
      refine g_iret dX10_account_113 rfl (Nat.le_refl _) (Nat.le_refl _) ?_
      refine Ex.i ?_ rfl
      rw [eF]
      first
        | done
        | rfl
        | exact sumP_ext (fun k _ => eqb_f) (fun k _ => rfl)
        | (rw [sumP_add]; exact sumP_ext (fun k _ => eqb_t) (fun k _ => rfl))
  · skip
    have eF : Q_account r w k = -1 := by
      unfold Q_account
      rw [show rngB 0 3 w = false from bI_0 c1]
      rfl
    refine g_iconst (v := (-1)) dX10_account_7 (by decide) ?_
    refine g_iret dX10_account_8 rfl (Nat.le_refl _) (Nat.le_refl _) ?_
    refine Ex.i ?_ rfl
    rw [eF]
    first
      | done
      | rfl
      | exact sumP_ext (fun k _ => eqb_f) (fun k _ => rfl)
      | (rw [sumP_add]; exact sumP_ext (fun k _ => eqb_t) (fun k _ => rfl))
