theorem near_e {r x : Nat → Int32} : ∀ k, k < 1000 → ((nearP r x k).1 < 0 ↔ (nearP r x k).1 = -4) := by
  intro k
  have q : ∀ k, (nearP r x k).1 = -4 ∨ ∃ j, j < k ∧ (nearP r x k).1 = nI j := by
    intro k
    induction k with
    | zero => exact Or.inl rfl
    | succ k ih =>
      cases z : (!sold r k && (decide ((nearP r x k).1 < 0) || decide (sumI (fun d => dist (shF (ltx r k) d) (x d)) 4 < (nearP r x k).2))) with
      | true =>
        rw [near_t z]
        exact Or.inr ⟨k, by omega, rfl⟩
      | false =>
        rw [near_f z]
        rcases ih with e | ⟨j, hj, e⟩
        · exact Or.inl e
        · exact Or.inr ⟨j, by omega, e⟩
  intro hk
  rcases q k with e | ⟨j, hj, e⟩
  · rw [e]
    exact ⟨fun _ => rfl, fun _ => by decide⟩
  · rw [e]
    refine ⟨fun z => absurd z (nI_ge0 (by omega)), fun z => ?_⟩
    have y := congrArg Int32.toInt z
    rw [i_nI (by omega), show (-4 : Int32).toInt = -4 by decide] at y
    omega
theorem far_e {x y : Int32} : (!decide (x < 0) && decide (x ≤ y)) = rngB 0 y x := by
  unfold rngB
  congr 1
  cases z : decide (x < 0) with
  | true => exact (decide_eq_false (i_nle (of_decide_eq_true z))).symm
  | false => exact (decide_eq_true (i_nlt (of_decide_eq_false z))).symm
theorem sumP_ext {p q : Nat → Bool} {f g : Nat → Int32} : ∀ {n : Nat}, (∀ k, k < n → p k = q k) → (∀ k, k < n → f k = g k) → sumP p f n = sumP q g n
  | 0, _, _ => rfl
  | n + 1, h1, h2 => by
    show cond (p n) (sumP p f n + f n) (sumP p f n) = cond (q n) (sumP q g n + g n) (sumP q g n)
    rw [h1 n (by omega), h2 n (by omega), sumP_ext (fun k hk => h1 k (by omega)) (fun k hk => h2 k (by omega))]
theorem sumP_add {p : Nat → Bool} {f g : Nat → Int32} : ∀ {n : Nat}, sumP p f n + sumP p g n = sumP p (fun l => f l + g l) n
  | 0 => rfl
  | n + 1 => by
    show cond (p n) (sumP p f n + f n) (sumP p f n) + cond (p n) (sumP p g n + g n) (sumP p g n) = cond (p n) (sumP p (fun l => f l + g l) n + (f n + g n)) (sumP p (fun l => f l + g l) n)
    have ih := sumP_add (p := p) (f := f) (g := g) (n := n)
    cases p n with
    | true =>
      show sumP p f n + f n + (sumP p g n + g n) = sumP p (fun l => f l + g l) n + (f n + g n)
      rw [← ih, Int32.add_assoc, Int32.add_assoc, ← Int32.add_assoc (f n), Int32.add_comm (f n), Int32.add_assoc (sumP p g n)]
    | false => exact ih
theorem eqb_f {b : Bool} : (b == false) = !b := by cases b <;> rfl
theorem eqb_t {b : Bool} : (b == true) = b := by cases b <;> rfl
theorem bI_inj {a b : Bool} (h : bI a = bI b) : a = b := by
  cases a <;> cases b <;> first | rfl | exact absurd h (by decide)

set_option maxHeartbeats 4000000 in
set_option maxRecDepth 100000 in
theorem ct_X10_meanBits (X : Cx) {h : Hp} {a n1 : Nat} {r : Nat → Int32} {k : Int32}  (hM : MoAt X h a n1 r) (hO : Ok r) : Ct X mX10_meanBits 3 0 0 [.ref a, .int k] h (Ex (.int (Q_meanBits r k)) h) := by
  obtain ⟨⟨n2, st, n3, n4, le, n5, at0, lt, n6, fl, n7, m0⟩, m1⟩ := id hM
  unfold mdl at m0
  have dA := hM.ne
  obtain ⟨nv, nl, no, hnv, hnl, hno, e7, e8, e9, hset, hvok, hvz, hlok, hlz, hok, hoz, hw⟩ := id hO
  refine Ct.ofG vX10_meanBits.1.2.2.1 (Nat.le_of_ble_eq_true rfl) ?_
  show G X RX10 cX10_meanBits 6 (some .int) "meanBits" (Rm 3 0 0) (Fm X (Ex (.int (Q_meanBits r k)) h) 0 0) 0 0 0 [(0, .ref a), (1, .int k)] [] h
  refine g_iload_n dX10_meanBits_0 (by rfl) ?_
  refine g_cS1x dX10_meanBits_1 lX10_49 rfl vX10_isDye (ct_X10_isDye X) ⟨Nat.le_of_ble_eq_true rfl, Nat.le_of_ble_eq_true rfl⟩ (Nat.le_of_ble_eq_true rfl) ⟨Nat.le_of_ble_eq_true rfl, Nat.le_of_ble_eq_true rfl⟩ ?_
  refine g_if_ne (tgt := 9) dX10_meanBits_4 (by decide) (fun c1 => ?_) (fun c1 => ?_)
  · skip
    have hg := bI_1 c1
    obtain ⟨d, hd, rfl⟩ := dye_nI hg
    have cd : cl (nI d) = d := cl_nI (by omega)
    refine g_dconst0 dX10_meanBits_9 ?_
    refine g_dstore_n (L1 := [(0, _), (1, _), (2, _)]) dX10_meanBits_10 (by decide) (by rfl) ?_
    refine g_iconst (v := 0) dX10_meanBits_11 (by decide) ?_
    refine g_istore (L1 := [(0, _), (1, _), (2, _), (4, _)]) dX10_meanBits_12 (by decide) (by rfl) ?_
    refine g_iconst (v := 0) dX10_meanBits_14 (by decide) ?_
    refine g_istore (L1 := [(0, _), (1, _), (2, _), (4, _), (5, _)]) dX10_meanBits_15 (by decide) (by rfl) ?_
    have loop17 : ∀ i, i ≤ nl → ∀ (s : UInt64) (c : Nat), s = msum r d i → c = unsoldN r i → D64 1002 (1045 + 2 * i) s → G X RX10 cX10_meanBits 6 (some .int) "meanBits" (Rm 3 0 0) (Fm X (Ex (.int (Q_meanBits r (nI d))) h) 0 0) 0 0 17 [(0, .ref a), (1, .int (nI d)), (2, .double s), (4, .int (nI c)), (5, .int (nI i))] [] h := by
      refine up_ind nl (fun i hi ih => ?_)
      intro s c es ec hD
      have hcl : c ≤ i := by rw [ec]; exact cnt_le i
      refine g_iload dX10_meanBits_17 (by rfl) ?_
      refine g_aload_n dX10_meanBits_19 (by rfl) (by first | exact isRf_r | exact isRf_n | exact isRf_o | assumption) ?_
      refine g_getf dX10_meanBits_20 fX10_7 (by first | exact m0 | exact hr_a dA m0) (by rfl) ?_
      refine g_bipush (v := 8) dX10_meanBits_23 (by decide) ?_
      refine g_ilM (8) dX10_meanBits_25 (by first | exact m1 | exact hr_n) (by first | rfl | exact lin3 | exact lin3a | exact linA | exact linB) (by omega) ?_
      rw [e8]
      refine g_icmp_ge (tgt := 58) dX10_meanBits_26 (by decide) (fun c2 => ?_) (fun c2 => ?_)
      · skip
        have hie : i = nl := Nat.le_antisymm hi (c_ge (by omega) (by omega) c2)
        rw [hie] at es ec hD
        refine g_iload dX10_meanBits_58 (by rfl) ?_
        refine g_if_ne (tgt := 68) dX10_meanBits_60 (by decide) (fun c3 => ?_) (fun c3 => ?_)
        · skip
          have hc0 : 0 < c := Nat.pos_of_ne_zero (fun z => c3 (by rw [z]; rfl))
          refine g_dload_n dX10_meanBits_68 (by rfl) ?_
          refine g_iload dX10_meanBits_69 (by rfl) ?_
          refine g_i2d dX10_meanBits_71 ?_
          refine g_ddiv dX10_meanBits_72 (D64.num (mean_f hD (by omega) hc0 (by omega)) (by omega)) ?_
          refine g_d2f dX10_meanBits_73 (F32.num (flt_f (mean_f hD (by omega) hc0 (by omega))) (by omega)) ?_
          refine g_cF1x dX10_meanBits_74 lX10_128 vFI (ct_floatBits X (flt_f (mean_f hD (by omega) hc0 (by omega))) (by omega) (by omega)) ⟨Nat.le_of_ble_eq_true rfl, Nat.le_of_ble_eq_true rfl⟩ (Nat.le_of_ble_eq_true rfl) ⟨Nat.le_of_ble_eq_true rfl, Nat.le_of_ble_eq_true rfl⟩ ?_
          refine g_iret dX10_meanBits_77 rfl (Nat.le_refl _) (Nat.le_refl _) ?_
          refine Ex.i ?_ rfl
          first
            | (unfold Q_meanBits; rw [hg, e8, cl_nI (by omega), ← ec, decide_eq_true hc0]; rfl)
            | (unfold Q_meanBits meanF; rw [hg, e8, cl_nI (by omega), cl_nI (by omega), ← ec, ← es, decide_eq_false (by omega)]; rfl)
        · skip
          have hc0 := c_eq (b := 0) (by omega) (by omega) c3
          refine g_bipush (v := (-4)) dX10_meanBits_63 (by decide) ?_
          refine g_goto (tgt := 77) dX10_meanBits_65 (by decide) ?_
          refine g_iret dX10_meanBits_77 rfl (Nat.le_refl _) (Nat.le_refl _) ?_
          refine Ex.i ?_ rfl
          first
            | (unfold Q_meanBits; rw [hg, e8, cl_nI (by omega), ← ec, decide_eq_true hc0]; rfl)
            | (unfold Q_meanBits meanF; rw [hg, e8, cl_nI (by omega), cl_nI (by omega), ← ec, ← es, decide_eq_false (by omega)]; rfl)
      · skip
        have hlt : i < nl := c_nge (by omega) (by omega) c2
        refine g_aload_n dX10_meanBits_29 (by rfl) (by first | exact isRf_r | exact isRf_n | exact isRf_o | assumption) ?_
        refine g_iload dX10_meanBits_30 (by rfl) ?_
        refine g_cV1x dX10_meanBits_32 lX10_97 vX10_isSold (ct_X10_isSold X (l := i) hM (by omega) (hlok i hlt).s13) (by first | exact m0 | exact hr_a dA m0) rfl ⟨Nat.le_of_ble_eq_true rfl, Nat.le_of_ble_eq_true rfl⟩ (Nat.le_of_ble_eq_true rfl) ⟨Nat.le_of_ble_eq_true rfl, Nat.le_of_ble_eq_true rfl⟩ ?_
        refine g_if_ne (tgt := 52) dX10_meanBits_35 (by decide) (fun c4 => ?_) (fun c4 => ?_)
        · skip
          have hsd : sold r i = true := bI_1 c4
          refine g_iinc (v := nI (i + 1)) (L1 := [(0, _), (1, _), (2, _), (4, _), (5, _)]) dX10_meanBits_52 (by rfl) (nI_1 i) (by decide) (by rfl) ?_
          refine g_goto (tgt := 17) dX10_meanBits_55 (by decide) ?_
          first
            | exact ih hlt _ _ (by rw [es]; exact (msum_t hsd).symm) (by rw [ec]; exact (unsN_t hsd).symm) (hD.mono (by omega))
            | exact ih hlt _ _ (by rw [es]; exact (msum_f hsd).symm) (by rw [ec]; exact (unsN_f hsd).symm) (add_f (hi := 1045 + 2 * i) hD (dbl_f hF (by omega) (by omega)) (by omega) (by omega) (by omega))
        · skip
          have hsd : sold r i = false := bI_0 c4
          have hF := flS_f hO hlt hnl (hlok i hlt) hd
          refine g_dload_n dX10_meanBits_38 (by rfl) ?_
          refine g_aload_n dX10_meanBits_39 (by rfl) (by first | exact isRf_r | exact isRf_n | exact isRf_o | assumption) ?_
          refine g_iload dX10_meanBits_40 (by rfl) ?_
          refine g_iload_n dX10_meanBits_42 (by rfl) ?_
          refine g_cV2x dX10_meanBits_43 lX10_124 vX10_exact (ct_X10_exact X hM (by omega) hd (hF.num (by omega))) (by first | exact m0 | exact hr_a dA m0) rfl ⟨Nat.le_of_ble_eq_true rfl, Nat.le_of_ble_eq_true rfl⟩ (Nat.le_of_ble_eq_true rfl) ⟨Nat.le_of_ble_eq_true rfl, Nat.le_of_ble_eq_true rfl⟩ ?_
          refine g_f2d dX10_meanBits_46 (D64.num (dbl_f hF (by omega) (by omega)) (by omega)) ?_
          refine g_dadd dX10_meanBits_47 (D64.num (add_f (hi := 1045 + 2 * i) hD (dbl_f hF (by omega) (by omega)) (by omega) (by omega) (by omega)) (by omega)) ?_
          refine g_dstore_n (L1 := [(0, _), (1, _), (2, _), (4, _), (5, _)]) dX10_meanBits_48 (by decide) (by rfl) ?_
          refine g_iinc (v := nI (c + 1)) (L1 := [(0, _), (1, _), (2, _), (4, _), (5, _)]) dX10_meanBits_49 (by rfl) (nI_1 c) (by decide) (by rfl) ?_
          refine g_iinc (v := nI (i + 1)) (L1 := [(0, _), (1, _), (2, _), (4, _), (5, _)]) dX10_meanBits_52 (by rfl) (nI_1 i) (by decide) (by rfl) ?_
          refine g_goto (tgt := 17) dX10_meanBits_55 (by decide) ?_
          first
            | exact ih hlt _ _ (by rw [es]; exact (msum_t hsd).symm) (by rw [ec]; exact (unsN_t hsd).symm) (hD.mono (by omega))
            | exact ih hlt _ _ (by rw [es]; exact (msum_f hsd).symm) (by rw [ec]; exact (unsN_f hsd).symm) (add_f (hi := 1045 + 2 * i) hD (dbl_f hF (by omega) (by omega)) (by omega) (by omega) (by omega))
    exact loop17 0 (by omega) 0 0 rfl rfl (Or.inl rfl)
  · skip
    have eF : Q_meanBits r k = -1 := by
      unfold Q_meanBits
      rw [show rngB 0 3 k = false from bI_0 c1]
      rfl
    refine g_iconst (v := (-1)) dX10_meanBits_7 (by decide) ?_
    refine g_iret dX10_meanBits_8 rfl (Nat.le_refl _) (Nat.le_refl _) ?_
    refine Ex.i ?_ rfl
    rw [eF]

set_option maxHeartbeats 4000000 in
set_option maxRecDepth 100000 in
theorem ct_X10_fitting (X : Cx) {h : Hp} {a n1 : Nat} {r : Nat → Int32} {o : Nat}  (hM : MoAt X h a n1 r) (hO : Ok r) (ho : o < 60) : Ct X mX10_fitting 4 0 0 [.ref a, .int (nI o)] h (Ex (.int (nI (cntN (fun l => !sold r l && fitB (ltx r l) (od r o) r) (cl (r 8))))) h) := by
  obtain ⟨⟨n2, st, n3, n4, le, n5, at0, lt, n6, fl, n7, m0⟩, m1⟩ := id hM
  unfold mdl at m0
  have dA := hM.ne
  obtain ⟨nv, nl, no, hnv, hnl, hno, e7, e8, e9, hset, hvok, hvz, hlok, hlz, hok, hoz, hw⟩ := id hO
  refine Ct.ofG vX10_fitting.1.2.2.1 (Nat.le_of_ble_eq_true rfl) ?_
  show G X RX10 cX10_fitting 4 (some .int) "fitting" (Rm 4 0 0) (Fm X (Ex (.int (nI (cntN (fun l => !sold r l && fitB (ltx r l) (od r o) r) (cl (r 8))))) h) 0 0) 0 0 0 [(0, .ref a), (1, .int (nI o))] [] h
  rw [e8, cl_nI (by omega)]
  refine g_iconst (v := 0) dX10_fitting_0 (by decide) ?_
  refine g_istore_n (L1 := [(0, _), (1, _), (2, _)]) dX10_fitting_1 (by decide) (by rfl) ?_
  refine g_iconst (v := 0) dX10_fitting_2 (by decide) ?_
  refine g_istore_n (L1 := [(0, _), (1, _), (2, _), (3, _)]) dX10_fitting_3 (by decide) (by rfl) ?_
  have loop4 : ∀ i, i ≤ nl → ∀ acc, acc = nI (cntN (fun l => !sold r l && fitB (ltx r l) (od r o) r) i) → G X RX10 cX10_fitting 4 (some .int) "fitting" (Rm 4 0 0) (Fm X (Ex (.int (nI (cntN (fun l => !sold r l && fitB (ltx r l) (od r o) r) (nl)))) h) 0 0) 0 0 4 [(0, .ref a), (1, .int (nI o)), (2, .int acc), (3, .int (nI i))] [] h := by
    refine up_ind nl (fun i hi ih => ?_)
    intro acc eacc
    refine g_iload_n dX10_fitting_4 (by rfl) ?_
    refine g_aload_n dX10_fitting_5 (by rfl) (by first | exact isRf_r | exact isRf_n | exact isRf_o | assumption) ?_
    refine g_getf dX10_fitting_6 fX10_7 (by first | exact m0 | exact hr_a dA m0) (by rfl) ?_
    refine g_bipush (v := 8) dX10_fitting_9 (by decide) ?_
    refine g_ilM (8) dX10_fitting_11 (by first | exact m1 | exact hr_n) (by first | rfl | exact lin3 | exact lin3a | exact linA | exact linB) (by omega) ?_
    rw [e8]
    refine g_icmp_ge (tgt := 46) dX10_fitting_12 (by decide) (fun c1 => ?_) (fun c1 => ?_)
    · skip
      have hie : i = nl := Nat.le_antisymm hi (c_ge (by omega) (by omega) c1)
      rw [hie] at eacc
      refine g_iload_n dX10_fitting_46 (by rfl) ?_
      refine g_iret dX10_fitting_47 rfl (Nat.le_refl _) (Nat.le_refl _) ?_
      exact Ex.i eacc rfl
    · skip
      have hlt : i < nl := c_nge (by omega) (by omega) c1
      refine g_iload_n dX10_fitting_15 (by rfl) ?_
      refine g_aload_n dX10_fitting_16 (by rfl) (by first | exact isRf_r | exact isRf_n | exact isRf_o | assumption) ?_
      refine g_iload_n dX10_fitting_17 (by rfl) ?_
      refine g_cV1x dX10_fitting_18 lX10_97 vX10_isSold (ct_X10_isSold X (l := i) hM (by omega) (hlok i hlt).s13) (by first | exact m0 | exact hr_a dA m0) rfl ⟨Nat.le_of_ble_eq_true rfl, Nat.le_of_ble_eq_true rfl⟩ (Nat.le_of_ble_eq_true rfl) ⟨Nat.le_of_ble_eq_true rfl, Nat.le_of_ble_eq_true rfl⟩ ?_
      refine g_if_ne (tgt := 37) dX10_fitting_21 (by decide) (fun c2 => ?_) (fun c2 => ?_)
      · skip
        have hp : (fun l => !sold r l && fitB (ltx r l) (od r o) r) i = false := by
          show (!sold r i && _) = false
          rw [show sold r i = true from bI_1 c2]
          rfl
        refine g_iconst (v := 0) dX10_fitting_37 (by decide) ?_
        refine g_iadd dX10_fitting_38 ?_
        refine g_istore_n (L1 := [(0, _), (1, _), (2, _), (3, _)]) dX10_fitting_39 (by decide) (by rfl) ?_
        refine g_iinc (v := nI (i + 1)) (L1 := [(0, _), (1, _), (2, _), (3, _)]) dX10_fitting_40 (by rfl) (nI_1 i) (by decide) (by rfl) ?_
        refine g_goto (tgt := 4) dX10_fitting_43 (by decide) ?_
        refine ih hlt _ ?_
        first
          | (rw [cnt_f hp, eacc]; exact Int32.add_zero _)
          | (rw [cnt_t hp, eacc])
      · skip
        have hsd : sold r i = false := bI_0 c2
        refine g_aload_n dX10_fitting_24 (by rfl) (by first | exact isRf_r | exact isRf_n | exact isRf_o | assumption) ?_
        refine g_iload_n dX10_fitting_25 (by rfl) ?_
        refine g_iload_n dX10_fitting_26 (by rfl) ?_
        refine g_cV2x dX10_fitting_27 lX10_150 vX10_fits (ct_X10_fits X (l := i) (o := o) hM (by omega) ho (hlok i hlt).pos) (by first | exact m0 | exact hr_a dA m0) rfl ⟨Nat.le_of_ble_eq_true rfl, Nat.le_of_ble_eq_true rfl⟩ (Nat.le_of_ble_eq_true rfl) ⟨Nat.le_of_ble_eq_true rfl, Nat.le_of_ble_eq_true rfl⟩ ?_
        refine g_if_eq (tgt := 37) dX10_fitting_30 (by decide) (fun c3 => ?_) (fun c3 => ?_)
        · skip
          have hp : (fun l => !sold r l && fitB (ltx r l) (od r o) r) i = false := by
            show (!sold r i && fitB (ltx r i) (od r o) r) = false
            rw [show fitB (ltx r i) (od r o) r = false from bI_0 c3, Bool.and_false]
          refine g_iconst (v := 0) dX10_fitting_37 (by decide) ?_
          refine g_iadd dX10_fitting_38 ?_
          refine g_istore_n (L1 := [(0, _), (1, _), (2, _), (3, _)]) dX10_fitting_39 (by decide) (by rfl) ?_
          refine g_iinc (v := nI (i + 1)) (L1 := [(0, _), (1, _), (2, _), (3, _)]) dX10_fitting_40 (by rfl) (nI_1 i) (by decide) (by rfl) ?_
          refine g_goto (tgt := 4) dX10_fitting_43 (by decide) ?_
          refine ih hlt _ ?_
          first
            | (rw [cnt_f hp, eacc]; exact Int32.add_zero _)
            | (rw [cnt_t hp, eacc])
        · skip
          have hp : (fun l => !sold r l && fitB (ltx r l) (od r o) r) i = true := by
            show (!sold r i && fitB (ltx r i) (od r o) r) = true
            rw [show fitB (ltx r i) (od r o) r = true from bI_1 c3, hsd]
            rfl
          refine g_iconst (v := 1) dX10_fitting_33 (by decide) ?_
          refine g_goto (tgt := 38) dX10_fitting_34 (by decide) ?_
          refine g_iadd dX10_fitting_38 ?_
          refine g_istore_n (L1 := [(0, _), (1, _), (2, _), (3, _)]) dX10_fitting_39 (by decide) (by rfl) ?_
          refine g_iinc (v := nI (i + 1)) (L1 := [(0, _), (1, _), (2, _), (3, _)]) dX10_fitting_40 (by rfl) (nI_1 i) (by decide) (by rfl) ?_
          refine g_goto (tgt := 4) dX10_fitting_43 (by decide) ?_
          refine ih hlt _ ?_
          first
            | (rw [cnt_f hp, eacc]; exact Int32.add_zero _)
            | (rw [cnt_t hp, eacc])
  exact loop4 0 (by omega) _ rfl

set_option maxHeartbeats 4000000 in
set_option maxRecDepth 100000 in
theorem ct_X10_nearest (X : Cx) {h : Hp} {a n1 : Nat} {r : Nat → Int32} {o : Nat}  (hM : MoAt X h a n1 r) (hO : Ok r) (ho : o < 60) : Ct X mX10_nearest 3 0 0 [.ref a, .int (nI o)] h (Ex (.int (nearP r (od r o) (cl (r 8))).1) h) := by
  obtain ⟨⟨n2, st, n3, n4, le, n5, at0, lt, n6, fl, n7, m0⟩, m1⟩ := id hM
  unfold mdl at m0
  have dA := hM.ne
  obtain ⟨nv, nl, no, hnv, hnl, hno, e7, e8, e9, hset, hvok, hvz, hlok, hlz, hok, hoz, hw⟩ := id hO
  refine Ct.ofG vX10_nearest.1.2.2.1 (Nat.le_of_ble_eq_true rfl) ?_
  show G X RX10 cX10_nearest 7 (some .int) "nearest" (Rm 3 0 0) (Fm X (Ex (.int (nearP r (od r o) (cl (r 8))).1) h) 0 0) 0 0 0 [(0, .ref a), (1, .int (nI o))] [] h
  rw [e8, cl_nI (by omega)]
  refine g_bipush (v := (-4)) dX10_nearest_0 (by decide) ?_
  refine g_istore_n (L1 := [(0, _), (1, _), (2, _)]) dX10_nearest_2 (by decide) (by rfl) ?_
  refine g_iconst (v := 0) dX10_nearest_3 (by decide) ?_
  refine g_istore_n (L1 := [(0, _), (1, _), (2, _), (3, _)]) dX10_nearest_4 (by decide) (by rfl) ?_
  refine g_iconst (v := 0) dX10_nearest_5 (by decide) ?_
  refine g_istore (L1 := [(0, _), (1, _), (2, _), (3, _), (4, _)]) dX10_nearest_6 (by decide) (by rfl) ?_
  have loop8 : ∀ i, i ≤ nl → ∀ best least, (best, least) = nearP r (od r o) i → G X RX10 cX10_nearest 7 (some .int) "nearest" (Rm 3 0 0) (Fm X (Ex (.int (nearP r (od r o) (nl)).1) h) 0 0) 0 0 8 [(0, .ref a), (1, .int (nI o)), (2, .int best), (3, .int least), (4, .int (nI i))] [] h := by
    refine up_ind nl (fun i hi ih => ?_)
    intro best least eacc
    have eb : best = (nearP r (od r o) i).1 := by rw [← eacc]
    have el : least = (nearP r (od r o) i).2 := by rw [← eacc]
    refine g_iload dX10_nearest_8 (by rfl) ?_
    refine g_aload_n dX10_nearest_10 (by rfl) (by first | exact isRf_r | exact isRf_n | exact isRf_o | assumption) ?_
    refine g_getf dX10_nearest_11 fX10_7 (by first | exact m0 | exact hr_a dA m0) (by rfl) ?_
    refine g_bipush (v := 8) dX10_nearest_14 (by decide) ?_
    refine g_ilM (8) dX10_nearest_16 (by first | exact m1 | exact hr_n) (by first | rfl | exact lin3 | exact lin3a | exact linA | exact linB) (by omega) ?_
    rw [e8]
    refine g_icmp_ge (tgt := 94) dX10_nearest_17 (by decide) (fun c1 => ?_) (fun c1 => ?_)
    · skip
      have hie : i = nl := Nat.le_antisymm hi (c_ge (by omega) (by omega) c1)
      rw [hie] at eb
      refine g_iload_n dX10_nearest_94 (by rfl) ?_
      refine g_iret dX10_nearest_95 rfl (Nat.le_refl _) (Nat.le_refl _) ?_
      exact Ex.i eb rfl
    · skip
      have hlt : i < nl := c_nge (by omega) (by omega) c1
      refine g_iconst (v := 0) dX10_nearest_20 (by decide) ?_
      refine g_istore (L1 := [(0, _), (1, _), (2, _), (3, _), (4, _), (5, _)]) dX10_nearest_21 (by decide) (by rfl) ?_
      refine g_iconst (v := 0) dX10_nearest_23 (by decide) ?_
      refine g_istore (L1 := [(0, _), (1, _), (2, _), (3, _), (4, _), (5, _), (6, _)]) dX10_nearest_24 (by decide) (by rfl) ?_
      have loop26 : ∀ j, j ≤ 4 → ∀ own, own = sumI (fun d => dist (shF (ltx r i) d) (od r o d)) j → G X RX10 cX10_nearest 7 (some .int) "nearest" (Rm 3 0 0) (Fm X (Ex (.int (nearP r (od r o) (nl)).1) h) 0 0) 0 0 26 [(0, .ref a), (1, .int (nI o)), (2, .int best), (3, .int least), (4, .int (nI i)), (5, .int own), (6, .int (nI j))] [] h := by
        refine up_ind 4 (fun j hj ih2 => ?_)
        intro own eown
        refine g_iload dX10_nearest_26 (by rfl) ?_
        refine g_iconst (v := 4) dX10_nearest_28 (by decide) ?_
        refine g_icmp_ge (tgt := 61) dX10_nearest_29 (by decide) (fun c2 => ?_) (fun c2 => ?_)
        · skip
          have hje : j = 4 := Nat.le_antisymm hj (c_ge (a := 4) (by omega) (by omega) c2)
          rw [hje] at eown
          refine g_aload_n dX10_nearest_61 (by rfl) (by first | exact isRf_r | exact isRf_n | exact isRf_o | assumption) ?_
          refine g_iload dX10_nearest_62 (by rfl) ?_
          refine g_cV1x dX10_nearest_64 lX10_97 vX10_isSold (ct_X10_isSold X (l := i) hM (by omega) (hlok i hlt).s13) (by first | exact m0 | exact hr_a dA m0) rfl ⟨Nat.le_of_ble_eq_true rfl, Nat.le_of_ble_eq_true rfl⟩ (Nat.le_of_ble_eq_true rfl) ⟨Nat.le_of_ble_eq_true rfl, Nat.le_of_ble_eq_true rfl⟩ ?_
          refine g_if_ne (tgt := 88) dX10_nearest_67 (by decide) (fun c3 => ?_) (fun c3 => ?_)
          · skip
            have hp : (!sold r i && (decide ((nearP r (od r o) i).1 < 0) || decide (sumI (fun d => dist (shF (ltx r i) d) (od r o d)) 4 < (nearP r (od r o) i).2))) = false := by
              rw [show sold r i = true from bI_1 c3]
              rfl
            refine g_iinc (v := nI (i + 1)) (L1 := [(0, _), (1, _), (2, _), (3, _), (4, _), (5, _), (6, _)]) dX10_nearest_88 (by rfl) (nI_1 i) (by decide) (by rfl) ?_
            refine g_goto (tgt := 8) dX10_nearest_91 (by decide) ?_
            refine g_pick [0, 1, 2, 3, 4] rfl ?_
            refine ih hlt _ _ ?_
            first
              | (rw [near_t hp, eown])
              | (rw [near_f hp, eacc])
          · skip
            have hsd : sold r i = false := bI_0 c3
            refine g_iload_n dX10_nearest_70 (by rfl) ?_
            refine g_bipush (v := (-4)) dX10_nearest_71 (by decide) ?_
            refine g_icmp_eq (tgt := 82) dX10_nearest_73 (by decide) (fun c4 => ?_) (fun c4 => ?_)
            · skip
              have hp : (!sold r i && (decide ((nearP r (od r o) i).1 < 0) || decide (sumI (fun d => dist (shF (ltx r i) d) (od r o d)) 4 < (nearP r (od r o) i).2))) = true := by
                rw [hsd, decide_eq_true ((near_e i (by omega)).mpr (eb.symm.trans c4))]
                rfl
              refine g_iload dX10_nearest_82 (by rfl) ?_
              refine g_istore_n (L1 := [(0, _), (1, _), (2, _), (3, _), (4, _), (5, _), (6, _)]) dX10_nearest_84 (by decide) (by rfl) ?_
              refine g_iload dX10_nearest_85 (by rfl) ?_
              refine g_istore_n (L1 := [(0, _), (1, _), (2, _), (3, _), (4, _), (5, _), (6, _)]) dX10_nearest_87 (by decide) (by rfl) ?_
              refine g_iinc (v := nI (i + 1)) (L1 := [(0, _), (1, _), (2, _), (3, _), (4, _), (5, _), (6, _)]) dX10_nearest_88 (by rfl) (nI_1 i) (by decide) (by rfl) ?_
              refine g_goto (tgt := 8) dX10_nearest_91 (by decide) ?_
              refine g_pick [0, 1, 2, 3, 4] rfl ?_
              refine ih hlt _ _ ?_
              first
                | (rw [near_t hp, eown])
                | (rw [near_f hp, eacc])
            · skip
              have hnb : ¬ (nearP r (od r o) i).1 < 0 := fun z => c4 (eb.trans ((near_e i (by omega)).mp z))
              refine g_iload dX10_nearest_76 (by rfl) ?_
              refine g_iload_n dX10_nearest_78 (by rfl) ?_
              refine g_icmp_ge (tgt := 88) dX10_nearest_79 (by decide) (fun c5 => ?_) (fun c5 => ?_)
              · skip
                have hp : (!sold r i && (decide ((nearP r (od r o) i).1 < 0) || decide (sumI (fun d => dist (shF (ltx r i) d) (od r o d)) 4 < (nearP r (od r o) i).2))) = false := by
                  rw [decide_eq_false hnb, decide_eq_false (show ¬ sumI (fun d => dist (shF (ltx r i) d) (od r o d)) 4 < (nearP r (od r o) i).2 from fun z => i_nle z (by rw [← eown, ← el]; exact c5)), Bool.or_false, Bool.and_false]
                refine g_iinc (v := nI (i + 1)) (L1 := [(0, _), (1, _), (2, _), (3, _), (4, _), (5, _), (6, _)]) dX10_nearest_88 (by rfl) (nI_1 i) (by decide) (by rfl) ?_
                refine g_goto (tgt := 8) dX10_nearest_91 (by decide) ?_
                refine g_pick [0, 1, 2, 3, 4] rfl ?_
                refine ih hlt _ _ ?_
                first
                  | (rw [near_t hp, eown])
                  | (rw [near_f hp, eacc])
              · skip
                have hp : (!sold r i && (decide ((nearP r (od r o) i).1 < 0) || decide (sumI (fun d => dist (shF (ltx r i) d) (od r o d)) 4 < (nearP r (od r o) i).2))) = true := by
                  rw [hsd, decide_eq_true (show sumI (fun d => dist (shF (ltx r i) d) (od r o d)) 4 < (nearP r (od r o) i).2 from by rw [← eown, ← el]; exact i_ngt c5), Bool.or_true]
                  rfl
                refine g_iload dX10_nearest_82 (by rfl) ?_
                refine g_istore_n (L1 := [(0, _), (1, _), (2, _), (3, _), (4, _), (5, _), (6, _)]) dX10_nearest_84 (by decide) (by rfl) ?_
                refine g_iload dX10_nearest_85 (by rfl) ?_
                refine g_istore_n (L1 := [(0, _), (1, _), (2, _), (3, _), (4, _), (5, _), (6, _)]) dX10_nearest_87 (by decide) (by rfl) ?_
                refine g_iinc (v := nI (i + 1)) (L1 := [(0, _), (1, _), (2, _), (3, _), (4, _), (5, _), (6, _)]) dX10_nearest_88 (by rfl) (nI_1 i) (by decide) (by rfl) ?_
                refine g_goto (tgt := 8) dX10_nearest_91 (by decide) ?_
                refine g_pick [0, 1, 2, 3, 4] rfl ?_
                refine ih hlt _ _ ?_
                first
                  | (rw [near_t hp, eown])
                  | (rw [near_f hp, eacc])
        · skip
          have hi4 : j < 4 := c_nge (a := 4) (b := j) (by omega) (by omega) c2
          refine g_iload dX10_nearest_32 (by rfl) ?_
          refine g_aload_n dX10_nearest_34 (by rfl) (by first | exact isRf_r | exact isRf_n | exact isRf_o | assumption) ?_
          refine g_iload dX10_nearest_35 (by rfl) ?_
          refine g_iload dX10_nearest_37 (by rfl) ?_
          refine g_cV2x dX10_nearest_39 lX10_91 vX10_shadeOf (ct_X10_shadeOf X (l := i) hM (by omega) hi4 (hlok i hlt).pos) (by first | exact m0 | exact hr_a dA m0) rfl ⟨Nat.le_of_ble_eq_true rfl, Nat.le_of_ble_eq_true rfl⟩ (Nat.le_of_ble_eq_true rfl) ⟨Nat.le_of_ble_eq_true rfl, Nat.le_of_ble_eq_true rfl⟩ ?_
          refine g_aload_n dX10_nearest_42 (by rfl) (by first | exact isRf_r | exact isRf_n | exact isRf_o | assumption) ?_
          refine g_iload_n dX10_nearest_43 (by rfl) ?_
          refine g_iload dX10_nearest_44 (by rfl) ?_
          refine g_cV2x dX10_nearest_46 lX10_134 vX10_orderNumber (ct_X10_orderNumber X (i := o) (k := j) (by first | exact hM | exact hM.hr) (by omega)) (by first | exact m0 | exact hr_a dA m0) rfl ⟨Nat.le_of_ble_eq_true rfl, Nat.le_of_ble_eq_true rfl⟩ (Nat.le_of_ble_eq_true rfl) ⟨Nat.le_of_ble_eq_true rfl, Nat.le_of_ble_eq_true rfl⟩ ?_
          refine g_cS2x dX10_nearest_49 lX10_144 rfl vX10_apart (ct_X10_apart X) ⟨Nat.le_of_ble_eq_true rfl, Nat.le_of_ble_eq_true rfl⟩ (Nat.le_of_ble_eq_true rfl) ⟨Nat.le_of_ble_eq_true rfl, Nat.le_of_ble_eq_true rfl⟩ ?_
          refine g_iadd dX10_nearest_52 ?_
          refine g_istore (L1 := [(0, _), (1, _), (2, _), (3, _), (4, _), (5, _), (6, _)]) dX10_nearest_53 (by decide) (by rfl) ?_
          refine g_iinc (v := nI (j + 1)) (L1 := [(0, _), (1, _), (2, _), (3, _), (4, _), (5, _), (6, _)]) dX10_nearest_55 (by rfl) (nI_1 j) (by decide) (by rfl) ?_
          refine g_goto (tgt := 26) dX10_nearest_58 (by decide) ?_
          refine ih2 hi4 _ ?_
          rw [eown]
          rfl
      exact loop26 0 (by omega) _ rfl
  exact loop8 0 (by omega) _ _ rfl

set_option maxHeartbeats 4000000 in
set_option maxRecDepth 100000 in
theorem ct_X10_orderOf (X : Cx) {h : Hp} {a n1 : Nat} {r : Nat → Int32} {z k : Int32}  (hM : MoAt X h a n1 r) (hO : Ok r) : Ct X mX10_orderOf 5 0 0 [.ref a, .int z, .int k] h (Ex (.int (Q_orderOf r z k)) h) := by
  obtain ⟨⟨n2, st, n3, n4, le, n5, at0, lt, n6, fl, n7, m0⟩, m1⟩ := id hM
  unfold mdl at m0
  have dA := hM.ne
  obtain ⟨nv, nl, no, hnv, hnl, hno, e7, e8, e9, hset, hvok, hvz, hlok, hlz, hok, hoz, hw⟩ := id hO
  refine Ct.ofG vX10_orderOf.1.2.2.1 (Nat.le_of_ble_eq_true rfl) ?_
  show G X RX10 cX10_orderOf 3 (some .int) "orderOf" (Rm 5 0 0) (Fm X (Ex (.int (Q_orderOf r z k)) h) 0 0) 0 0 0 [(0, .ref a), (1, .int z), (2, .int k)] [] h
  refine g_aload_n dX10_orderOf_0 (by rfl) (by first | exact isRf_r | exact isRf_n | exact isRf_o | assumption) ?_
  refine g_iload_n dX10_orderOf_1 (by rfl) ?_
  refine g_cV1x dX10_orderOf_2 lX10_147 vX10_isOrder (ct_X10_isOrder X (n := no) (by first | exact hM | exact hM.hr) (by omega) e9) (by first | exact m0 | exact hr_a dA m0) rfl ⟨Nat.le_of_ble_eq_true rfl, Nat.le_of_ble_eq_true rfl⟩ (Nat.le_of_ble_eq_true rfl) ⟨Nat.le_of_ble_eq_true rfl, Nat.le_of_ble_eq_true rfl⟩ ?_
  refine g_if_eq (tgt := 18) dX10_orderOf_5 (by decide) (fun c1 => ?_) (fun c1 => ?_)
  · skip
    have eF : Q_orderOf r z k = -1 := by
      unfold Q_orderOf
      rw [e9, show okB (nI no) z = false from bI_0 c1]
      rfl
    refine g_iconst (v := (-1)) dX10_orderOf_18 (by decide) ?_
    refine g_iret dX10_orderOf_19 rfl (Nat.le_refl _) (Nat.le_refl _) ?_
    refine Ex.i ?_ rfl
    rw [eF]
  · skip
    have hko : okB (nI no) z = true := bI_1 c1
    obtain ⟨o, ho, rfl⟩ := okB_i (by omega) hko
    have co : cl (nI o) = o := cl_nI (by omega)
    have hob := hok o ho
    refine g_iload_n dX10_orderOf_8 (by rfl) ?_
    refine g_iconst (v := 0) dX10_orderOf_9 (by decide) ?_
    refine g_bipush (v := 6) dX10_orderOf_10 (by decide) ?_
    refine g_cS3x dX10_orderOf_12 lX10_31 rfl vX10_in (ct_X10_in X) ⟨Nat.le_of_ble_eq_true rfl, Nat.le_of_ble_eq_true rfl⟩ (Nat.le_of_ble_eq_true rfl) ⟨Nat.le_of_ble_eq_true rfl, Nat.le_of_ble_eq_true rfl⟩ ?_
    refine g_if_ne (tgt := 20) dX10_orderOf_15 (by decide) (fun c2 => ?_) (fun c2 => ?_)
    · skip
      have hg := bI_1 c2
      obtain ⟨j, hj, rfl⟩ := sw_in (m := 6) (by omega) hg
      have cj : cl (nI j) = j := cl_nI (by omega)
      refine g_iload_n dX10_orderOf_20 (by rfl) ?_
      refine g_iconst (v := 5) dX10_orderOf_21 (by decide) ?_
      refine g_icmp_ge (tgt := 34) dX10_orderOf_22 (by decide) (fun c3 => ?_) (fun c3 => ?_)
      · skip
        have hj5 := c_ge (a := 5) (b := j) (by omega) (by omega) c3
        refine g_iload_n dX10_orderOf_34 (by rfl) ?_
        refine g_iconst (v := 5) dX10_orderOf_35 (by decide) ?_
        refine g_icmp_ne (tgt := 47) dX10_orderOf_36 (by decide) (fun c4 => ?_) (fun c4 => ?_)
        · skip
          have e6 : j = 6 := by
            have q : j ≠ 5 := fun y => c4 (by rw [y]; rfl)
            omega
          subst e6
          have eF : Q_orderOf r (nI o) (nI 6) = (nearP r (od r o) (cl (r 8))).1 := by
            unfold Q_orderOf
            rw [e9, hko, hg, co, cj]
            rfl
          refine g_aload_n dX10_orderOf_47 (by rfl) (by first | exact isRf_r | exact isRf_n | exact isRf_o | assumption) ?_
          refine g_iload_n dX10_orderOf_48 (by rfl) ?_
          refine g_cV1x dX10_orderOf_49 lX10_159 vX10_nearest (ct_X10_nearest X (o := o) hM hO (by omega)) (by first | exact m0 | exact hr_a dA m0) rfl ⟨Nat.le_of_ble_eq_true rfl, Nat.le_of_ble_eq_true rfl⟩ (Nat.le_of_ble_eq_true rfl) ⟨Nat.le_of_ble_eq_true rfl, Nat.le_of_ble_eq_true rfl⟩ ?_
          refine g_iret dX10_orderOf_52 rfl (Nat.le_refl _) (Nat.le_refl _) ?_
          refine Ex.i ?_ rfl
          rw [eF]
        · skip
          have e5 := c_eq (b := 5) (by omega) (by omega) c4
          subst e5
          have eF : Q_orderOf r (nI o) (nI 5) = nI (cntN (fun l => !sold r l && fitB (ltx r l) (od r o) r) (cl (r 8))) := by
            unfold Q_orderOf
            rw [e9, hko, hg, co, cj]
            rfl
          refine g_aload_n dX10_orderOf_39 (by rfl) (by first | exact isRf_r | exact isRf_n | exact isRf_o | assumption) ?_
          refine g_iload_n dX10_orderOf_40 (by rfl) ?_
          refine g_cV1x dX10_orderOf_41 lX10_156 vX10_fitting (ct_X10_fitting X (o := o) hM hO (by omega)) (by first | exact m0 | exact hr_a dA m0) rfl ⟨Nat.le_of_ble_eq_true rfl, Nat.le_of_ble_eq_true rfl⟩ (Nat.le_of_ble_eq_true rfl) ⟨Nat.le_of_ble_eq_true rfl, Nat.le_of_ble_eq_true rfl⟩ ?_
          refine g_goto (tgt := 52) dX10_orderOf_44 (by decide) ?_
          refine g_iret dX10_orderOf_52 rfl (Nat.le_refl _) (Nat.le_refl _) ?_
          refine Ex.i ?_ rfl
          rw [eF]
      · skip
        have hj5 : j < 5 := c_nge (a := 5) (b := j) (by omega) (by omega) c3
        have eF : Q_orderOf r (nI o) (nI j) = r (343 + 5 * o + j) := by
          unfold Q_orderOf
          rw [e9, hko, hg, co, cj]
          rcases (show j = 0 ∨ j = 1 ∨ j = 2 ∨ j = 3 ∨ j = 4 by omega) with rfl | rfl | rfl | rfl | rfl <;> rfl
        refine g_aload_n dX10_orderOf_25 (by rfl) (by first | exact isRf_r | exact isRf_n | exact isRf_o | assumption) ?_
        refine g_iload_n dX10_orderOf_26 (by rfl) ?_
        refine g_iload_n dX10_orderOf_27 (by rfl) ?_
        refine g_cV2x dX10_orderOf_28 lX10_134 vX10_orderNumber (ct_X10_orderNumber X (i := o) (k := j) (by first | exact hM | exact hM.hr) (by omega)) (by first | exact m0 | exact hr_a dA m0) rfl ⟨Nat.le_of_ble_eq_true rfl, Nat.le_of_ble_eq_true rfl⟩ (Nat.le_of_ble_eq_true rfl) ⟨Nat.le_of_ble_eq_true rfl, Nat.le_of_ble_eq_true rfl⟩ ?_
        refine g_goto (tgt := 52) dX10_orderOf_31 (by decide) ?_
        refine g_iret dX10_orderOf_52 rfl (Nat.le_refl _) (Nat.le_refl _) ?_
        refine Ex.i ?_ rfl
        rw [eF]
    · skip
      have eF : Q_orderOf r (nI o) k = -1 := by
        unfold Q_orderOf
        rw [e9, hko, show rngB 0 6 k = false from bI_0 c2]
        rfl
      refine g_iconst (v := (-1)) dX10_orderOf_18 (by decide) ?_
      refine g_iret dX10_orderOf_19 rfl (Nat.le_refl _) (Nat.le_refl _) ?_
      refine Ex.i ?_ rfl
      rw [eF]
