/-- the grains of a lot, added up as longs -/
def lsum (x : Nat → Int32) : Nat → Int64
  | 0 => 0
  | k + 1 => lsum x k + (x (2 + k) + x (6 + k)).toInt64
def GB (x : Nat → Int32) : Prop := ∀ d, d < 4 → 0 ≤ (x (2 + d)).toInt ∧ 0 ≤ (x (6 + d)).toInt ∧ (x (2 + d)).toInt + (x (6 + d)).toInt ≤ 1000000
theorem l_acc {a : Int64} {g : Int32} (h0 : 0 ≤ a.toInt) (h1 : a.toInt ≤ 10000000) (g0 : 0 ≤ g.toInt) (g1 : g.toInt ≤ 1000000) : (a + g.toInt64).toInt = a.toInt + g.toInt := by
  rw [Int64.toInt_add, Int32.toInt_toInt64]
  exact Int.bmod_eq_of_le (by omega) (by omega)
theorem lsum_e {x : Nat → Int32} (hb : GB x) : lsum x 4 = (sumI (fun j => x (2 + j)) 4 + sumI (fun j => x (6 + j)) 4).toInt64 := by
  obtain ⟨a0, b0, c0⟩ := hb 0 (by omega)
  obtain ⟨a1, b1, c1⟩ := hb 1 (by omega)
  obtain ⟨a2, b2, c2⟩ := hb 2 (by omega)
  obtain ⟨a3, b3, c3⟩ := hb 3 (by omega)
  have g0 := i_add (a := x (2 + 0)) (b := x (6 + 0)) (by omega) (by omega)
  have g1 := i_add (a := x (2 + 1)) (b := x (6 + 1)) (by omega) (by omega)
  have g2 := i_add (a := x (2 + 2)) (b := x (6 + 2)) (by omega) (by omega)
  have g3 := i_add (a := x (2 + 3)) (b := x (6 + 3)) (by omega) (by omega)
  have z : (0 : Int64).toInt = 0 := by decide
  have s1 : (lsum x 1).toInt = (x (2 + 0) + x (6 + 0)).toInt := by
    show ((0 : Int64) + (x (2 + 0) + x (6 + 0)).toInt64).toInt = _
    rw [l_acc (by omega) (by omega) (by omega) (by omega)]
    omega
  have s2 : (lsum x 2).toInt = (lsum x 1).toInt + (x (2 + 1) + x (6 + 1)).toInt := l_acc (a := lsum x 1) (g := x (2 + 1) + x (6 + 1)) (by omega) (by omega) (by omega) (by omega)
  have s3 : (lsum x 3).toInt = (lsum x 2).toInt + (x (2 + 2) + x (6 + 2)).toInt := l_acc (a := lsum x 2) (g := x (2 + 2) + x (6 + 2)) (by omega) (by omega) (by omega) (by omega)
  have s4 : (lsum x 4).toInt = (lsum x 3).toInt + (x (2 + 3) + x (6 + 3)).toInt := l_acc (a := lsum x 3) (g := x (2 + 3) + x (6 + 3)) (by omega) (by omega) (by omega) (by omega)
  have f2 : (sumI (fun j => x (2 + j)) 2).toInt = (x (2 + 0)).toInt + (x (2 + 1)).toInt := by
    show ((0 : Int32) + x (2 + 0) + x (2 + 1)).toInt = _
    rw [Int32.zero_add, i_add (by omega) (by omega)]
  have f3 : (sumI (fun j => x (2 + j)) 3).toInt = (sumI (fun j => x (2 + j)) 2).toInt + (x (2 + 2)).toInt := i_add (a := sumI (fun j => x (2 + j)) 2) (b := x (2 + 2)) (by omega) (by omega)
  have f4 : (sumI (fun j => x (2 + j)) 4).toInt = (sumI (fun j => x (2 + j)) 3).toInt + (x (2 + 3)).toInt := i_add (a := sumI (fun j => x (2 + j)) 3) (b := x (2 + 3)) (by omega) (by omega)
  have l2 : (sumI (fun j => x (6 + j)) 2).toInt = (x (6 + 0)).toInt + (x (6 + 1)).toInt := by
    show ((0 : Int32) + x (6 + 0) + x (6 + 1)).toInt = _
    rw [Int32.zero_add, i_add (by omega) (by omega)]
  have l3 : (sumI (fun j => x (6 + j)) 3).toInt = (sumI (fun j => x (6 + j)) 2).toInt + (x (6 + 2)).toInt := i_add (a := sumI (fun j => x (6 + j)) 2) (b := x (6 + 2)) (by omega) (by omega)
  have l4 : (sumI (fun j => x (6 + j)) 4).toInt = (sumI (fun j => x (6 + j)) 3).toInt + (x (6 + 3)).toInt := i_add (a := sumI (fun j => x (6 + j)) 3) (b := x (6 + 3)) (by omega) (by omega)
  refine Int64.toInt_inj.mp ?_
  rw [Int32.toInt_toInt64, i_add (by omega) (by omega)]
  omega
theorem dep_ext {x y : Nat → Int32} (h : ∀ k, k < 10 → x k = y k) : depC x = depC y := by
  have e1 : ∀ n, n ≤ 4 → sumI (fun j => x (2 + j)) n = sumI (fun j => y (2 + j)) n := by
    intro n hn
    induction n with
    | zero => rfl
    | succ n ih =>
      show sumI _ n + x (2 + n) = sumI _ n + y (2 + n)
      rw [ih (by omega), h (2 + n) (by omega)]
  have e2 : ∀ n, n ≤ 4 → sumI (fun j => x (6 + j)) n = sumI (fun j => y (6 + j)) n := by
    intro n hn
    induction n with
    | zero => rfl
    | succ n ih =>
      show sumI _ n + x (6 + n) = sumI _ n + y (6 + n)
      rw [ih (by omega), h (6 + n) (by omega)]
  unfold depC
  rw [e1 4 (by omega), e2 4 (by omega), h 1 (by omega)]
theorem shF_ext {x y : Nat → Int32} {j : Nat} (hj : j < 4) (h : ∀ k, k < 10 → x k = y k) : shF x j = shF y j := by
  unfold shF
  rw [h (2 + j) (by omega), h (6 + j) (by omega), h 1 (by omega)]
theorem GB_of {r : Nat → Int32} {l : Nat} (k : Ok r) (hl : l < 20) : GB (ltx r l) := by
  intro d hd
  obtain ⟨-, w1, w2⟩ := k.wok d hd
  have a := k.lge l (2 + d) hl (by omega) (by omega)
  have b := k.lge l (6 + d) hl (by omega) (by omega)
  have c := w2 l hl
  have g : 0 ≤ gsum r d 6 := by
    have q : ∀ n, n ≤ 6 → 0 ≤ gsum r d n := by
      intro n hn
      induction n with
      | zero => exact Int.le_refl _
      | succ n ih =>
        show 0 ≤ gsum r d n + _
        have z := k.vge n (by omega)
        have i := ih (by omega)
        split <;> omega
    exact q 6 (by omega)
  exact ⟨a, b, by omega⟩
/-- the row behind a dip, ahead of spoiling and saving -/
def dy6 (r : Nat → Int32) (l v d : Nat) (t : Int32) : Nat → Int32 := rowL (rowV (upd r 10 (r 10 + 1)) v (soakY (ltx r l) (vt r v) r t)) l (soakG (ltx r l) r d t)
theorem dy6_l {r : Nat → Int32} {l v d k : Nat} {t : Int32} (hk : k < 15) : dy6 r l v d t (43 + 15 * l + k) = soakG (ltx r l) r d t k := rowL_in hk
theorem dy6_lo {r : Nat → Int32} {l v d p : Nat} {t : Int32} (h : p < 10) : dy6 r l v d t p = r p := by
  unfold dy6
  rw [rowL_out (by omega), rowV_out (by omega), upd_n (by omega)]
theorem dy6_e {r : Nat → Int32} {l v d : Nat} {t : Int32} (hl : l < 20) (hv : v < 6) (hd : d < 4) : ∀ p, p < 643 → upd (upd (upd (upd (upd (upd r (19 + 4 * v + 2) (r (19 + 4 * v + 2) - t)) (19 + 4 * v + 3) (r (19 + 4 * v + 3) + (r (43 + 15 * l + 1) * r 1 + 999) / 1000)) (43 + 15 * l + (6 + d)) (r (43 + 15 * l + (6 + d)) + t * r 5 / 100)) (43 + 15 * l + (2 + d)) (r (43 + 15 * l + (2 + d)) + t - t * r 5 / 100)) (43 + 15 * l + 14) (r (43 + 15 * l + 14) + 1)) 10 (r 10 + 1) p = dy6 r l v d t p := by
  intro p hp
  by_cases a : p = 10
  · subst a
    rw [upd_s]
    unfold dy6
    rw [rowL_out (by omega), rowV_out (by omega), upd_s]
  rw [upd_n a]
  by_cases bl : 43 + 15 * l ≤ p ∧ p < 58 + 15 * l
  · obtain ⟨k, rfl⟩ : ∃ k, p = 43 + 15 * l + k := ⟨p - (43 + 15 * l), by omega⟩
    rw [dy6_l (by omega)]
    unfold soakG
    by_cases e1 : k = 14
    · subst e1; rw [upd_s, upd_s]; rfl
    rw [upd_n (by omega), upd_n e1]
    by_cases e2 : k = 2 + d
    · subst e2; rw [upd_s, upd_s]; rw [Int32.sub_eq_add_neg, Int32.add_assoc, ← Int32.sub_eq_add_neg]; rfl
    rw [upd_n (by omega), upd_n e2]
    by_cases e3 : k = 6 + d
    · subst e3; rw [upd_s, upd_s]; rfl
    rw [upd_n (by omega), upd_n e3, upd_n (by omega), upd_n (by omega)]
    rfl
  rw [upd_n (by omega), upd_n (by omega), upd_n (by omega)]
  unfold dy6
  rw [rowL_out (by omega)]
  by_cases bv : 19 + 4 * v ≤ p ∧ p < 23 + 4 * v
  · obtain ⟨k, rfl⟩ : ∃ k, p = 19 + 4 * v + k := ⟨p - (19 + 4 * v), by omega⟩
    rw [rowV_in (by omega)]
    unfold soakY
    by_cases e1 : k = 3
    · subst e1; rw [upd_s, upd_s]; rfl
    rw [upd_n (by omega), upd_n e1]
    by_cases e2 : k = 2
    · subst e2; rw [upd_s, upd_s]; rfl
    rw [upd_n (by omega), upd_n e2]
    rfl
  rw [upd_n (by omega), upd_n (by omega), rowV_out (by omega), upd_n a]
theorem spo_t {x y r : Nat → Int32} {d : Nat} {t : Int32} (h : spoP x y r d t) : (1 : Int32) = spoV x y r d t := by
  unfold spoV
  rw [if_pos h]
theorem spo_f {x y r : Nat → Int32} {d : Nat} {t : Int32} (h : ¬ spoP x y r d t) : x 11 = spoV x y r d t := by
  unfold spoV
  rw [if_neg h]
theorem dyeR_d {r : Nat → Int32} {l v d : Nat} {t : Int32} (hd : d < 4) (e : vt r v 0 = nI d) (ht : tkR r l v = t) : dyeR r l v = rowL (rowV (upd r 10 (r 10 + 1)) v (soakY (ltx r l) (vt r v) r t)) l (soakF (ltx r l) (vt r v) r d t) := by
  unfold dyeR
  rw [e, ht, cl_nI (by omega)]
theorem rowL_up {r x : Nat → Int32} {l k p : Nat} {s : Int32} (hk : k < 15) : upd (rowL r l x) (43 + 15 * l + k) s p = rowL r l (upd x k s) p := by
  by_cases bl : 43 + 15 * l ≤ p ∧ p < 58 + 15 * l
  · obtain ⟨j, rfl⟩ : ∃ j, p = 43 + 15 * l + j := ⟨p - (43 + 15 * l), by omega⟩
    rw [rowL_in (by omega)]
    by_cases e : j = k
    · subst e; rw [upd_s, upd_s]
    · rw [upd_n (by omega), upd_n e, rowL_in (by omega)]
  · rw [upd_n (by omega), rowL_out (by omega), rowL_out (by omega)]
theorem dye_t {r : Nat → Int32} {l v d : Nat} {t s : Int32} (hd : d < 4) (e : vt r v 0 = nI d) (ht : tkR r l v = t) (h : savP (ltx r l) r d t (spoV (ltx r l) (vt r v) r d t)) : ∀ p, p < 643 → upd (upd (upd (dy6 r l v d t) (43 + 15 * l + 11) s) (43 + 15 * l + 11) 0) (43 + 15 * l + 12) 1 p = dyeR r l v p := by
  intro p hp
  rw [dyeR_d hd e ht]
  unfold soakF
  rw [if_pos h]
  have q1 : upd (dy6 r l v d t) (43 + 15 * l + 11) s = rowL _ l (upd (soakG (ltx r l) r d t) 11 s) := funext (fun p => rowL_up (by omega))
  have q2 : ∀ z : Nat → Int32, upd (rowL (rowV (upd r 10 (r 10 + 1)) v (soakY (ltx r l) (vt r v) r t)) l z) (43 + 15 * l + 11) 0 = rowL _ l (upd z 11 0) := fun z => funext (fun p => rowL_up (by omega))
  rw [q1, q2, rowL_up (by omega)]
  congr 2
  funext j
  by_cases z : j = 11
  · subst z; rw [upd_s, upd_s]
  · rw [upd_n z, upd_n z, upd_n z]
theorem dye_f {r : Nat → Int32} {l v d : Nat} {t s : Int32} (hd : d < 4) (e : vt r v 0 = nI d) (ht : tkR r l v = t) (hs : s = spoV (ltx r l) (vt r v) r d t) (h : ¬ savP (ltx r l) r d t (spoV (ltx r l) (vt r v) r d t)) : ∀ p, p < 643 → upd (dy6 r l v d t) (43 + 15 * l + 11) s p = dyeR r l v p := by
  intro p hp
  rw [dyeR_d hd e ht]
  unfold soakF
  rw [if_neg h, ← hs]
  exact rowL_up (by omega)
theorem loop4_0 : (0 : Int64) = lsum zrow 0 := rfl

set_option maxHeartbeats 4000000 in
set_option maxRecDepth 100000 in
theorem ct_X10_depth (X : Cx) {h : Hp} {a n1 : Nat} {r : Nat → Int32} {l : Nat}  (hM : MoAt X h a n1 r) (hl : l < 20) (hp : 0 < (ltx r l 1).toInt) (hb : GB (ltx r l)) : Ct X mX10_depth 2 0 0 [.ref a, .int (nI l)] h (Ex (.int (depC (ltx r l))) h) := by
  obtain ⟨⟨n2, st, n3, n4, le, n5, at0, lt, n6, fl, n7, m0⟩, m1⟩ := id hM
  unfold mdl at m0
  have dA := hM.ne
  refine Ct.ofG vX10_depth.1.2.2.1 (Nat.le_of_ble_eq_true rfl) ?_
  show G X RX10 cX10_depth 5 (some .int) "depth" (Rm 2 0 0) (Fm X (Ex (.int (depC (ltx r l))) h) 0 0) 0 0 0 [(0, .ref a), (1, .int (nI l))] [] h
  refine g_lconst (v := 0) dX10_depth_0 (by decide) ?_
  refine g_lstore_n (L1 := [(0, _), (1, _), (2, _)]) dX10_depth_1 (by decide) (by rfl) ?_
  refine g_iconst (v := 0) dX10_depth_2 (by decide) ?_
  refine g_istore (L1 := [(0, _), (1, _), (2, _), (4, _)]) dX10_depth_3 (by decide) (by rfl) ?_
  have loop5 : ∀ i, i ≤ 4 → ∀ acc, acc = lsum (ltx r l) i → G X RX10 cX10_depth 5 (some .int) "depth" (Rm 2 0 0) (Fm X (Ex (.int (depC (ltx r l))) h) 0 0) 0 0 5 [(0, .ref a), (1, .int (nI l)), (2, .long acc), (4, .int (nI i))] [] h := by
    refine up_ind 4 (fun i hi ih => ?_)
    intro acc eacc
    refine g_iload dX10_depth_5 (by rfl) ?_
    refine g_iconst (v := 4) dX10_depth_7 (by decide) ?_
    refine g_icmp_ge (tgt := 28) dX10_depth_8 (by decide) (fun c1 => ?_) (fun c1 => ?_)
    · skip
      have hie : i = 4 := Nat.le_antisymm hi (c_ge (a := 4) (by omega) (by omega) c1)
      subst hie
      refine g_ldc2 dX10_depth_28 cX10_75 ?_
      refine g_lload_n dX10_depth_31 (by rfl) ?_
      refine g_lmul dX10_depth_32 ?_
      refine g_aload_n dX10_depth_33 (by rfl) (by first | exact isRf_r | exact isRf_n | exact isRf_o | assumption) ?_
      refine g_iload_n dX10_depth_34 (by rfl) ?_
      refine g_iconst (v := 1) dX10_depth_35 (by decide) ?_
      refine g_cV2x dX10_depth_36 lX10_35 vX10_lotNumber (ct_X10_lotNumber X (i := l) (k := 1) (by first | exact hM | exact hM.hr) (by omega)) (by first | exact m0 | exact hr_a dA m0) rfl ⟨Nat.le_of_ble_eq_true rfl, Nat.le_of_ble_eq_true rfl⟩ (Nat.le_of_ble_eq_true rfl) ⟨Nat.le_of_ble_eq_true rfl, Nat.le_of_ble_eq_true rfl⟩ ?_
      refine g_i2l dX10_depth_39 ?_
      refine g_ldiv dX10_depth_40 (l_nz hp) ?_
      refine g_l2i dX10_depth_41 ?_
      refine g_iret dX10_depth_42 rfl (Nat.le_refl _) (Nat.le_refl _) ?_
      refine Ex.i ?_ rfl
      rw [eacc, lsum_e hb]
      rfl
    · skip
      have hi4 : i < 4 := c_nge (a := 4) (b := i) (by omega) (by omega) c1
      refine g_lload_n dX10_depth_11 (by rfl) ?_
      refine g_aload_n dX10_depth_12 (by rfl) (by first | exact isRf_r | exact isRf_n | exact isRf_o | assumption) ?_
      refine g_iload_n dX10_depth_13 (by rfl) ?_
      refine g_iload dX10_depth_14 (by rfl) ?_
      refine g_cV2x dX10_depth_16 lX10_77 vX10_grains (ct_X10_grains X hM hl hi4) (by first | exact m0 | exact hr_a dA m0) rfl ⟨Nat.le_of_ble_eq_true rfl, Nat.le_of_ble_eq_true rfl⟩ (Nat.le_of_ble_eq_true rfl) ⟨Nat.le_of_ble_eq_true rfl, Nat.le_of_ble_eq_true rfl⟩ ?_
      refine g_i2l dX10_depth_19 ?_
      refine g_ladd dX10_depth_20 ?_
      refine g_lstore_n (L1 := [(0, _), (1, _), (2, _), (4, _)]) dX10_depth_21 (by decide) (by rfl) ?_
      refine g_iinc (v := nI (i + 1)) (L1 := [(0, _), (1, _), (2, _), (4, _)]) dX10_depth_22 (by rfl) (nI_1 i) (by decide) (by rfl) ?_
      refine g_goto (tgt := 5) dX10_depth_25 (by decide) ?_
      refine ih (by omega) _ ?_
      rw [eacc]
      rfl
  exact loop5 0 (by omega) _ rfl

set_option maxHeartbeats 4000000 in
set_option maxRecDepth 100000 in
theorem ct_X10_taken (X : Cx) {h : Hp} {a n1 : Nat} {r : Nat → Int32} {l v : Nat} {g : Int32}  (hM : MoAt X h a n1 r) (hl : l < 20) (hv : v < 6) (hk : Dok (r 0) (vt r v 1) (ltx r l)) : Ct X mX10_taken 1 0 0 [.ref a, .int (nI l), .int (nI v), .int g] h (Ex (.int (takF (r 0) (ltx r l) g (vt r v 1))) h) := by
  obtain ⟨⟨n2, st, n3, n4, le, n5, at0, lt, n6, fl, n7, m0⟩, m1⟩ := id hM
  unfold mdl at m0
  have dA := hM.ne
  refine Ct.ofG vX10_taken.1.2.2.1 (Nat.le_of_ble_eq_true rfl) ?_
  show G X RX10 cX10_taken 6 (some .int) "taken" (Rm 1 0 0) (Fm X (Ex (.int (takF (r 0) (ltx r l) g (vt r v 1))) h) 0 0) 0 0 0 [(0, .ref a), (1, .int (nI l)), (2, .int (nI v)), (3, .int g)] [] h
  refine g_aload_n dX10_taken_0 (by rfl) (by first | exact isRf_r | exact isRf_n | exact isRf_o | assumption) ?_
  refine g_iload_n dX10_taken_1 (by rfl) ?_
  refine g_iconst (v := 0) dX10_taken_2 (by decide) ?_
  refine g_cV2x dX10_taken_3 lX10_35 vX10_lotNumber (ct_X10_lotNumber X (i := l) (k := 0) (by first | exact hM | exact hM.hr) (by omega)) (by first | exact m0 | exact hr_a dA m0) rfl ⟨Nat.le_of_ble_eq_true rfl, Nat.le_of_ble_eq_true rfl⟩ (Nat.le_of_ble_eq_true rfl) ⟨Nat.le_of_ble_eq_true rfl, Nat.le_of_ble_eq_true rfl⟩ ?_
  refine g_i2l dX10_taken_6 ?_
  refine g_lconst (v := 1) dX10_taken_7 (by decide) ?_
  refine g_ladd dX10_taken_8 ?_
  refine g_aload_n dX10_taken_9 (by rfl) (by first | exact isRf_r | exact isRf_n | exact isRf_o | assumption) ?_
  refine g_iload_n dX10_taken_10 (by rfl) ?_
  refine g_iconst (v := 1) dX10_taken_11 (by decide) ?_
  refine g_cV2x dX10_taken_12 lX10_35 vX10_lotNumber (ct_X10_lotNumber X (i := l) (k := 1) (by first | exact hM | exact hM.hr) (by omega)) (by first | exact m0 | exact hr_a dA m0) rfl ⟨Nat.le_of_ble_eq_true rfl, Nat.le_of_ble_eq_true rfl⟩ (Nat.le_of_ble_eq_true rfl) ⟨Nat.le_of_ble_eq_true rfl, Nat.le_of_ble_eq_true rfl⟩ ?_
  refine g_i2l dX10_taken_15 ?_
  refine g_lmul dX10_taken_16 ?_
  refine g_lstore (L1 := [(0, _), (1, _), (2, _), (3, _), (4, _)]) dX10_taken_17 (by decide) (by rfl) ?_
  refine g_iload_n dX10_taken_19 (by rfl) ?_
  refine g_i2l dX10_taken_20 ?_
  refine g_lload dX10_taken_21 (by rfl) ?_
  refine g_lmul dX10_taken_23 ?_
  refine g_lload dX10_taken_24 (by rfl) ?_
  refine g_aload_n dX10_taken_26 (by rfl) (by first | exact isRf_r | exact isRf_n | exact isRf_o | assumption) ?_
  refine g_getf dX10_taken_27 fX10_7 (by first | exact m0 | exact hr_a dA m0) (by rfl) ?_
  refine g_iconst (v := 0) dX10_taken_30 (by decide) ?_
  refine g_ilM (0) dX10_taken_31 (by first | exact m1 | exact hr_n) (by first | rfl | exact lin3 | exact lin3a | exact linA | exact linB) (by omega) ?_
  refine g_i2l dX10_taken_32 ?_
  refine g_aload_n dX10_taken_33 (by rfl) (by first | exact isRf_r | exact isRf_n | exact isRf_o | assumption) ?_
  refine g_iload_n dX10_taken_34 (by rfl) ?_
  refine g_iconst (v := 1) dX10_taken_35 (by decide) ?_
  refine g_cV2x dX10_taken_36 lX10_57 vX10_vatNumber (ct_X10_vatNumber X (i := v) (k := 1) (by first | exact hM | exact hM.hr) (by omega)) (by first | exact m0 | exact hr_a dA m0) rfl ⟨Nat.le_of_ble_eq_true rfl, Nat.le_of_ble_eq_true rfl⟩ (Nat.le_of_ble_eq_true rfl) ⟨Nat.le_of_ble_eq_true rfl, Nat.le_of_ble_eq_true rfl⟩ ?_
  refine g_i2l dX10_taken_39 ?_
  refine g_lmul dX10_taken_40 ?_
  refine g_ladd dX10_taken_41 ?_
  refine g_ldiv dX10_taken_42 hk.nz ?_
  refine g_l2i dX10_taken_43 ?_
  refine g_iret dX10_taken_44 rfl (Nat.le_refl _) (Nat.le_refl _) ?_
  exact Ex.i rfl rfl
