section
variable {r : Nat → Int32} {n tn l : Nat}
theorem okB_l (o : Ok r) (hl : l < cl (r 8)) : okB (r 8) (nI l) = true := by
  have c8 := (cl_le o).1
  rw [o.e8]
  exact okB_t hl (by omega)
theorem ql_all (o : Ok r) (hl : l < cl (r 8)) : Q_lotOf r (nI l) 0 = ltx r l 0 ∧ Q_lotOf r (nI l) 1 = ltx r l 1 ∧ Q_lotOf r (nI l) 3 = sumI (fun j => ltx r l (2 + j)) 4 ∧ Q_lotOf r (nI l) 4 = sumI (fun j => ltx r l (6 + j)) 4 ∧ Q_lotOf r (nI l) 5 = ltx r l 10 ∧ Q_lotOf r (nI l) 6 = ltx r l 11 ∧ Q_lotOf r (nI l) 7 = ltx r l 12 ∧ Q_lotOf r (nI l) 8 = cond (sold r l) (ltx r l 13 - 1) (-4) ∧ Q_lotOf r (nI l) 9 = ltx r l 14 := by
  have c8 := (cl_le o).1
  unfold Q_lotOf
  rw [okB_l o hl, cl_nI (by omega)]
  exact ⟨rfl, rfl, rfl, rfl, rfl, rfl, rfl, rfl, rfl⟩
theorem n_neg {x : Int32} (h : 0 ≤ x.toInt) : ¬ x < 0 := by
  rw [i_lt, z_toInt]
  omega
/-- what is said of a lot that is sold -/
theorem sld_i (s : Snd r) (o : Ok r) (hl : l < cl (r 8)) (h : sold r l = true) : ltx r l 10 = 0 ∧ ltx r l 11 = 0 ∧ ∃ i, i < cl (r 9) ∧ ltx r l 13 - 1 = nI i ∧ od r i 4 = 1 := by
  unfold sold at h
  obtain ⟨a, b, i, h1, h2, h3⟩ := (s.2.2.2 l hl).1 (of_decide_eq_true h)
  exact ⟨a, b, i, h1, by rw [h2, nI_pred], h3⟩
theorem fl_8 (s : Snd r) (o : Ok r) (hl : l < cl (r 8)) : (¬ Q_lotOf r (nI l) 8 < 0) ↔ sold r l = true := by
  have c9 := (cl_le o).2
  rw [(ql_all o hl).2.2.2.2.2.2.2.1]
  cases h : sold r l with
  | true =>
    obtain ⟨-, -, i, h1, h2, -⟩ := sld_i s o hl h
    show ¬ ltx r l 13 - 1 < 0 ↔ _
    rw [h2]
    exact ⟨fun _ => rfl, fun _ => n_neg (by rw [nI_toInt (by omega)]; omega)⟩
  | false => exact ⟨fun z => absurd (show (-4 : Int32) < 0 by decide) z, fun z => by cases z⟩
theorem bz_h (o : Ok r) (hl : l < cl (r 8)) : ltx r l 10 = bI (hangs r l) := bz_b (o.lk hl).2.2.2.2.2.1
theorem cnt_b {p : Nat → Bool} {m : Nat} {x : Int32} (h : x = bI (p m)) : nI (cntN p m) + x = nI (cntN p (m + 1)) := by
  rw [h]
  show nI (cntN p m) + bI (p m) = nI (cond (p m) (cntN p m + 1) (cntN p m))
  cases p m with
  | false => exact Int32.add_zero _
  | true => exact nI_1 _
theorem fl_h (o : Ok r) (hl : l < cl (r 8)) : nI (cntN (hangs r) l) + Q_lotOf r (nI l) 5 = nI (cntN (hangs r) (l + 1)) := cnt_b ((ql_all o hl).2.2.2.2.1.trans (bz_h o hl))
theorem fl_l (o : Ok r) (hl : l < cl (r 8)) : nI (cntN (rackB r 0) l) + bI (decide (Q_lotOf r (nI l) 5 = 1) && decide (Q_lotOf r (nI l) 0 = 0)) = nI (cntN (rackB r 0) (l + 1)) := by
  refine cnt_b ?_
  rw [(ql_all o hl).2.2.2.2.1, (ql_all o hl).1, bz_h o hl]
  unfold rackB
  cases hangs r l <;> rfl
theorem fl_s (s : Snd r) (o : Ok r) (hl : l < cl (r 8)) : nI (cntN (fun l => cntW 4 (ltx r l)) l) + cond (sold r l) 0 (Q_lotOf r (nI l) 6) = nI (cntN (fun l => cntW 4 (ltx r l)) (l + 1)) := by
  refine cnt_b ?_
  rw [(ql_all o hl).2.2.2.2.2.1]
  show _ = bI (decide (ltx r l 13 = 0) && decide (¬ ltx r l 11 = 0))
  have b := bz_b (o.lk hl).2.2.2.2.2.2.1
  cases h : sold r l with
  | true =>
    unfold sold at h
    rw [decide_eq_false (of_decide_eq_true h)]
    rfl
  | false =>
    unfold sold at h
    rw [decide_eq_true (Classical.byContradiction (of_decide_eq_false h)), Bool.true_and]
    exact b
theorem fl_d (o : Ok r) (hl : l < cl (r 8)) : nI (cntN (fun l => cntW 5 (ltx r l)) l) + Q_lotOf r (nI l) 7 = nI (cntN (fun l => cntW 5 (ltx r l)) (l + 1)) := cnt_b ((ql_all o hl).2.2.2.2.2.2.1.trans (bz_b (o.lk hl).2.2.2.2.2.2.2.1))
theorem fl_n (o : Ok r) (hl : l < cl (r 8)) : sumP (fun _ => true) (fun l => ltx r l 14) l + Q_lotOf r (nI l) 9 = sumP (fun _ => true) (fun l => ltx r l 14) (l + 1) := by
  rw [(ql_all o hl).2.2.2.2.2.2.2.2]
  rfl
theorem fl_s5 (s : Snd r) (o : Ok r) (hl : l < cl (r 8)) (h : sold r l = true) : Q_lotOf r (nI l) 5 = 0 := (ql_all o hl).2.2.2.2.1.trans (sld_i s o hl h).1
theorem fl_s6 (s : Snd r) (o : Ok r) (hl : l < cl (r 8)) (h : sold r l = true) : Q_lotOf r (nI l) 6 = 0 := (ql_all o hl).2.2.2.2.2.1.trans (sld_i s o hl h).2.1
theorem okB_o (o : Ok r) {i : Nat} (hi : i < cl (r 9)) : okB (r 9) (nI i) = true := by
  have c9 := (cl_le o).2
  rw [o.e9]
  exact okB_t hi (by omega)
theorem okB_v (o : Ok r) {i : Nat} (hi : i < cl (r 7)) : okB (r 7) (nI i) = true := by
  have c7 := cl_le7 o
  rw [o.e7]
  exact okB_t hi (by omega)
theorem qo_4 (o : Ok r) {i : Nat} (hi : i < cl (r 9)) : Q_orderOf r (nI i) 4 = od r i 4 := by
  have c9 := (cl_le o).2
  unfold Q_orderOf
  rw [okB_o o hi, cl_nI (by omega)]
  rfl
theorem fl_so (s : Snd r) (o : Ok r) (hl : l < cl (r 8)) (h : sold r l = true) : Q_orderOf r (Q_lotOf r (nI l) 8) 4 = 1 := by
  obtain ⟨-, -, i, h1, h2, h3⟩ := sld_i s o hl h
  rw [(ql_all o hl).2.2.2.2.2.2.2.1, h]
  show Q_orderOf r (ltx r l 13 - 1) 4 = 1
  rw [h2, qo_4 o h1, h3]
theorem fl_dk (s : Snd r) (o : Ok r) (hl : l < cl (r 8)) (h : ¬ Q_lotOf r (nI l) 7 = 0) : Q_lotOf r (nI l) 6 = 0 := by
  rw [(ql_all o hl).2.2.2.2.2.2.1] at h
  rw [(ql_all o hl).2.2.2.2.2.1]
  exact (s.2.2.2 l hl).2.resolve_left h
theorem dist_0 {x : Int32} : dist x x = 0 := by
  unfold dist
  rw [if_neg (by rw [i_lt]; omega)]
  exact Int32.sub_self x
theorem allB_t {p : Nat → Bool} : ∀ {m : Nat}, (∀ j, j < m → p j = true) → allB p m = true
  | 0, _ => rfl
  | m + 1, h => by
    show (allB p m && p m) = true
    rw [allB_t (fun j hj => h j (by omega)), h m (by omega)]
    rfl
theorem fl_m (o : Ok r) (hl : l < cl (r 8)) : Q_match r (nI l) (nI l) = 1 := by
  unfold Q_match
  have b4 := o.set.b4
  rw [okB_l o hl, allB_t (fun d hd => by rw [dist_0]; exact decide_eq_true (by rw [i_le, z_toInt]; exact b4))]
  rfl
theorem sum4_ge {g : Nat → Int32} (h : ∀ j, j < 4 → 0 ≤ (g j).toInt ∧ (g j).toInt ≤ 1000000) : 0 ≤ (sumI g 4).toInt ∧ (sumI g 4).toInt ≤ 4000000 := by
  have e : sumI g 4 = (((0 + g 0) + g 1) + g 2) + g 3 := rfl
  rw [e]
  have h0 := h 0 (by omega)
  have h1 := h 1 (by omega)
  have h2 := h 2 (by omega)
  have h3 := h 3 (by omega)
  have z := z_toInt
  have a0 : ((0 : Int32) + g 0).toInt = (g 0).toInt := by
    rw [i_add (by omega) (by omega), z]
    omega
  have a1 : ((0 : Int32) + g 0 + g 1).toInt = (g 0).toInt + (g 1).toInt := by
    rw [i_add (by omega) (by omega), a0]
  have a2 : ((0 : Int32) + g 0 + g 1 + g 2).toInt = (g 0).toInt + (g 1).toInt + (g 2).toInt := by
    rw [i_add (by omega) (by omega), a1]
  have a3 : ((0 : Int32) + g 0 + g 1 + g 2 + g 3).toInt = (g 0).toInt + (g 1).toInt + (g 2).toInt + (g 3).toInt := by
    rw [i_add (by omega) (by omega), a2]
  omega
theorem Ok.gr (o : Ok r) {d : Nat} (hl : l < 20) (hd : d < 4) : (0 ≤ (ltx r l (2 + d)).toInt ∧ (ltx r l (2 + d)).toInt ≤ 1000000) ∧ 0 ≤ (ltx r l (6 + d)).toInt ∧ (ltx r l (6 + d)).toInt ≤ 1000000 := by
  have a1 := o.lge l (2 + d) hl (by omega) (by omega)
  have a2 := o.lge l (6 + d) hl (by omega) (by omega)
  have gv := gsum_ge (r := r) (d := d) (k := 6) o.vge
  obtain ⟨w0, w1, w2⟩ := o.wok d hd
  have w3 := w2 l hl
  omega
theorem fl_3 (o : Ok r) (hl : l < cl (r 8)) : ¬ Q_lotOf r (nI l) 3 < 0 := by
  rw [(ql_all o hl).2.2.1]
  exact n_neg (sum4_ge (fun d hd => (o.gr (o.lk hl).1 hd).1)).1
theorem fl_4 (o : Ok r) (hl : l < cl (r 8)) : ¬ Q_lotOf r (nI l) 4 < 0 := by
  rw [(ql_all o hl).2.2.2.1]
  exact n_neg (sum4_ge (fun d hd => (o.gr (o.lk hl).1 hd).2)).1
theorem ff_1 : nI (cntN (hangs r) (cl (r 8))) = Q_count r n tn 3 := qc_3.symm
theorem ff_2 (o2 : Ok2 r) : ¬ 4 < nI (cntN (rackB r 0) (cl (r 8))) := ni_nlt (b := 4) rfl (o2.1 0) (by omega)
theorem ff_3 (o : Ok r) (o2 : Ok2 r) : ¬ 4 < nI (cntN (hangs r) (cl (r 8))) - nI (cntN (rackB r 0) (cl (r 8))) := by
  rw [rack_bz o, ← nI_add]
  refine ni_nlt (b := 4) (a := rackN r 1) ?_ (o2.1 1) (by omega)
  show nI (rackN r 0) + nI (rackN r 1) - nI (rackN r 0) = nI (rackN r 1)
  generalize nI (rackN r 0) = x
  generalize nI (rackN r 1) = y
  grind
theorem ff_4 : nI (cntN (fun l => cntW 4 (ltx r l)) (cl (r 8))) = Q_count r n tn 4 := qc_4.symm
theorem ff_5 : nI (cntN (fun l => cntW 5 (ltx r l)) (cl (r 8))) = Q_count r n tn 5 := qc_5.symm
theorem ff_6 (s : Snd r) : sumP (fun _ => true) (fun l => ltx r l 14) (cl (r 8)) = Q_count r n tn 9 := s.2.1.trans qc_9.symm
theorem ge_nI {k N : Nat} {x : Int32} (hx : x = nI N) (hk : k ≤ N) (hN : N ≤ 1000) (h : x ≤ nI k) : k = N := by
  rw [hx, i_le, nI_toInt (by omega), nI_toInt (by omega)] at h
  omega
theorem nge_nI {k N : Nat} {x : Int32} (hx : x = nI N) (hN : N ≤ 1000) (hk : k ≤ N) (h : ¬ x ≤ nI k) : k < N := by
  rw [hx, i_le, nI_toInt (by omega), nI_toInt (by omega)] at h
  omega
end
