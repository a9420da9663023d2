/-- a lot dipped or hung: all else stays -/
def Sim (l : Nat) (r r2 : Nat → Int32) : Prop := (∀ p, p < 10 → r2 p = r p) ∧ (∀ m i, m < 20 → i < 15 → m ≠ l → ltx r2 m i = ltx r m i) ∧ (∀ o i, od r2 o i = od r o i) ∧ ltx r2 l 13 = ltx r l 13 ∧ ltx r2 l 10 = ltx r l 10
theorem Sim.rf {l : Nat} {r : Nat → Int32} : Sim l r r := ⟨fun _ _ => rfl, fun _ _ _ _ _ => rfl, fun _ _ => rfl, rfl, rfl⟩
theorem Sim.tr {l : Nat} {a b c : Nat → Int32} (h : Sim l a b) (k : Sim l b c) : Sim l a c := by
  obtain ⟨h1, h2, h3, h4, h5⟩ := h
  obtain ⟨k1, k2, k3, k4, k5⟩ := k
  exact ⟨fun p q => (k1 p q).trans (h1 p q), fun m i x y z => (k2 m i x y z).trans (h2 m i x y z), fun o i => (k3 o i).trans (h3 o i), k4.trans h4, k5.trans h5⟩
theorem Sim_dye {l v : Nat} {r : Nat → Int32} (o : Ok r) (hl : l < 20) (hv : v < cl (r 7)) : Sim l r (dyeR r l v) := by
  have hv6 := (o.vk hv).1
  have hd := o.dy hv
  refine ⟨fun p hp => dye_lo (by omega) (by omega), fun m i h1 h2 h3 => dye_lt hv6 h2 h3, fun x i => dye_od hl hv6, ?_, ?_⟩
  · rw [dye_ll (by omega), soakF_o (by omega) (by omega), soakG_m (by omega) (by omega) (by omega)]
  · rw [dye_ll (by omega), soakF_o (by omega) (by omega), soakG_m (by omega) (by omega) (by omega)]
theorem goF_sim {l : Nat} {f : Nat → Nat} {r : Nat → Int32} (o : Ok r) (hl : l < cl (r 8)) : ∀ {k : Nat} {rk : Nat → Int32}, (∀ i, i < k → f i < cl (r 7)) → goF l f r k = some rk → Sim l r rk ∧ Ok rk
  | 0, rk, _, h => by
    have e : r = rk := Option.some.inj h
    subst e
    exact ⟨Sim.rf, o⟩
  | k + 1, rk, hf, h => by
    obtain ⟨r2, h2⟩ := goF_le h k (by omega)
    obtain ⟨-, e⟩ := goF_go h2 h
    obtain ⟨s, o2⟩ := goF_sim o hl (k := k) (fun i hi => hf i (by omega)) h2
    have e7 : r2 7 = r 7 := s.1 7 (by omega)
    have e8 : r2 8 = r 8 := s.1 8 (by omega)
    have hv : f k < cl (r2 7) := by rw [e7]; exact hf k (by omega)
    have hl2 : l < cl (r2 8) := by rw [e8]; exact hl
    subst e
    exact ⟨s.tr (Sim_dye o2 (o2.lk hl2).1 hv), Ok_dye o2 (o2.lk hl2).1 (o2.vk hv).1 (o2.lk hl2).2 (o2.vk hv).2⟩
section
variable {r r2 : Nat → Int32} {l i : Nat}
theorem qo_5 (o : Ok r) (hi : i < cl (r 9)) : Q_orderOf r (nI i) 5 = nI (cntN (fun m => !sold r m && fitB (ltx r m) (od r i) r) (cl (r 8))) := by
  have c9 := (cl_le o).2
  unfold Q_orderOf
  rw [okB_o o hi, cl_nI (by omega)]
  rfl
theorem sim_c (o : Ok r) (s : Sim l r r2) {m : Nat} (hm : m < cl (r 8)) (hn : m ≠ l) : (!sold r2 m && fitB (ltx r2 m) (od r2 i) r2) = (!sold r m && fitB (ltx r m) (od r i) r) := by
  have c8 := (cl_le o).1
  obtain ⟨a, b, c, -, -⟩ := s
  rw [fitB_ext (x := ltx r m) (y := ltx r2 m) (o := od r i) (o2 := od r2 i) (r := r) (r2 := r2) (fun j hj => b m j (by omega) (by omega) hn) (b m 11 (by omega) (by omega) hn) (fun d hd => c i d) (a 4 (by omega))]
  unfold sold
  rw [b m 13 (by omega) (by omega) hn]
theorem Sim.e9 (s : Sim l r r2) : r2 9 = r 9 := s.1 9 (by omega)
/-- the lot didn't fit, and still doesn't -/
theorem sim_n (o : Ok r) (o2 : Ok r2) (hi : i < cl (r 9)) (s : Sim l r r2) (h1 : fitB (ltx r l) (od r i) r = false) (h2 : fitB (ltx r2 l) (od r i) r2 = false) : Q_orderOf r2 (nI i) 5 = Q_orderOf r (nI i) 5 := by
  rw [← show od r2 i = od r i from funext (s.2.2.1 i)] at h2
  rw [qo_5 o2 (by rw [s.e9]; exact hi), qo_5 o hi, s.1 8 (by omega)]
  congr 1
  refine cnt_ext (fun m hm => ?_)
  by_cases e : m = l
  · subst e
    rw [h1, h2, Bool.and_false, Bool.and_false]
  · exact sim_c o s hm e
/-- it does now -/
theorem sim_y (o : Ok r) (o2 : Ok r2) (hl : l < cl (r 8)) (hs : sold r l = false) (hi : i < cl (r 9)) (s : Sim l r r2) (h1 : fitB (ltx r l) (od r i) r = false) (h2 : fitB (ltx r2 l) (od r i) r2 = true) : Q_orderOf r2 (nI i) 5 = Q_orderOf r (nI i) 5 + 1 := by
  rw [← show od r2 i = od r i from funext (s.2.2.1 i)] at h2
  rw [qo_5 o2 (by rw [s.e9]; exact hi), qo_5 o hi, s.1 8 (by omega), nI_1]
  congr 1
  refine cnt_up hl ?_ ?_ (fun m hm e => sim_c o s hm e)
  · unfold sold at hs ⊢
    rw [s.2.2.2.1, hs, h2]
    rfl
  · show (!sold r l && fitB (ltx r l) (od r i) r) = false
    rw [h1, Bool.and_false]
theorem fl_8n (s : Snd r) (o : Ok r) (hl : l < cl (r 8)) (h : Q_lotOf r (nI l) 8 < 0) : sold r l = false := by
  cases e : sold r l with
  | false => rfl
  | true => exact absurd h ((fl_8 s o hl).mpr e)
theorem qp_all (o : Ok r) (hl : l < cl (r 8)) (hi : i < cl (r 9)) {k : Int32} (hk : -1 ≤ k) : Q_plan r (nI l) (nI i) k = cond (sold r l) (-2) (match plnF l (od r i) r 0 5 with
  | none => -4
  | some (d, p) => cond (decide (k < nI d)) (cond (decide (0 ≤ k)) (nI (p.getD (cl k) 0)) (nI d)) (-4)) := by
  have c8 := (cl_le o).1
  have c9 := (cl_le o).2
  unfold Q_plan
  rw [okB_l o hl, okB_o o hi, decide_eq_true hk, cl_nI (by omega), cl_nI (by omega)]
  rfl
theorem fp_s (o : Ok r) (hl : l < cl (r 8)) (hi : i < cl (r 9)) (hs : sold r l = true) : Q_plan r (nI l) (nI i) (-1) = -2 := by
  rw [qp_all o hl hi (by decide), hs]
  rfl
theorem qp_n (o : Ok r) (hl : l < cl (r 8)) (hi : i < cl (r 9)) (hs : sold r l = false) (h : plnF l (od r i) r 0 5 = none) {k : Int32} (hk : -1 ≤ k) : Q_plan r (nI l) (nI i) k = -4 := by
  rw [qp_all o hl hi hk, hs, h]
  rfl
theorem qp_m (o : Ok r) (hl : l < cl (r 8)) (hi : i < cl (r 9)) (hs : sold r l = false) {d : Nat} {p : List Nat} (h : plnF l (od r i) r 0 5 = some (d, p)) : Q_plan r (nI l) (nI i) (-1) = nI d := by
  have hd := (pln_some h).2.1
  rw [qp_all o hl hi (by decide), hs, h]
  show cond (decide ((-1 : Int32) < nI d)) (nI d) (-4) = nI d
  have e : (-1 : Int32).toInt = -1 := by decide
  rw [decide_eq_true (by rw [i_lt, nI_toInt (by omega), e]; omega)]
  rfl
theorem qp_j (o : Ok r) (hl : l < cl (r 8)) (hi : i < cl (r 9)) (hs : sold r l = false) {d : Nat} {p : List Nat} (h : plnF l (od r i) r 0 5 = some (d, p)) {j : Nat} (hj : j < 5) : Q_plan r (nI l) (nI i) (nI j) = cond (decide (j < d)) (nI (p.getD j 0)) (-4) := by
  have hd := (pln_some h).2.1
  have e : (-1 : Int32).toInt = -1 := by decide
  rw [qp_all o hl hi (by rw [i_le, nI_toInt (by omega), e]; omega), hs, h]
  show cond (decide (nI j < nI d)) (cond (decide (0 ≤ nI j)) (nI (p.getD (cl (nI j)) 0)) (nI d)) (-4) = _
  rw [decide_eq_true (nI_pos' (by omega)), cl_nI (by omega)]
  congr 1
  exact decide_eq_decide.mpr (nI_ltI (by omega) (by omega))
theorem res_c (x : Option (Nat × List Nat)) : x = none ∨ ∃ d p, x = some (d, p) := by
  cases x with
  | none => exact Or.inl rfl
  | some v => exact Or.inr ⟨v.1, v.2, rfl⟩
theorem fp_4 (o : Ok r) (hl : l < cl (r 8)) (hi : i < cl (r 9)) (hs : sold r l = false) : ¬ 4 < Q_plan r (nI l) (nI i) (-1) := by
  rcases res_c (plnF l (od r i) r 0 5) with h | ⟨d, p, h⟩
  · rw [qp_n o hl hi hs h (by decide)]
    decide
  · exact ni_nlt (b := 4) (qp_m o hl hi hs h) (by have := (pln_some h).2.1; omega) (by omega)
theorem fp_m (o : Ok r) (hl : l < cl (r 8)) (hi : i < cl (r 9)) (hs : sold r l = false) : ¬ Q_plan r (nI l) (nI i) (-1) = -1 := by
  rcases res_c (plnF l (od r i) r 0 5) with h | ⟨d, p, h⟩
  · rw [qp_n o hl hi hs h (by decide)]
    decide
  · rw [qp_m o hl hi hs h]
    have hd := (pln_some h).2.1
    intro z
    have e : (-1 : Int32).toInt = -1 := by decide
    have q := nI_toInt (n := d) (by omega)
    rw [z, e] at q
    omega
theorem fp_g (o : Ok r) (hl : l < cl (r 8)) (hi : i < cl (r 9)) (hs : sold r l = false) {j : Nat} (hj : j < 4) : bI (decide (¬ Q_plan r (nI l) (nI i) (-1) ≤ nI j)) = bI (decide (¬ Q_plan r (nI l) (nI i) (nI j) < 0)) := by
  congr 1
  refine decide_eq_decide.mpr ?_
  have e4 : (-4 : Int32).toInt = -4 := by decide
  have e1 : (-1 : Int32).toInt = -1 := by decide
  rcases res_c (plnF l (od r i) r 0 5) with h | ⟨d, p, h⟩
  · rw [qp_n o hl hi hs h (by decide), qp_n o hl hi hs h (by rw [i_le, nI_toInt (by omega), e1]; omega), i_le, i_lt, nI_toInt (by omega), e4, z_toInt]
    omega
  · have hd := (pln_some h).2.1
    have c7 := cl_le7 o
    rw [qp_m o hl hi hs h, qp_j o hl hi hs h (show j < 5 by omega), i_le, nI_toInt (by omega), nI_toInt (by omega)]
    by_cases z : j < d
    · have hp := (rch_yes (pln_some h).2.2.1).1 j z
      rw [decide_eq_true z]
      show ¬ ((d : Nat) : Int) ≤ ((j : Nat) : Int) ↔ ¬ nI (p.getD j 0) < 0
      rw [i_lt, nI_toInt (by omega), z_toInt]
      omega
    · rw [decide_eq_false z]
      show ¬ ((d : Nat) : Int) ≤ ((j : Nat) : Int) ↔ ¬ (-4 : Int32) < 0
      rw [i_lt, e4, z_toInt]
      omega
theorem fp_e (o : Ok r) (hl : l < cl (r 8)) (hi : i < cl (r 9)) (hs : sold r l = false) : Q_plan r (nI l) (nI i) 4 = -4 := by
  rcases res_c (plnF l (od r i) r 0 5) with h | ⟨d, p, h⟩
  · exact qp_n o hl hi hs h (by decide)
  · have hd := (pln_some h).2.1
    have q := qp_j o hl hi hs h (show 4 < 5 by omega)
    rw [decide_eq_false (show ¬ 4 < d by omega)] at q
    exact q
/-- the lot taken down, if it hung -/
def TkD (l : Nat) (r r2 : Nat → Int32) : Prop := (∀ p, p < 10 → r2 p = r p) ∧ sold r2 l = false ∧ hangs r2 l = false ∧ ∀ i, i < cl (r 9) → plnF l (od r2 i) r2 0 5 = plnF l (od r i) r 0 5
theorem tkd_self (hs : sold r l = false) (hh : hangs r l = false) : TkD l r r := ⟨fun _ _ => rfl, hs, hh, fun _ _ => rfl⟩
theorem tkd_take (o : Ok r) (hl : l < cl (r 8)) (hs : sold r l = false) : TkD l r (upd r (43 + 15 * l + 10) 0) := by
  have l20 := (o.lk hl).1
  have c9 := (cl_le o).2
  refine ⟨fun p hp => upd_n (by omega), ?_, ?_, fun i hi => ?_⟩
  · unfold sold at hs ⊢
    rw [show ltx (upd r (43 + 15 * l + 10) 0) l 13 = ltx r l 13 from upd_n (by omega)]
    exact hs
  · unfold hangs
    rw [show ltx (upd r (43 + 15 * l + 10) 0) l 10 = 0 from upd_s]
    rfl
  · exact plnF_ext (fun d hd => upd_n (by omega)) o hl ⟨fun p hp => upd_n (by omega), fun v j hv hj => upd_n (by omega), fun j hj hn => upd_n (by omega)⟩
theorem take_ok (o : Ok r) (hl : l < cl (r 8)) (hh : hangs r l = true) : ∃ x, F_take r (nI l) = (nI x, upd r (43 + 15 * l + 10) 0) ∧ x ≤ 20 := by
  have c8 := (cl_le o).1
  refine ⟨rackN (upd r (43 + 15 * l + 10) 0) (ltx r l 0), ?_, ?_⟩
  · unfold F_take
    rw [okB_l o hl, cl_nI (by omega), hh]
    rfl
  · unfold rackN
    rw [show upd r (43 + 15 * l + 10) 0 8 = r 8 from upd_n (by omega)]
    exact Nat.le_trans (cnt_le _) c8
theorem dip_ok (o : Ok r) (hl : l < cl (r 8)) {v : Nat} (hv : v < cl (r 7)) (hs : sold r l = false) (hh : hangs r l = false) (hg : 0 < vt r v 2) : F_dip r (nI l) (nI v) = (tkR r l v, dyeR r l v) ∧ ¬ tkR r l v < 0 := by
  have c8 := (cl_le o).1
  have c7 := cl_le7 o
  obtain ⟨l20, hlo⟩ := o.lk hl
  obtain ⟨v6, hvo⟩ := o.vk hv
  obtain ⟨⟨d, hd, ed⟩, v1, v2, v3⟩ := id hvo
  obtain ⟨c1, c2⟩ := o.cap1 v6 hd ed
  obtain ⟨t1, t2⟩ := tak_b (dok_of o.set hvo hlo) v3 (by omega)
  refine ⟨?_, n_neg t1⟩
  unfold F_dip
  rw [okB_l o hl, okB_v o hv, cl_nI (by omega), cl_nI (by omega), hs, hh, decide_eq_false (show ¬ vt r v 2 ≤ 0 by rw [i_le]; rw [i_lt] at hg; omega)]
  rfl
/-- what the plan of r says of the dips from r2 on -/
theorem pl_data (o : Ok r) (o2 : Ok r2) (hl : l < cl (r 8)) (hi : i < cl (r 9)) (hs : sold r l = false) (t : TkD l r r2) : (¬ Q_plan r (nI l) (nI i) (-1) ≤ 1 → fitB (ltx r2 l) (od r2 i) r2 = false ∧ ∀ w, w < cl (r2 7) → 0 < vt r2 w 2 → fitB (ltx (dyeR r2 l w) l) (od r2 i) (dyeR r2 l w) = false) ∧ ∃ (d : Nat) (f : Nat → Nat), d ≤ 4 ∧ (∀ k, k ≤ d → (Q_plan r (nI l) (nI i) (-1) ≤ nI k ↔ k = d)) ∧ (∀ k, k < d → f k < cl (r2 7)) ∧ (∀ j, j < d → Q_plan r (nI l) (nI i) (nI j) = nI (f j)) ∧ (∃ rd, goF l f r2 d = some rd) ∧ (∀ k rk, k < d → goF l f r2 k = some rk → fitB (ltx rk l) (od r2 i) rk = false) ∧ (¬ Q_plan r (nI l) (nI i) (-1) < 1 → 1 ≤ d ∧ ∀ rd, goF l f r2 d = some rd → fitB (ltx rd l) (od r2 i) rd = true) := by
  have e4 : (-4 : Int32).toInt = -4 := by decide
  have e1 : (1 : Int32).toInt = 1 := by decide
  obtain ⟨t1, t2, t3, t4⟩ := t
  have hp := t4 i hi
  rcases res_c (plnF l (od r i) r 0 5) with h | ⟨d, p, h⟩
  · have q := qp_n o hl hi hs h (k := -1) (by decide)
    rw [q]
    refine ⟨fun z => absurd (by decide) z, 0, fun _ => 0, by omega, fun k hk => ?_, fun k hk => absurd hk (by omega), fun k hk => absurd hk (by omega), ⟨r2, rfl⟩, fun k rk hk => absurd hk (by omega), fun z => absurd (by decide) z⟩
    rw [i_le, e4, nI_toInt (by omega)]
    omega
  · have q := qp_m o hl hi hs h
    rw [h] at hp
    obtain ⟨-, hd, hy, hno⟩ := pln_some hp
    obtain ⟨a, rd, b, c⟩ := rch_yes hy
    rw [q]
    refine ⟨fun z => ?_, d, fun j => p.getD j 0, by omega, fun k hk => ?_, a, fun j hj => ?_, ⟨rd, b⟩, fun k rk hk g => rch_no (hno k (by omega) hk) (fun j hj => a j (by omega)) g, fun z => ?_⟩
    · rw [i_le, nI_toInt (by omega), e1] at z
      refine ⟨rch_no (k := 0) (f := fun _ => 0) (hno 0 (by omega) (by omega)) (fun j hj => absurd hj (by omega)) rfl, fun w hw hg => ?_⟩
      refine rch_no (k := 1) (f := fun _ => w) (hno 1 (by omega) (by omega)) (fun j hj => hw) ?_
      show cond (decide (0 < vt r2 w 2)) (some (dyeR r2 l w)) none = _
      rw [decide_eq_true hg]
      rfl
    · rw [i_le, nI_toInt (by omega), nI_toInt (by omega)]
      omega
    · rw [qp_j o hl hi hs h (show j < 5 by omega), decide_eq_true hj]
      rfl
    · rw [i_lt, nI_toInt (by omega), e1] at z
      refine ⟨by omega, fun r3 h3 => ?_⟩
      rw [b] at h3
      cases h3
      exact c
theorem Sz.of (z : Sz r) (h : ∀ p, p < 10 → r2 p = r p) : Sz r2 := by
  unfold Sz
  rw [h 7 (by omega), h 8 (by omega), h 9 (by omega)]
  exact z
theorem fit_6 (o : Ok r) (hl : l < cl (r 8)) {x : Nat → Int32} (h : fitB (ltx r l) x r = true) : Q_lotOf r (nI l) 6 = 0 := (ql_all o hl).2.2.2.2.2.1.trans (fitB_i.mp h).1
end
