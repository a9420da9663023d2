section
variable {r r2 : Nat → Int32} {l v : Nat}
theorem dip_no (o : Ok r) (hl : l < cl (r 8)) (hv : v < cl (r 7)) (h : sold r l = true ∨ hangs r l = true) : F_dip r (nI l) (nI v) = (-2, r) := by
  have c8 := (cl_le o).1
  have c7 := cl_le7 o
  unfold F_dip
  rw [okB_l o hl, okB_v o hv, cl_nI (by omega), cl_nI (by omega)]
  rcases h with h | h
  · rw [h]
    rfl
  · rw [h]
    cases sold r l <;> rfl
theorem rin_no (o : Ok r) (hl : l < cl (r 8)) (h : sold r l = true ∨ hangs r l = true) : F_rinse r (nI l) = (-2, r) := by
  have c8 := (cl_le o).1
  unfold F_rinse
  rw [okB_l o hl, cl_nI (by omega)]
  rcases h with h | h
  · rw [h]
    rfl
  · rw [h]
    cases sold r l <;> rfl
theorem bz_r {x : Int32} (h : bz x) : rngB 0 1 x = true := by rcases h with rfl | rfl <;> decide
theorem hang_no (o : Ok r) (hl : l < cl (r 8)) (h : hangs r l = true) : F_hang r (nI l) (Q_lotOf r (nI l) 0) = (-2, r) := by
  have c8 := (cl_le o).1
  rw [(ql_all o hl).1]
  unfold F_hang
  rw [okB_l o hl, cl_nI (by omega), h, bz_r (o.lk hl).2.1]
  cases sold r l <;> rfl
theorem take_no (o : Ok r) (hl : l < cl (r 8)) (h : hangs r l = false) : F_take r (nI l) = (-2, r) := by
  have c8 := (cl_le o).1
  unfold F_take
  rw [okB_l o hl, cl_nI (by omega), h]
  rfl
theorem qt_all (o : Ok r) (hl : l < cl (r 8)) (hv : v < cl (r 7)) {t : Nat} (h1 : 1 ≤ t) (h2 : t ≤ 30) : Q_takes r (nI l) (nI v) (nI t) = cond (sold r l) (-2) (vt r v 2 - takL (r 0) (vt r v 2) (vt r v 1) (ltx r l) t) := by
  have c8 := (cl_le o).1
  have c7 := cl_le7 o
  have e1 : (1 : Int32).toInt = 1 := by decide
  have e30 : (30 : Int32).toInt = 30 := by decide
  unfold Q_takes
  rw [okB_l o hl, okB_v o hv, rngB_t (by rw [i_le, nI_toInt (by omega), e1]; omega) (by rw [i_le, nI_toInt (by omega), e30]; omega), cl_nI (by omega), cl_nI (by omega), cl_nI (by omega)]
  rfl
theorem takL_b (o : Ok r) (hl : l < cl (r 8)) (hv : v < cl (r 7)) : ∀ {t : Nat}, 0 ≤ (takL (r 0) (vt r v 2) (vt r v 1) (ltx r l) t).toInt ∧ (takL (r 0) (vt r v 2) (vt r v 1) (ltx r l) t).toInt ≤ (vt r v 2).toInt
  | 0 => ⟨(o.vk hv).2.2.2.2, Int.le_refl _⟩
  | t + 1 => by
    obtain ⟨a, b⟩ := takL_b o hl hv (t := t)
    obtain ⟨⟨d, hd, ed⟩, v1, v2, v3⟩ := (o.vk hv).2
    obtain ⟨c1, c2⟩ := o.cap1 (o.vk hv).1 hd ed
    obtain ⟨t1, t2⟩ := tak_b (dok_of o.set (o.vk hv).2 (o.lk hl).2) a (by omega)
    show 0 ≤ (takL (r 0) (vt r v 2) (vt r v 1) (ltx r l) t - takF (r 0) (ltx r l) (takL (r 0) (vt r v 2) (vt r v 1) (ltx r l) t) (vt r v 1)).toInt ∧ (takL (r 0) (vt r v 2) (vt r v 1) (ltx r l) t - takF (r 0) (ltx r l) (takL (r 0) (vt r v 2) (vt r v 1) (ltx r l) t) (vt r v 1)).toInt ≤ _
    rw [i_sub (by omega) (by omega)]
    omega
theorem ft_s (o : Ok r) (hl : l < cl (r 8)) (hv : v < cl (r 7)) {t : Nat} (h1 : 1 ≤ t) (h2 : t ≤ 30) (hs : sold r l = true) : Q_takes r (nI l) (nI v) (nI t) = -2 := by
  rw [qt_all o hl hv h1 h2, hs]
  rfl
theorem ft_u (o : Ok r) (hl : l < cl (r 8)) (hv : v < cl (r 7)) {t : Nat} (h1 : 1 ≤ t) (h2 : t ≤ 30) (hs : sold r l = false) : Q_takes r (nI l) (nI v) (nI t) = vt r v 2 - takL (r 0) (vt r v 2) (vt r v 1) (ltx r l) t := by
  rw [qt_all o hl hv h1 h2, hs]
  rfl
theorem ft_g (o : Ok r) (hl : l < cl (r 8)) (hv : v < cl (r 7)) {t : Nat} (h1 : 1 ≤ t) (h2 : t ≤ 30) (hs : sold r l = false) : ¬ Q_takes r (nI l) (nI v) (nI t) < 0 := by
  rw [ft_u o hl hv h1 h2 hs]
  obtain ⟨a, b⟩ := takL_b o hl hv (t := t)
  obtain ⟨⟨d, hd, ed⟩, -, -, c⟩ := (o.vk hv).2
  obtain ⟨c1, c2⟩ := o.cap1 (o.vk hv).1 hd ed
  exact n_neg (by rw [i_sub (by omega) (by omega)]; omega)
theorem takF_0 {r0 li : Int32} {x : Nat → Int32} : takF r0 x 0 li = 0 := by
  unfold takF
  rw [show (0 : Int32).toInt64 = 0 by decide, Int64.zero_mul]
  rw [Int64.zero_div]
  rfl
theorem takL_0 {r0 g li : Int32} {x : Nat → Int32} {k : Nat} (h : takL r0 g li x k = 0) : ∀ {j : Nat}, takL r0 g li x (k + j) = 0
  | 0 => h
  | j + 1 => by
    have ih := takL_0 h (j := j)
    show takL r0 g li x (k + j) - takF r0 x (takL r0 g li x (k + j)) li = 0
    rw [ih, takF_0]
    exact Int32.sub_self 0
/-- the row behind k dips of the lot into the vat -/
def Tk (l v : Nat) (r rk : Nat → Int32) (k : Nat) : Prop := Sim l r rk ∧ vt rk v 2 = takL (r 0) (vt r v 2) (vt r v 1) (ltx r l) k ∧ vt rk v 1 = vt r v 1 ∧ ltx rk l 0 = ltx r l 0 ∧ ltx rk l 1 = ltx r l 1 ∧ Q_lotOf rk (nI l) 3 + Q_lotOf rk (nI l) 4 = Q_lotOf r (nI l) 3 + Q_lotOf r (nI l) 4 + (vt r v 2 - vt rk v 2)
theorem Tk_0 : Tk l v r r 0 := by
  refine ⟨Sim.rf, rfl, rfl, rfl, rfl, ?_⟩
  rw [Int32.sub_self, Int32.add_zero]
theorem sumI_4 {g : Nat → Int32} : sumI g 4 = 0 + g 0 + g 1 + g 2 + g 3 := rfl
/-- a dip brings the grains of the vat into the lot -/
theorem dye_34 (o : Ok r) (hl : l < cl (r 8)) (hv : v < cl (r 7)) : Q_lotOf (dyeR r l v) (nI l) 3 + Q_lotOf (dyeR r l v) (nI l) 4 = Q_lotOf r (nI l) 3 + Q_lotOf r (nI l) 4 + tkR r l v := by
  obtain ⟨v6, ⟨d, hd, ed⟩, -⟩ := o.vk hv
  have od := Ok_dye o (o.lk hl).1 v6 (o.lk hl).2 (o.vk hv).2
  have hl2 : l < cl (dyeR r l v 8) := by
    rw [dye_lo (by omega) (by omega)]
    exact hl
  have ec : cl (vt r v 0) = d := by rw [ed, cl_nI (by omega)]
  obtain ⟨-, -, a3, a4, -⟩ := ql_all od hl2
  obtain ⟨-, -, b3, b4, -⟩ := ql_all o hl
  rw [a3, a4, b3, b4]
  have gl := soakG_l (x := ltx r l) (r := r) (t := tkR r l v) hd
  have x2 : ltx (dyeR r l v) l (2 + d) = ltx r l (2 + d) + (tkR r l v - tkR r l v * r 5 / 100) := by
    rw [dye_ll (by omega), soakF_o (by omega) (by omega), ec, gl.2]
  have x6 : ltx (dyeR r l v) l (6 + d) = ltx r l (6 + d) + tkR r l v * r 5 / 100 := by
    rw [dye_ll (by omega), soakF_o (by omega) (by omega), ec, gl.1]
  have xo : ∀ j, j < 10 → j ≠ 2 + d → j ≠ 6 + d → ltx (dyeR r l v) l j = ltx r l j := fun j h0 h3 h4 => by
    rw [dye_ll (by omega), soakF_o (by omega) (by omega), ec, soakG_m (by omega) h4 h3]
  rw [sumI_4, sumI_4, sumI_4, sumI_4]
  generalize tkR r l v * r 5 / 100 = u at x2 x6
  generalize tkR r l v = t at x2 x6 ⊢
  rcases (show d = 0 ∨ d = 1 ∨ d = 2 ∨ d = 3 by omega) with rfl | rfl | rfl | rfl
  · rw [x2, x6, xo (2 + 1) (by omega) (by omega) (by omega), xo (2 + 2) (by omega) (by omega) (by omega), xo (2 + 3) (by omega) (by omega) (by omega), xo (6 + 1) (by omega) (by omega) (by omega), xo (6 + 2) (by omega) (by omega) (by omega), xo (6 + 3) (by omega) (by omega) (by omega)]
    grind
  · rw [x2, x6, xo (2 + 0) (by omega) (by omega) (by omega), xo (2 + 2) (by omega) (by omega) (by omega), xo (2 + 3) (by omega) (by omega) (by omega), xo (6 + 0) (by omega) (by omega) (by omega), xo (6 + 2) (by omega) (by omega) (by omega), xo (6 + 3) (by omega) (by omega) (by omega)]
    grind
  · rw [x2, x6, xo (2 + 0) (by omega) (by omega) (by omega), xo (2 + 1) (by omega) (by omega) (by omega), xo (2 + 3) (by omega) (by omega) (by omega), xo (6 + 0) (by omega) (by omega) (by omega), xo (6 + 1) (by omega) (by omega) (by omega), xo (6 + 3) (by omega) (by omega) (by omega)]
    grind
  · rw [x2, x6, xo (2 + 0) (by omega) (by omega) (by omega), xo (2 + 1) (by omega) (by omega) (by omega), xo (2 + 2) (by omega) (by omega) (by omega), xo (6 + 0) (by omega) (by omega) (by omega), xo (6 + 1) (by omega) (by omega) (by omega), xo (6 + 2) (by omega) (by omega) (by omega)]
    grind
theorem Tk.tk {rk : Nat → Int32} {k : Nat} (t : Tk l v r rk k) : tkR rk l v = takF (r 0) (ltx r l) (takL (r 0) (vt r v 2) (vt r v 1) (ltx r l) k) (vt r v 1) := by
  obtain ⟨a, b, c, d, e, -⟩ := t
  unfold tkR
  rw [a.1 0 (by omega), b, c]
  exact takF_ext d e
theorem dye_v2 {r : Nat → Int32} {l v : Nat} (hv : v < 6) : vt (dyeR r l v) v 2 = vt r v 2 - tkR r l v ∧ vt (dyeR r l v) v 1 = vt r v 1 := by
  rw [dye_vv hv (by omega), dye_vv hv (by omega)]
  exact ⟨(upd_n (by omega)).trans upd_s, (upd_n (by omega)).trans (upd_n (by omega))⟩
theorem Tk_s {rk : Nat → Int32} {k : Nat} (o : Ok rk) (hl : l < cl (rk 8)) (hv : v < cl (rk 7)) (t : Tk l v r rk k) : Tk l v r (dyeR rk l v) (k + 1) := by
  have et := t.tk
  obtain ⟨a, b, c, d, e, f⟩ := t
  obtain ⟨l20, -⟩ := o.lk hl
  obtain ⟨v6, -⟩ := o.vk hv
  obtain ⟨y2, y1⟩ := dye_v2 (r := rk) (l := l) v6
  have dd := o.dy hv
  refine ⟨a.tr (Sim_dye o l20 hv), ?_, y1.trans c, ?_, ?_, ?_⟩
  · rw [y2, et, b]
    rfl
  · rw [dye_ll (by omega), soakF_o (by omega) (by omega), soakG_m (by omega) (by omega) (by omega)]
    exact d
  · rw [dye_ll (by omega), soakF_o (by omega) (by omega), soakG_m (by omega) (by omega) (by omega)]
    exact e
  · rw [dye_34 o hl hv, f, y2]
    generalize Q_lotOf r (nI l) 3 + Q_lotOf r (nI l) 4 = p
    generalize tkR rk l v = q
    grind
/-- the loop's end: all dips done, or nothing left -/
theorem Tk_end {rk : Nat → Int32} {k t : Nat} (o : Ok r) (hl : l < cl (r 8)) (hv : v < cl (r 7)) (h1 : 1 ≤ t) (h2 : t ≤ 30) (hs : sold r l = false) (hk : k ≤ t) (q : Tk l v r rk k) (h : k = t ∨ vt rk v 2 ≤ 0) : Q_takes r (nI l) (nI v) (nI t) = vt r v 2 - vt rk v 2 := by
  rw [ft_u o hl hv h1 h2 hs, q.2.1]
  rcases h with rfl | h
  · rfl
  · have e : takL (r 0) (vt r v 2) (vt r v 1) (ltx r l) k = 0 := by
      rw [q.2.1] at h
      obtain ⟨a, b⟩ := takL_b o hl hv (t := k)
      rw [i_le, z_toInt] at h
      rw [← Int32.toInt_inj, z_toInt]
      omega
    have z := takL_0 e (j := t - k)
    rw [show k + (t - k) = t by omega] at z
    rw [e, z]
theorem Tk_sum {rk : Nat → Int32} (v6 : v < 6) : (vt r v 2 - vt rk v 2) + tkR rk l v = vt r v 2 - vt (dyeR rk l v) v 2 := by
  rw [(dye_v2 (r := rk) (l := l) v6).1]
  generalize tkR rk l v = q
  grind
end
