section
variable {n l v p1 p2 : Nat} {g r : Nat → Int32}
theorem w_r {a b : Int32} : F_work (cl (nI 114)) r a b = F_rinse r a := rfl
theorem w_e {a b : Int32} : F_work (cl (nI 101)) r a b = F_drain r a := rfl
theorem w_d {a b : Int32} : F_work (cl (nI 100)) r a b = F_dip r a b := rfl
/-- the empty text -/
theorem pl_0 : plF 0 g 60 r 0 0 = (none, r, 0) := plF_end (Nat.lt_irrefl 0)
/-- the first order is not of the form -/
theorem pl_b (hn : 0 < n) (h : rdW n g 0 = none) : plF n g 60 r 0 0 = (some (0, 1, 0), r, 0) := plF_bad (f := 59) hn h
/-- the first order is not possible -/
theorem pl_1 {x : Int32} (hn : 0 < n) (h : rdW n g 0 = some (nI 114, nI l, 0, p1)) (e : F_rinse r (nI l) = (x, r)) (hx : x < 0) : plF n g 60 r 0 0 = (some (0, 2, x), r, 0) := by
  have q := plF_no (f := 59) (k := 0) hn h (by rw [w_r, e]; exact hx)
  rw [w_r, e] at q
  exact q
/-- a rinse and a drain -/
theorem pl_2 (hn : 0 < n) (h : rdW n g 0 = some (nI 114, nI l, 0, p1)) (h2 : p1 < n) (h3 : rdW n g p1 = some (nI 101, nI v, 0, n)) (e1 : ¬ (F_rinse r (nI l)).1 < 0) (e2 : ¬ (F_drain (F_rinse r (nI l)).2 (nI v)).1 < 0) : plF n g 60 r 0 0 = (none, (F_drain (F_rinse r (nI l)).2 (nI v)).2, 2) := by
  have q := plF_go (f := 59) (k := 0) hn h (by rw [w_r]; exact e1)
  rw [w_r] at q
  have q2 := plF_go (f := 58) (k := 0 + 1) h2 h3 (by rw [w_e]; exact e2)
  rw [w_e] at q2
  exact q.trans (q2.trans (plF_end (Nat.lt_irrefl n)))
/-- a rinse, a drain, and a dip that is not possible -/
theorem pl_3 {x : Int32} (hn : 0 < n) (h : rdW n g 0 = some (nI 114, nI l, 0, p1)) (h2 : p1 < n) (h3 : rdW n g p1 = some (nI 101, nI v, 0, p2)) (h4 : p2 < n) (h5 : rdW n g p2 = some (nI 100, nI l, nI v, n)) (e1 : ¬ (F_rinse r (nI l)).1 < 0) (e2 : ¬ (F_drain (F_rinse r (nI l)).2 (nI v)).1 < 0) (e3 : F_dip (F_drain (F_rinse r (nI l)).2 (nI v)).2 (nI l) (nI v) = (x, (F_drain (F_rinse r (nI l)).2 (nI v)).2)) (hx : x < 0) : plF n g 60 r 0 0 = (some (p2, 2, x), (F_drain (F_rinse r (nI l)).2 (nI v)).2, 2) := by
  have q := plF_go (f := 59) (k := 0) hn h (by rw [w_r]; exact e1)
  rw [w_r] at q
  have q2 := plF_go (f := 58) (k := 0 + 1) h2 h3 (by rw [w_e]; exact e2)
  rw [w_e] at q2
  have q3 := plF_no (f := 57) (k := 0 + 1 + 1) h4 h5 (by rw [w_d, e3]; exact hx)
  rw [w_d, e3] at q3
  exact q.trans (q2.trans q3)
/-- a rinse, and what is not of the form -/
theorem pl_5 (hn : 0 < n) (h : rdW n g 0 = some (nI 114, nI l, 0, p1)) (h2 : p1 < n) (h3 : rdW n g p1 = none) (e1 : ¬ (F_rinse r (nI l)).1 < 0) : plF n g 60 r 0 0 = (some (p1, 1, 0), (F_rinse r (nI l)).2, 1) := by
  have q := plF_go (f := 59) (k := 0) hn h (by rw [w_r]; exact e1)
  rw [w_r] at q
  exact q.trans (plF_bad (f := 58) h2 h3)
theorem fltN_n {R : Nat → Int32} {k : Nat} (h : plF n g 60 r 0 0 = (none, R, k)) : F_fault n g r 0 = -4 ∧ F_play n g r = (nI k, R) := by
  unfold F_fault F_play
  rw [h]
  exact ⟨rfl, rfl⟩
theorem flt_2 {R : Nat → Int32} {k p : Nat} {x : Int32} (h : plF n g 60 r 0 0 = (some (p, 2, x), R, k)) : F_fault n g r 0 = nI p ∧ F_fault n g r 1 = 2 ∧ F_fault n g r 2 = x ∧ F_play n g r = (-2, r) := by
  unfold F_fault F_play
  rw [h]
  exact ⟨rfl, rfl, rfl, rfl⟩
theorem flt_1 {R : Nat → Int32} {k p : Nat} (h : plF n g 60 r 0 0 = (some (p, 1, 0), R, k)) : F_fault n g r 0 = nI p ∧ F_fault n g r 1 = 1 ∧ F_fault n g r 2 = -4 := by
  unfold F_fault
  rw [h]
  exact ⟨rfl, rfl, rfl⟩
end
section
variable {r : Nat → Int32} {l v : Nat}
/-- a lot in the house that hangs on no rack -/
def Fre (l : Nat) (r : Nat → Int32) : Prop := l < cl (r 8) ∧ sold r l = false ∧ hangs r l = false
theorem rin_y (o : Ok r) (h : Fre l r) : F_rinse r (nI l) = (sumI (fun d => ltx r l (6 + d)) 4, rinR r l 4) ∧ ¬ (F_rinse r (nI l)).1 < 0 := by
  obtain ⟨hl, hs, hh⟩ := h
  have c8 := (cl_le o).1
  have e : F_rinse r (nI l) = (sumI (fun d => ltx r l (6 + d)) 4, rinR r l 4) := by
    unfold F_rinse
    rw [okB_l o hl, cl_nI (by omega), hs, hh]
    rfl
  rw [e]
  exact ⟨rfl, n_neg (sum4_ge (fun d hd => (o.gr (o.lk hl).1 hd).2)).1⟩
theorem drn_y (o : Ok r) (hv : v < cl (r 7)) : ¬ (F_drain r (nI v)).1 < 0 ∧ (∀ p, p < 15 → (F_drain r (nI v)).2 p = r p) ∧ (∀ p, 43 ≤ p → (F_drain r (nI v)).2 p = r p) ∧ vt (F_drain r (nI v)).2 v 2 = 0 ∧ vt (F_drain r (nI v)).2 v 3 = 0 := by
  have c7 := cl_le7 o
  obtain ⟨v6, ⟨d, hd, ed⟩, -, -, v3⟩ := o.vk hv
  have e : F_drain r (nI v) = (vt r v 2, upd (upd (upd r (15 + d) (r (15 + d) + vt r v 2)) (19 + 4 * v + 2) 0) (19 + 4 * v + 3) 0) := by
    unfold F_drain
    rw [okB_v o hv, cl_nI (by omega), ed, cl_nI (by omega)]
    rfl
  rw [e]
  refine ⟨n_neg v3, fun p hp => ?_, fun p hp => ?_, ?_, upd_s⟩
  · exact (upd_n (by omega)).trans ((upd_n (by omega)).trans (upd_n (by omega)))
  · exact (upd_n (by omega)).trans ((upd_n (by omega)).trans (upd_n (by omega)))
  · exact (upd_n (by omega)).trans upd_s
theorem rin_k (hl : l < 20) : (∀ p, p < 15 → rinR r l 4 p = r p) ∧ ltx (rinR r l 4) l 13 = ltx r l 13 ∧ ltx (rinR r l 4) l 10 = ltx r l 10 ∧ ∀ d, d < 4 → ltx (rinR r l 4) l (6 + d) = 0 :=
  ⟨fun p hp => rin_o (by omega) hl (fun m hm => by omega), rin_o (by omega) hl (fun m hm => by omega), rin_o (by omega) hl (fun m hm => by omega), fun d hd => (rin_15 (by omega) hl hd).2⟩
/-- rinsed and drained -/
noncomputable def rd2 (r : Nat → Int32) (l v : Nat) : Nat → Int32 := (F_drain (F_rinse r (nI l)).2 (nI v)).2
theorem Ok_rd2 (o : Ok r) : Ok (rd2 r l v) := Ok_drain (Ok_rinse o)
theorem rd2_all (o : Ok r) (h : Fre l r) (hv : v < cl (r 7)) : ¬ (F_drain (F_rinse r (nI l)).2 (nI v)).1 < 0 ∧ (∀ p, p < 10 → rd2 r l v p = r p) ∧ Fre l (rd2 r l v) ∧ vt (rd2 r l v) v 2 = 0 ∧ vt (rd2 r l v) v 3 = 0 ∧ ∀ d, d < 4 → ltx (rd2 r l v) l (6 + d) = 0 := by
  have o1 : Ok (rinR r l 4) := by
    have q := Ok_rinse (w := nI l) o
    rw [(rin_y o h).1] at q
    exact q
  obtain ⟨hl, hs, hh⟩ := h
  have l20 := (o.lk hl).1
  obtain ⟨a, b, c, d⟩ := rin_k (r := r) l20
  have hv1 : v < cl (rinR r l 4 7) := by
    rw [a 7 (by omega)]
    exact hv
  obtain ⟨e1, e2, e3, e4, e5⟩ := drn_y o1 hv1
  unfold rd2
  rw [(rin_y o ⟨hl, hs, hh⟩).1]
  refine ⟨e1, fun p hp => (e2 p (by omega)).trans (a p (by omega)), ⟨?_, ?_, ?_⟩, e4, e5, fun i hi => (e3 _ (by omega)).trans (d i hi)⟩
  · show l < cl ((F_drain (rinR r l 4) (nI v)).2 8)
    rw [e2 8 (by omega), a 8 (by omega)]
    exact hl
  · unfold sold at hs ⊢
    show decide (¬ ltx (F_drain (rinR r l 4) (nI v)).2 l 13 = 0) = false
    rw [show ltx (F_drain (rinR r l 4) (nI v)).2 l 13 = ltx (rinR r l 4) l 13 from e3 _ (by omega), b]
    exact hs
  · unfold hangs at hh ⊢
    show decide (¬ ltx (F_drain (rinR r l 4) (nI v)).2 l 10 = 0) = false
    rw [show ltx (F_drain (rinR r l 4) (nI v)).2 l 10 = ltx (rinR r l 4) l 10 from e3 _ (by omega), c]
    exact hh
theorem dip_z (o : Ok r) (h : Fre l r) (hv : v < cl (r 7)) (hg : vt r v 2 = 0) : F_dip r (nI l) (nI v) = (-2, r) := by
  obtain ⟨hl, hs, hh⟩ := h
  have c8 := (cl_le o).1
  have c7 := cl_le7 o
  unfold F_dip
  rw [okB_l o hl, okB_v o hv, cl_nI (by omega), cl_nI (by omega), hs, hh, hg]
  rfl
theorem rd2_4 (o : Ok r) (h : Fre l r) (hv : v < cl (r 7)) : Q_lotOf (rd2 r l v) (nI l) 4 = 0 := by
  obtain ⟨-, -, f, -, -, z⟩ := rd2_all o h hv
  rw [(ql_all (Ok_rd2 o) f.1).2.2.2.1, sumI_4]
  show 0 + ltx (rd2 r l v) l (6 + 0) + ltx (rd2 r l v) l (6 + 1) + ltx (rd2 r l v) l (6 + 2) + ltx (rd2 r l v) l (6 + 3) = 0
  rw [z 0 (by omega), z 1 (by omega), z 2 (by omega), z 3 (by omega)]
  rfl
end
section
variable {n l v : Nat} {g r : Nat → Int32}
theorem tx_e (t : Tx n g []) : F_fault n g r 0 = -4 ∧ F_play n g r = (nI 0, r) := by
  have e : n = 0 := t.1
  subst e
  exact fltN_n pl_0
theorem tx_1n (t : Tx n g (L1 l v)) (o : Ok r) (hl : l < cl (r 8)) (hv : v < cl (r 7)) (h : sold r l = true ∨ hangs r l = true) : F_fault n g r 0 = 0 ∧ F_fault n g r 1 = 2 ∧ F_fault n g r 2 = -2 ∧ F_play n g r = (-2, r) := by
  have c7 := cl_le7 o
  obtain ⟨a, b, c⟩ := rd_1 t (o.lk hl).1 (by omega)
  exact flt_2 (pl_1 (by omega) b (rin_no o hl h) (by decide))
theorem tx_1y (t : Tx n g (L1 l v)) (o : Ok r) (h : Fre l r) (hv : v < cl (r 7)) : F_fault n g r 0 = -4 ∧ F_play n g r = (nI 2, rd2 r l v) := by
  have c7 := cl_le7 o
  obtain ⟨a, b, c⟩ := rd_1 t (o.lk h.1).1 (by omega)
  exact fltN_n (pl_2 (by omega) b (by omega) (by rw [c, a]) (rin_y o h).2 (rd2_all o h hv).1)
theorem tx_2 (t : Tx n g (L2 l v)) (o : Ok r) (h : Fre l r) (hv : v < cl (r 7)) : F_fault n g r 0 = nI (5 + (Dg l).length) ∧ F_fault n g r 1 = 2 ∧ F_fault n g r 2 = -2 ∧ F_play n g r = (-2, r) := by
  have c7 := cl_le7 o
  obtain ⟨q1, q2, q3, q4, q5, q6⟩ := rd2_all o h hv
  obtain ⟨a, b, c, d⟩ := rd_2 t (o.lk h.1).1 (by omega)
  have hv2 : v < cl (rd2 r l v 7) := by
    rw [q2 7 (by omega)]
    exact hv
  exact flt_2 (pl_3 (by omega) b (by omega) c (by omega) (by rw [d, a]) (rin_y o h).2 q1 (dip_z (Ok_rd2 o) q3 hv2 q4) (by decide))
theorem tx_3 (t : Tx n g ([114] ++ Dg l)) (o : Ok r) (hl : l < cl (r 8)) : F_fault n g r 0 = 0 ∧ F_fault n g r 1 = 1 ∧ F_fault n g r 2 = -4 := by
  obtain ⟨a, b⟩ := rd_3 t (o.lk hl).1
  exact flt_1 (pl_b a b)
theorem tx_5 (t : Tx n g (L5 l)) (o : Ok r) (h : Fre l r) : F_fault n g r 0 = nI (2 + (Dg l).length) ∧ F_fault n g r 1 = 1 ∧ F_fault n g r 2 = -4 := by
  obtain ⟨a, b, c⟩ := rd_5 t (o.lk h.1).1
  exact flt_1 (pl_5 (by omega) b (by omega) c (rin_y o h).2)
theorem Ok2_pl {n : Nat} {g : Nat → Int32} : ∀ {f : Nat} {r : Nat → Int32} {p k : Nat}, Ok r → Ok2 r → Ok2 (plF n g f r p k).2.1
  | 0, r, p, k, _, h => h
  | f + 1, r, p, k, o, h => by
    by_cases hp : p < n
    · cases hr : rdW n g p with
      | none =>
        rw [plF_bad hp hr]
        exact h
      | some v =>
        obtain ⟨c, a, b, q2⟩ := v
        by_cases hz : (F_work (cl c) r a b).1 < 0
        · rw [plF_no hp hr hz]
          exact Ok2_work o h
        · rw [plF_go hp hr hz]
          exact Ok2_pl (Ok_work o) (Ok2_work o h)
    · rw [plF_end hp]
      exact h
theorem Snd_pl {n : Nat} {g : Nat → Int32} : ∀ {f : Nat} {r : Nat → Int32} {p k : Nat}, Ok r → Snd r → Snd (plF n g f r p k).2.1
  | 0, r, p, k, _, h => h
  | f + 1, r, p, k, o, h => by
    by_cases hp : p < n
    · cases hr : rdW n g p with
      | none =>
        rw [plF_bad hp hr]
        exact h
      | some v =>
        obtain ⟨c, a, b, q2⟩ := v
        by_cases hz : (F_work (cl c) r a b).1 < 0
        · rw [plF_no hp hr hz]
          exact Snd_work o h
        · rw [plF_go hp hr hz]
          exact Snd_pl (Ok_work o) (Snd_work o h)
    · rw [plF_end hp]
      exact h
theorem play_k {n : Nat} {g r : Nat → Int32} (o : Ok r) (o2 : Ok2 r) (s : Snd r) : Ok (F_play n g r).2 ∧ Ok2 (F_play n g r).2 ∧ Snd (F_play n g r).2 := by
  unfold F_play
  cases (plF n g 60 r 0 0).1 with
  | none => exact ⟨Ok_pl o, Ok2_pl o o2, Snd_pl o s⟩
  | some v => exact ⟨o, o2, s⟩
end
