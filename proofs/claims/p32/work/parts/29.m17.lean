theorem rng_b {lo hi x : Int32} (h : rngB lo hi x = true) : lo.toInt ≤ x.toInt ∧ x.toInt ≤ hi.toInt := by
  have h2 := rngB_i.mp h
  rw [i_le, i_le] at h2
  exact h2
theorem Ok_vat {r : Nat → Int32} {d li : Int32} (k : Ok r) : Ok (F_vat r d li).2 := by
  unfold F_vat
  cases hb : rngB 0 3 d && rngB 10 1000 li with
  | false => exact k
  | true =>
    cases hc : decide (r 7 < 6) with
    | false => exact k
    | true =>
      obtain ⟨hb1, hb2⟩ := Bool.and_eq_true_iff.mp hb
      obtain ⟨d0, hd0, rfl⟩ := dye_nI hb1
      have hli := rng_b hb2
      have y1 : (10 : Int32).toInt = 10 := by decide
      have y2 : (1000 : Int32).toInt = 1000 := by decide
      rw [y1, y2] at hli
      obtain ⟨nv, nl, no, hnv, hnl, hno, f7, f8, f9, kset, kvok, kvz, klok, klz, kok, koz, kw⟩ := k
      have h6 := of_decide_eq_true hc
      rw [f7] at h6
      have hnv6 : nv < 6 := (nI_ltI (b := 6) (by omega) (by omega)).mp h6
      rw [f7, cl_nI (by omega)]
      show Ok (upd (upd (upd r (19 + 4 * nv + 0) (nI d0)) (19 + 4 * nv + 1) li) 7 (nI nv + 1))
      have fp : ∀ p, p ≠ 7 → p ≠ 19 + 4 * nv + 0 → p ≠ 19 + 4 * nv + 1 → upd (upd (upd r (19 + 4 * nv + 0) (nI d0)) (19 + 4 * nv + 1) li) 7 (nI nv + 1) p = r p := fun p h1 h2 h3 => (upd_n h1).trans ((upd_n h3).trans (upd_n h2))
      have g0 : vt (upd (upd (upd r (19 + 4 * nv + 0) (nI d0)) (19 + 4 * nv + 1) li) 7 (nI nv + 1)) nv 0 = nI d0 := (upd_n (by omega)).trans ((upd_n (by omega)).trans upd_s)
      have g1 : vt (upd (upd (upd r (19 + 4 * nv + 0) (nI d0)) (19 + 4 * nv + 1) li) 7 (nI nv + 1)) nv 1 = li := (upd_n (by omega)).trans upd_s
      have g2 : vt (upd (upd (upd r (19 + 4 * nv + 0) (nI d0)) (19 + 4 * nv + 1) li) 7 (nI nv + 1)) nv 2 = 0 := (fp _ (by omega) (by omega) (by omega)).trans (kvz nv (Nat.le_refl nv) hnv6 2 (by omega))
      have e7n : (upd (upd (upd r (19 + 4 * nv + 0) (nI d0)) (19 + 4 * nv + 1) li) 7 (nI nv + 1)) 7 = nI nv + 1 := upd_s
      generalize upd (upd (upd r (19 + 4 * nv + 0) (nI d0)) (19 + 4 * nv + 1) li) 7 (nI nv + 1) = R at fp g0 g1 g2 e7n ⊢
      refine ⟨nv + 1, nl, no, by omega, hnl, hno, e7n.trans (nI_1 nv), (fp 8 (by omega) (by omega) (by omega)).trans f8, (fp 9 (by omega) (by omega) (by omega)).trans f9, kset.ext (fun p hp => fp p (by omega) (by omega) (by omega)), fun v hv => ?_, fun v h1 h2 i hi => (fp _ (by omega) (by omega) (by omega)).trans (kvz v (by omega) h2 i hi), fun l hl => (klok l hl).ext (fun i hi => fp _ (by omega) (by omega) (by omega)), fun l h1 h2 i hi => (fp _ (by omega) (by omega) (by omega)).trans (klz l h1 h2 i hi), fun o ho => by rw [show od R o 4 = od r o 4 from fp _ (by omega) (by omega) (by omega)]; exact kok o ho, fun o h1 h2 i hi => (fp _ (by omega) (by omega) (by omega)).trans (koz o h1 h2 i hi), fun d hd => ?_⟩
      · by_cases e : v = nv
        · subst e
          unfold VOk
          rw [g0, g1, g2, z_toInt]
          exact ⟨⟨d0, hd0, rfl⟩, hli.1, hli.2, by omega⟩
        · exact (kvok v (by omega)).ext (fun i hi => fp _ (by omega) (by omega) (by omega))
      · obtain ⟨q1, q2, q3⟩ := kw d hd
        have e11 := fp (11 + d) (by omega) (by omega) (by omega)
        have gs : gsum R d 6 = gsum r d 6 := by
          have a : ∀ n, n ≤ 6 → gsum R d n = gsum r d n := by
            intro n
            induction n with
            | zero => exact fun _ => rfl
            | succ n ih =>
              intro hn
              show gsum R d n + _ = gsum r d n + _
              rw [ih (by omega)]
              by_cases e : n = nv
              · subst e
                rw [g2, kvz n (Nat.le_refl n) hnv6 2 (by omega), z_toInt]
                simp
              · rw [show vt R n 0 = vt r n 0 from fp _ (by omega) (by omega) (by omega), show vt R n 2 = vt r n 2 from fp _ (by omega) (by omega) (by omega)]
          exact a 6 (Nat.le_refl 6)
        refine ⟨by rw [e11]; exact q1, by rw [e11]; exact q2, fun l hl => ?_⟩
        rw [e11, gs, show ltx R l (2 + d) = ltx r l (2 + d) from fp _ (by omega) (by omega) (by omega), show ltx R l (6 + d) = ltx r l (6 + d) from fp _ (by omega) (by omega) (by omega)]
        exact q3 l hl
theorem bz_rng {c : Int32} (h : rngB 0 1 c = true) : bz c := by
  have h2 := rng_b h
  have y1 : (1 : Int32).toInt = 1 := by decide
  rw [z_toInt, y1] at h2
  rcases (show c.toInt = 0 ∨ c.toInt = 1 by omega) with q | q
  · exact Or.inl (Int32.toInt_inj.mp (q.trans z_toInt.symm))
  · exact Or.inr (Int32.toInt_inj.mp (q.trans y1.symm))
theorem Ok_lot {r : Nat → Int32} {c w : Int32} (k : Ok r) : Ok (F_lot r c w).2 := by
  unfold F_lot
  cases hb : rngB 0 1 c && rngB 100 5000 w with
  | false => exact k
  | true =>
    cases hc : decide (r 8 < 20) with
    | false => exact k
    | true =>
      obtain ⟨hb1, hb2⟩ := Bool.and_eq_true_iff.mp hb
      have hli := rng_b hb2
      have y1 : (100 : Int32).toInt = 100 := by decide
      have y2 : (5000 : Int32).toInt = 5000 := by decide
      rw [y1, y2] at hli
      obtain ⟨nv, nl, no, hnv, hnl, hno, f7, f8, f9, kset, kvok, kvz, klok, klz, kok, koz, kw⟩ := k
      have h6 := of_decide_eq_true hc
      rw [f8] at h6
      have hnl6 : nl < 20 := (nI_ltI (b := 20) (by omega) (by omega)).mp h6
      rw [f8, cl_nI (by omega)]
      show Ok (upd (upd (upd r (43 + 15 * nl + 0) c) (43 + 15 * nl + 1) w) 8 (nI nl + 1))
      have fp : ∀ p, p ≠ 8 → p ≠ 43 + 15 * nl + 0 → p ≠ 43 + 15 * nl + 1 → upd (upd (upd r (43 + 15 * nl + 0) c) (43 + 15 * nl + 1) w) 8 (nI nl + 1) p = r p := fun p h1 h2 h3 => (upd_n h1).trans ((upd_n h3).trans (upd_n h2))
      have g0 : ltx (upd (upd (upd r (43 + 15 * nl + 0) c) (43 + 15 * nl + 1) w) 8 (nI nl + 1)) nl 0 = c := (upd_n (by omega)).trans ((upd_n (by omega)).trans upd_s)
      have g1 : ltx (upd (upd (upd r (43 + 15 * nl + 0) c) (43 + 15 * nl + 1) w) 8 (nI nl + 1)) nl 1 = w := (upd_n (by omega)).trans upd_s
      have g2 : ∀ i, 2 ≤ i → i < 15 → ltx (upd (upd (upd r (43 + 15 * nl + 0) c) (43 + 15 * nl + 1) w) 8 (nI nl + 1)) nl i = 0 := fun i h1 h2 => (fp _ (by omega) (by omega) (by omega)).trans (klz nl (Nat.le_refl nl) hnl6 i h2)
      have e8n : (upd (upd (upd r (43 + 15 * nl + 0) c) (43 + 15 * nl + 1) w) 8 (nI nl + 1)) 8 = nI nl + 1 := upd_s
      generalize upd (upd (upd r (43 + 15 * nl + 0) c) (43 + 15 * nl + 1) w) 8 (nI nl + 1) = R at fp g0 g1 g2 e8n ⊢
      refine ⟨nv, nl + 1, no, hnv, by omega, hno, (fp 7 (by omega) (by omega) (by omega)).trans f7, e8n.trans (nI_1 nl), (fp 9 (by omega) (by omega) (by omega)).trans f9, kset.ext (fun p hp => fp p (by omega) (by omega) (by omega)), fun v hv => (kvok v hv).ext (fun i hi => fp _ (by omega) (by omega) (by omega)), fun v h1 h2 i hi => (fp _ (by omega) (by omega) (by omega)).trans (kvz v h1 h2 i hi), fun l hl => ?_, fun l h1 h2 i hi => (fp _ (by omega) (by omega) (by omega)).trans (klz l (by omega) h2 i hi), fun o ho => by rw [show od R o 4 = od r o 4 from fp _ (by omega) (by omega) (by omega)]; exact kok o ho, fun o h1 h2 i hi => (fp _ (by omega) (by omega) (by omega)).trans (koz o h1 h2 i hi), fun d hd => ?_⟩
      · by_cases e : l = nl
        · subst e
          refine ⟨by rw [g0]; exact bz_rng hb1, by rw [g1]; exact hli.1, by rw [g1]; exact hli.2, fun j h1 h2 => by rw [g2 j h1 (by omega), z_toInt]; omega, ?_, ?_, ?_, ?_, ?_⟩
          · rw [g2 10 (by omega) (by omega)]; exact Or.inl rfl
          · rw [g2 11 (by omega) (by omega)]; exact Or.inl rfl
          · rw [g2 12 (by omega) (by omega)]; exact Or.inl rfl
          · rw [g2 13 (by omega) (by omega), z_toInt]; omega
          · rw [g2 13 (by omega) (by omega), z_toInt]; omega
        · exact (klok l (by omega)).ext (fun i hi => fp _ (by omega) (by omega) (by omega))
      · refine (kw d hd).ext (fp _ (by omega) (by omega) (by omega)) (fun v h1 => ⟨fp _ (by omega) (by omega) (by omega), fp _ (by omega) (by omega) (by omega)⟩) (fun l h1 => ⟨fp _ (by omega) (by omega) (by omega), fp _ (by omega) (by omega) (by omega)⟩)
theorem Ok_order {r : Nat → Int32} {a b c d : Int32} (k : Ok r) : Ok (F_order r a b c d).2 := by
  unfold F_order
  cases hb : rngB 0 20000 a && (rngB 0 20000 b && (rngB 0 20000 c && rngB 0 20000 d)) with
  | false => exact k
  | true =>
    cases hc : decide (r 9 < 60) && decide (nI (unsN r) < 8) with
    | false => exact k
    | true =>
      obtain ⟨nv, nl, no, hnv, hnl, hno, f7, f8, f9, kset, kvok, kvz, klok, klz, kok, koz, kw⟩ := k
      have h6 := of_decide_eq_true (Bool.and_eq_true_iff.mp hc).1
      rw [f9] at h6
      have hno6 : no < 60 := (nI_ltI (b := 60) (by omega) (by omega)).mp h6
      rw [f9, cl_nI (by omega)]
      show Ok (upd (upd (upd (upd (upd r (343 + 5 * no + 0) a) (343 + 5 * no + 1) b) (343 + 5 * no + 2) c) (343 + 5 * no + 3) d) 9 (nI no + 1))
      have fp : ∀ p, p ≠ 9 → (p < 343 + 5 * no ∨ 343 + 5 * no + 3 < p) → upd (upd (upd (upd (upd r (343 + 5 * no + 0) a) (343 + 5 * no + 1) b) (343 + 5 * no + 2) c) (343 + 5 * no + 3) d) 9 (nI no + 1) p = r p := fun p h1 h2 => (upd_n h1).trans ((upd_n (by omega)).trans ((upd_n (by omega)).trans ((upd_n (by omega)).trans (upd_n (by omega)))))
      have e9n : (upd (upd (upd (upd (upd r (343 + 5 * no + 0) a) (343 + 5 * no + 1) b) (343 + 5 * no + 2) c) (343 + 5 * no + 3) d) 9 (nI no + 1)) 9 = nI no + 1 := upd_s
      generalize upd (upd (upd (upd (upd r (343 + 5 * no + 0) a) (343 + 5 * no + 1) b) (343 + 5 * no + 2) c) (343 + 5 * no + 3) d) 9 (nI no + 1) = R at fp e9n ⊢
      refine ⟨nv, nl, no + 1, hnv, hnl, by omega, (fp 7 (by omega) (by omega)).trans f7, (fp 8 (by omega) (by omega)).trans f8, e9n.trans (nI_1 no), kset.ext (fun p hp => fp p (by omega) (by omega)), fun v hv => (kvok v hv).ext (fun i hi => fp _ (by omega) (by omega)), fun v h1 h2 i hi => (fp _ (by omega) (by omega)).trans (kvz v h1 h2 i hi), fun l hl => (klok l hl).ext (fun i hi => fp _ (by omega) (by omega)), fun l h1 h2 i hi => (fp _ (by omega) (by omega)).trans (klz l h1 h2 i hi), fun o ho => ?_, fun o h1 h2 i hi => (fp _ (by omega) (by omega)).trans (koz o (by omega) h2 i hi), fun d hd => (kw d hd).ext (fp _ (by omega) (by omega)) (fun v h1 => ⟨fp _ (by omega) (by omega), fp _ (by omega) (by omega)⟩) (fun l h1 => ⟨fp _ (by omega) (by omega), fp _ (by omega) (by omega)⟩)⟩
      by_cases e : o = no
      · subst e
        rw [show od R o 4 = od r o 4 from fp _ (by omega) (by omega)]
        exact Or.inl (koz o (Nat.le_refl o) hno6 4 (by omega))
      · rw [show od R o 4 = od r o 4 from fp _ (by omega) (by omega)]
        exact kok o (by omega)
/-- the lot behind a dip, number by number -/
theorem soakF_o {x y r : Nat → Int32} {d j : Nat} {t : Int32} (h : j ≠ 11) (h2 : j ≠ 12) : soakF x y r d t j = soakG x r d t j := by
  unfold soakF
  by_cases z : savP x r d t (spoV x y r d t)
  · rw [if_pos z, upd_n h2, upd_n h]
  · rw [if_neg z, upd_n h]
theorem spoV_bz {x y r : Nat → Int32} {d : Nat} {t : Int32} (h : bz (x 11)) : bz (spoV x y r d t) := by
  unfold spoV
  by_cases z : spoP x y r d t
  · rw [if_pos z]; exact Or.inr rfl
  · rw [if_neg z]; exact h
theorem soakF_11 {x y r : Nat → Int32} {d : Nat} {t : Int32} (h : bz (x 11)) : bz (soakF x y r d t 11) := by
  unfold soakF
  by_cases z : savP x r d t (spoV x y r d t)
  · rw [if_pos z]
    exact Or.inl rfl
  · rw [if_neg z, upd_s]
    exact spoV_bz h
theorem soakF_12 {x y r : Nat → Int32} {d : Nat} {t : Int32} (hd : d < 4) (h : bz (x 12)) : bz (soakF x y r d t 12) := by
  unfold soakF
  by_cases z : savP x r d t (spoV x y r d t)
  · rw [if_pos z]
    exact Or.inr rfl
  · rw [if_neg z, upd_n (by omega), soakG_o hd (by omega) (by omega)]
    exact h
theorem soakG_l {x r : Nat → Int32} {d : Nat} {t : Int32} (hd : d < 4) : soakG x r d t (6 + d) = x (6 + d) + t * r 5 / 100 ∧ soakG x r d t (2 + d) = x (2 + d) + (t - t * r 5 / 100) := by
  unfold soakG
  constructor
  · rw [upd_n (by omega), upd_n (by omega), upd_s]
  · rw [upd_n (by omega), upd_s]
theorem soakG_m {x r : Nat → Int32} {d j : Nat} {t : Int32} (h1 : j < 14) (h2 : j ≠ 6 + d) (h3 : j ≠ 2 + d) : soakG x r d t j = x j := by
  unfold soakG
  rw [upd_n (by omega), upd_n h3, upd_n h2]
theorem dye_lo {r : Nat → Int32} {l v p : Nat} (h : p < 19) (h2 : p ≠ 10) : dyeR r l v p = r p := by
  unfold dyeR
  rw [rowL_out (by omega), rowV_out (by omega), upd_n h2]
theorem dye_vt {r : Nat → Int32} {l v w i : Nat} (hw : w < 6) (hi : i < 4) (h : w ≠ v) : vt (dyeR r l v) w i = vt r w i := by
  show dyeR r l v (19 + 4 * w + i) = r (19 + 4 * w + i)
  unfold dyeR
  rw [rowL_out (by omega), rowV_out (by omega), upd_n (by omega)]
theorem dye_vv {r : Nat → Int32} {l v i : Nat} (hw : v < 6) (hi : i < 4) : vt (dyeR r l v) v i = soakY (ltx r l) (vt r v) r (tkR r l v) i := by
  show dyeR r l v (19 + 4 * v + i) = _
  unfold dyeR
  rw [rowL_out (by omega), rowV_in hi]
theorem dye_lt {r : Nat → Int32} {l v m i : Nat} (hv : v < 6) (hi : i < 15) (h : m ≠ l) : ltx (dyeR r l v) m i = ltx r m i := by
  show dyeR r l v (43 + 15 * m + i) = r (43 + 15 * m + i)
  unfold dyeR
  rw [rowL_out (by omega), rowV_out (by omega), upd_n (by omega)]
theorem dye_ll {r : Nat → Int32} {l v i : Nat} (hi : i < 15) : ltx (dyeR r l v) l i = soakF (ltx r l) (vt r v) r (cl (vt r v 0)) (tkR r l v) i := rowL_in hi
theorem dye_od {r : Nat → Int32} {l v o i : Nat} (hl : l < 20) (hv : v < 6) : od (dyeR r l v) o i = od r o i := by
  show dyeR r l v (343 + 5 * o + i) = r (343 + 5 * o + i)
  unfold dyeR
  rw [rowL_out (by omega), rowV_out (by omega), upd_n (by omega)]
theorem SOk.l5 {r : Nat → Int32} (k : SOk r) : 0 ≤ (r 5).toInt ∧ (r 5).toInt ≤ 50 := by
  obtain ⟨h1, h2⟩ := k 5 (by omega)
  have e1 : (leastF 5).toInt = 0 := by decide
  have e2 : (mostF 5).toInt = 50 := by decide
  simp only [i_le, e1, e2] at h1 h2
  omega
theorem Ok_dye {r : Nat → Int32} {l v : Nat} (k : Ok r) (hl : l < 20) (hv : v < 6) (hlo : LOk (ltx r l)) (hvo : VOk (vt r v)) : Ok (dyeR r l v) := by
  obtain ⟨⟨d, hd, ed⟩, v1, v2, v3⟩ := id hvo
  obtain ⟨c1, c2⟩ := k.cap hv hd hl ed
  have a1 := k.lge l (2 + d) hl (by omega) (by omega)
  have a2 := k.lge l (6 + d) hl (by omega) (by omega)
  obtain ⟨t1, t2⟩ := tak_b (dok_of k.set hvo hlo) v3 (by omega)
  have tk : tkR r l v = takF (r 0) (ltx r l) (vt r v 2) (vt r v 1) := rfl
  rw [← tk] at t1 t2
  have b5 := k.set.l5
  obtain ⟨u1, u2⟩ := loo_b t1 (by omega) b5.1 b5.2
  have s1 : (ltx r l (6 + d) + tkR r l v * r 5 / 100).toInt = (ltx r l (6 + d)).toInt + (tkR r l v * r 5 / 100).toInt := i_add (by omega) (by omega)
  have s2 : (tkR r l v - tkR r l v * r 5 / 100).toInt = (tkR r l v).toInt - (tkR r l v * r 5 / 100).toInt := i_sub (by omega) (by omega)
  have s3 : (ltx r l (2 + d) + (tkR r l v - tkR r l v * r 5 / 100)).toInt = (ltx r l (2 + d)).toInt + ((tkR r l v).toInt - (tkR r l v * r 5 / 100).toInt) := by
    rw [i_add (by omega) (by omega), s2]
  have s4 : (vt r v 2 - tkR r l v).toInt = (vt r v 2).toInt - (tkR r l v).toInt := i_sub (by omega) (by omega)
  have ec : cl (vt r v 0) = d := by rw [ed, cl_nI (by omega)]
  have gl := soakG_l (x := ltx r l) (r := r) (t := tkR r l v) hd
  have y2 : vt (dyeR r l v) v 2 = vt r v 2 - tkR r l v := by
    rw [dye_vv hv (by omega)]
    exact (upd_n (by omega)).trans upd_s
  have y0 : vt (dyeR r l v) v 0 = vt r v 0 := by
    rw [dye_vv hv (by omega)]
    exact (upd_n (by omega)).trans (upd_n (by omega))
  have y1 : vt (dyeR r l v) v 1 = vt r v 1 := by
    rw [dye_vv hv (by omega)]
    exact (upd_n (by omega)).trans (upd_n (by omega))
  have x2 : (ltx (dyeR r l v) l (2 + d)).toInt = (ltx r l (2 + d)).toInt + ((tkR r l v).toInt - (tkR r l v * r 5 / 100).toInt) := by
    rw [dye_ll (by omega), soakF_o (by omega) (by omega), ec, gl.2, s3]
  have x6 : (ltx (dyeR r l v) l (6 + d)).toInt = (ltx r l (6 + d)).toInt + (tkR r l v * r 5 / 100).toInt := by
    rw [dye_ll (by omega), soakF_o (by omega) (by omega), ec, gl.1, s1]
  have xo : ∀ j, j < 14 → j ≠ 11 → j ≠ 12 → j ≠ 2 + d → j ≠ 6 + d → ltx (dyeR r l v) l j = ltx r l j := fun j h0 h1 h2 h3 h4 => by
    rw [dye_ll (by omega), soakF_o h1 h2, ec, soakG_m h0 h4 h3]
  refine Ok.of k (dye_lo (by omega) (by omega)) (dye_lo (by omega) (by omega)) (dye_lo (by omega) (by omega)) (fun q => q.ext (fun p hp => dye_lo (by omega) (by omega))) (fun w hw q => ?_) (fun w hw q i hi => ?_) (fun m hm q => ?_) (fun m hm q i hi => ?_) (fun o ho q => by rw [dye_od hl hv]; exact q) (fun o ho _ q i hi => (dye_od hl hv).trans (q i hi)) (fun q e he => ?_)
  · by_cases z : w = v
    · subst z
      unfold VOk
      rw [y0, y1, y2, s4]
      exact ⟨⟨d, hd, ed⟩, v1, v2, by omega⟩
    · exact q.ext (fun i hi => dye_vt hw hi z)
  · by_cases z : w = v
    · subst z
      exact (hvo.nz q).elim
    · exact (dye_vt hw hi z).trans (q i hi)
  · by_cases z : m = l
    · subst z
      obtain ⟨k0, k1, k2, k3, k4, k5, k6, k7, k8⟩ := hlo
      refine ⟨by rw [xo 0 (by omega) (by omega) (by omega) (by omega) (by omega)]; exact k0, by rw [xo 1 (by omega) (by omega) (by omega) (by omega) (by omega)]; exact k1, by rw [xo 1 (by omega) (by omega) (by omega) (by omega) (by omega)]; exact k2, fun j a1 a2 => ?_, by rw [xo 10 (by omega) (by omega) (by omega) (by omega) (by omega)]; exact k4, by rw [dye_ll (by omega)]; exact soakF_11 k5, by rw [dye_ll (by omega), ec]; exact soakF_12 hd k6, by rw [xo 13 (by omega) (by omega) (by omega) (by omega) (by omega)]; exact k7, by rw [xo 13 (by omega) (by omega) (by omega) (by omega) (by omega)]; exact k8⟩
      by_cases z2 : j = 2 + d
      · subst z2; omega
      · by_cases z6 : j = 6 + d
        · subst z6; omega
        · rw [xo j (by omega) (by omega) (by omega) z2 z6]
          exact k3 j a1 a2
    · exact q.ext (fun i hi => dye_lt hv hi z)
  · by_cases z : m = l
    · subst z
      exact (hlo.nz q).elim
    · exact (dye_lt hv hi z).trans (q i hi)
  · obtain ⟨q1, q2, q3⟩ := q e he
    have gs := gsum_one (r := r) (r2 := dyeR r l v) (d := e) (k := 6) (j := v) hv (fun w hw => by
      by_cases z : w = v
      · subst z; exact y0
      · exact dye_vt hw (by omega) z) (fun w hw hn => dye_vt hw (by omega) hn)
    rw [y2, s4] at gs
    have e11 : dyeR r l v (11 + e) = r (11 + e) := dye_lo (by omega) (by omega)
    refine ⟨by rw [e11]; exact q1, by rw [e11]; exact q2, fun m hm => ?_⟩
    have q4 := q3 m hm
    rw [e11, gs]
    by_cases z : m = l
    · subst z
      by_cases z2 : e = d
      · subst z2
        rw [x2, x6, if_pos ed]
        omega
      · have zz : ¬ vt r v 0 = nI e := by
          rw [ed]
          intro q
          exact z2 ((nI_eq (by omega) (by omega)).mp q).symm
        rw [xo (2 + e) (by omega) (by omega) (by omega) (by omega) (by omega), xo (6 + e) (by omega) (by omega) (by omega) (by omega) (by omega), if_neg zz]
        omega
    · rw [dye_lt hv (by omega) z, dye_lt hv (by omega) z]
      by_cases z2 : vt r v 0 = nI e
      · rw [if_pos z2]; omega
      · rw [if_neg z2]; omega
theorem Ok_dip {r : Nat → Int32} {w o : Int32} (k : Ok r) : Ok (F_dip r w o).2 := by
  unfold F_dip
  cases hb : okB (r 8) w && okB (r 7) o with
  | false => exact k
  | true =>
    obtain ⟨j, hj, rfl, hlo⟩ := k.lok (Bool.and_eq_true_iff.mp hb).1
    obtain ⟨i, hi, rfl, hvo⟩ := k.vok (Bool.and_eq_true_iff.mp hb).2
    rw [cl_nI (by omega), cl_nI (by omega)]
    cases sold r j || (hangs r j || decide (vt r i 2 ≤ 0)) with
    | true => exact k
    | false => exact Ok_dye k hj hi hlo hvo
theorem Ok_work {kc : Nat} {r : Nat → Int32} {a b : Int32} (k : Ok r) : Ok (F_work kc r a b).2 := by
  unfold F_work
  split
  · exact Ok_dip k
  · exact Ok_drain k
  · exact Ok_hang k
  · exact Ok_rinse k
  · exact Ok_sell k
  · exact Ok_take k
  · exact k
