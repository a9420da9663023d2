theorem Snd_set {r : Nat → Int32} {w x : Int32} (o : Ok r) (k : Snd r) : Snd (F_set r w x).2 := by
  unfold F_set
  cases hb : okB 7 w && rngB (leastF (cl w)) (mostF (cl w)) x with
  | false => exact k
  | true =>
    obtain ⟨j, hj, rfl⟩ := okB_i (n := 7) (by omega) (Bool.and_eq_true_iff.mp hb).1
    rw [cl_nI (by omega)]
    show Snd (upd r j x)
    have fp : ∀ p, 7 ≤ p → upd r j x p = r p := fun p hp => upd_n (by omega)
    generalize upd r j x = R at fp ⊢
    refine k.of o (fp 8 (by omega)) (fp 9 (by omega)) (fun d hd q => q.ext o (fp 7 (by omega)) (fp 8 (by omega)) (fp _ (by omega)) (fp _ (by omega)) (fun v hv => ⟨fp _ (by omega), fp _ (by omega)⟩) (fun l hl => ⟨fp _ (by omega), fp _ (by omega)⟩)) (fun q => q.ext o (fp 8 (by omega)) (fp 10 (by omega)) (fun l hl => fp _ (by omega))) (fun l hl => fp _ (by omega)) (fun i hi => fp _ (by omega)) (fun l hl => ?_)
    rw [show ltx R l 10 = ltx r l 10 from fp _ (by omega), show ltx R l 11 = ltx r l 11 from fp _ (by omega), show ltx R l 12 = ltx r l 12 from fp _ (by omega)]
    exact ⟨fun _ q => q, fun _ q => q, fun q => q⟩
/-- whether a lot hangs changed -/
theorem Snd.hng {r : Nat → Int32} {j : Nat} {x : Int32} (k : Snd r) (o : Ok r) (hj : j < 20) (hx : ¬ ltx r j 13 = 0 → x = 0) : Snd (upd r (43 + 15 * j + 10) x) := by
  have fp : ∀ p, p ≠ 43 + 15 * j + 10 → upd r (43 + 15 * j + 10) x p = r p := fun p hp => upd_n hp
  have f10 : upd r (43 + 15 * j + 10) x (43 + 15 * j + 10) = x := upd_s
  generalize upd r (43 + 15 * j + 10) x = R at fp f10 ⊢
  refine k.of o (fp 8 (by omega)) (fp 9 (by omega)) (fun d hd q => q.ext o (fp 7 (by omega)) (fp 8 (by omega)) (fp _ (by omega)) (fp _ (by omega)) (fun v hv => ⟨fp _ (by omega), fp _ (by omega)⟩) (fun l hl => ⟨fp _ (by omega), fp _ (by omega)⟩)) (fun q => q.ext o (fp 8 (by omega)) (fp 10 (by omega)) (fun l hl => fp _ (by omega))) (fun l hl => fp _ (by omega)) (fun i hi => fp _ (by omega)) (fun l hl => ?_)
  rw [show ltx R l 11 = ltx r l 11 from fp _ (by omega), show ltx R l 12 = ltx r l 12 from fp _ (by omega)]
  refine ⟨fun a q => ?_, fun _ q => q, fun q => q⟩
  by_cases e : l = j
  · subst e
    exact f10.trans (hx a)
  · exact (fp (43 + 15 * l + 10) (by omega)).trans q
theorem Snd_hang {r : Nat → Int32} {w x : Int32} (o : Ok r) (k : Snd r) : Snd (F_hang r w x).2 := by
  unfold F_hang
  cases hb : okB (r 8) w && rngB 0 1 x with
  | false => exact k
  | true =>
    obtain ⟨j, hj, hj2, rfl, hlo⟩ := o.l (Bool.and_eq_true_iff.mp hb).1
    rw [cl_nI (by omega)]
    cases hs : sold r j || (hangs r j || decide (¬ ltx r j 0 = x)) with
    | true => exact k
    | false =>
      cases decide (4 ≤ nI (rackN r x)) with
      | true => exact k
      | false =>
        refine Snd.hng k o hj2 (fun z => ?_)
        have hs1 := (Bool.or_eq_false_iff.mp hs).1
        unfold sold at hs1
        exact absurd z (of_decide_eq_false hs1)
theorem Snd_take {r : Nat → Int32} {w : Int32} (o : Ok r) (k : Snd r) : Snd (F_take r w).2 := by
  unfold F_take
  cases hb : okB (r 8) w with
  | false => exact k
  | true =>
    obtain ⟨j, hj, hj2, rfl, hlo⟩ := o.l hb
    rw [cl_nI (by omega)]
    cases hangs r j with
    | true => exact Snd.hng k o hj2 (fun _ => rfl)
    | false => exact k
/-- only vats and waste changed -/
theorem Snd.vats {r r2 : Nat → Int32} (k : Snd r) (o : Ok r) (h8 : r2 8 = r 8) (h9 : r2 9 = r 9) (h10 : r2 10 = r 10) (fp : ∀ p, 43 ≤ p → r2 p = r p) (ha : ∀ d, d < 4 → Acc r d → Acc r2 d) : Snd r2 := by
  refine k.of o h8 h9 ha (fun q => q.ext o h8 h10 (fun l hl => fp _ (by omega))) (fun l hl => fp _ (by omega)) (fun i hi => fp _ (by omega)) (fun l hl => ?_)
  rw [show ltx r2 l 10 = ltx r l 10 from fp _ (by omega), show ltx r2 l 11 = ltx r l 11 from fp _ (by omega), show ltx r2 l 12 = ltx r l 12 from fp _ (by omega)]
  exact ⟨fun _ q => q, fun _ q => q, fun q => q⟩
theorem lsum_ext {r r2 : Nat → Int32} {d : Nat} (o : Ok r) (h8 : r2 8 = r 8) (fp : ∀ l, l < 20 → ltx r2 l (2 + d) + ltx r2 l (6 + d) = ltx r l (2 + d) + ltx r l (6 + d)) : lsum r2 d = lsum r d := by
  have c8 := (cl_le o).1
  unfold lsum
  rw [h8]
  exact sumP_ext (fun l h => ⟨rfl, fun _ => fp l (by omega)⟩)
theorem vsum_one {r r2 : Nat → Int32} {j d : Nat} (h7 : r2 7 = r 7) (hj : j < cl (r 7)) (h0 : ∀ v, v < cl (r 7) → vt r2 v 0 = vt r v 0) (h2 : ∀ v, v < cl (r 7) → v ≠ j → vt r2 v 2 = vt r v 2) : vsum r2 d = vsum r d + cond (decide (vt r j 0 = nI d)) (vt r2 j 2 - vt r j 2) 0 := by
  unfold vsum
  rw [h7, sumP_one (p := fun v => decide (vt r2 v 0 = nI d)) (q := fun v => decide (vt r v 0 = nI d)) (g := fun v => vt r2 v 2) (f := fun v => vt r v 2) (n := cl (r 7)) hj (fun v h1 h3 => ⟨by rw [h0 v h1], h2 v h1 h3⟩), h0 j hj]
  cases decide (vt r j 0 = nI d) with
  | false =>
    simp only [cond_false]
    grind
  | true => rfl
theorem Snd_weigh {r : Nat → Int32} {w g : Int32} (o : Ok r) (k : Snd r) : Snd (F_weigh r w g).2 := by
  unfold F_weigh
  cases hb : okB (r 7) w && rngB 1 100000 g with
  | false => exact k
  | true =>
    obtain ⟨j, hj, hj2, rfl, hv⟩ := o.v (Bool.and_eq_true_iff.mp hb).1
    rw [cl_nI (by omega)]
    obtain ⟨⟨d, hd, ed⟩, v1, v2, v3⟩ := id hv
    rw [ed, cl_nI (by omega)]
    cases hc : decide (r (11 + d) + g ≤ 1000000) with
    | false => exact k
    | true =>
      show Snd (upd (upd r (11 + d) (r (11 + d) + g)) (19 + 4 * j + 2) (vt r j 2 + g))
      have c7 := cl_le7 o
      have fp : ∀ p, p ≠ 11 + d → p ≠ 19 + 4 * j + 2 → upd (upd r (11 + d) (r (11 + d) + g)) (19 + 4 * j + 2) (vt r j 2 + g) p = r p := fun p h1 h2 => (upd_n h2).trans (upd_n h1)
      have f1 : upd (upd r (11 + d) (r (11 + d) + g)) (19 + 4 * j + 2) (vt r j 2 + g) (11 + d) = r (11 + d) + g := (upd_n (by omega)).trans upd_s
      have f2 : vt (upd (upd r (11 + d) (r (11 + d) + g)) (19 + 4 * j + 2) (vt r j 2 + g)) j 2 = vt r j 2 + g := upd_s
      generalize upd (upd r (11 + d) (r (11 + d) + g)) (19 + 4 * j + 2) (vt r j 2 + g) = R at fp f1 f2 ⊢
      refine k.vats o (fp 8 (by omega) (by omega)) (fp 9 (by omega) (by omega)) (fp 10 (by omega) (by omega)) (fun p hp => fp p (by omega) (by omega)) (fun e he q => ?_)
      unfold Acc at q ⊢
      rw [lsum_ext o (fp 8 (by omega) (by omega)) (fun l hl => by rw [show ltx R l (2 + e) = ltx r l (2 + e) from fp _ (by omega) (by omega), show ltx R l (6 + e) = ltx r l (6 + e) from fp _ (by omega) (by omega)]), vsum_one (fp 7 (by omega) (by omega)) hj (fun v h => fp _ (by omega) (by omega)) (fun v h h2 => fp _ (by omega) (by omega)), f2, fp (15 + e) (by omega) (by omega), ed]
      by_cases z : d = e
      · subst z
        rw [f1, decide_eq_true rfl]
        simp only [cond_true]
        grind
      · have zz : ¬ nI d = nI e := fun y => z ((nI_eq (by omega) (by omega)).mp y)
        rw [fp (11 + e) (by omega) (by omega), decide_eq_false zz]
        simp only [cond_false]
        grind
theorem Snd_drain {r : Nat → Int32} {w : Int32} (o : Ok r) (k : Snd r) : Snd (F_drain r w).2 := by
  unfold F_drain
  cases hb : okB (r 7) w with
  | false => exact k
  | true =>
    obtain ⟨j, hj, hj2, rfl, hv⟩ := o.v hb
    rw [cl_nI (by omega)]
    obtain ⟨⟨d, hd, ed⟩, v1, v2, v3⟩ := id hv
    rw [ed, cl_nI (by omega)]
    show Snd (upd (upd (upd r (15 + d) (r (15 + d) + vt r j 2)) (19 + 4 * j + 2) 0) (19 + 4 * j + 3) 0)
    have c7 := cl_le7 o
    have fp : ∀ p, p ≠ 15 + d → p ≠ 19 + 4 * j + 2 → p ≠ 19 + 4 * j + 3 → upd (upd (upd r (15 + d) (r (15 + d) + vt r j 2)) (19 + 4 * j + 2) 0) (19 + 4 * j + 3) 0 p = r p := fun p h1 h2 h3 => (upd_n h3).trans ((upd_n h2).trans (upd_n h1))
    have f1 : upd (upd (upd r (15 + d) (r (15 + d) + vt r j 2)) (19 + 4 * j + 2) 0) (19 + 4 * j + 3) 0 (15 + d) = r (15 + d) + vt r j 2 := (upd_n (by omega)).trans ((upd_n (by omega)).trans upd_s)
    have f2 : vt (upd (upd (upd r (15 + d) (r (15 + d) + vt r j 2)) (19 + 4 * j + 2) 0) (19 + 4 * j + 3) 0) j 2 = 0 := (upd_n (by omega)).trans upd_s
    generalize upd (upd (upd r (15 + d) (r (15 + d) + vt r j 2)) (19 + 4 * j + 2) 0) (19 + 4 * j + 3) 0 = R at fp f1 f2 ⊢
    refine k.vats o (fp 8 (by omega) (by omega) (by omega)) (fp 9 (by omega) (by omega) (by omega)) (fp 10 (by omega) (by omega) (by omega)) (fun p hp => fp p (by omega) (by omega) (by omega)) (fun e he q => ?_)
    unfold Acc at q ⊢
    rw [lsum_ext o (fp 8 (by omega) (by omega) (by omega)) (fun l hl => by rw [show ltx R l (2 + e) = ltx r l (2 + e) from fp _ (by omega) (by omega) (by omega), show ltx R l (6 + e) = ltx r l (6 + e) from fp _ (by omega) (by omega) (by omega)]), vsum_one (fp 7 (by omega) (by omega) (by omega)) hj (fun v h => fp _ (by omega) (by omega) (by omega)) (fun v h h2 => fp _ (by omega) (by omega) (by omega)), f2, fp (11 + e) (by omega) (by omega) (by omega), ed]
    by_cases z : d = e
    · subst z
      rw [f1, decide_eq_true rfl]
      simp only [cond_true]
      grind
    · have zz : ¬ nI d = nI e := fun y => z ((nI_eq (by omega) (by omega)).mp y)
      rw [fp (15 + e) (by omega) (by omega) (by omega), decide_eq_false zz]
      simp only [cond_false]
      grind
theorem Snd_vat {r : Nat → Int32} {d li : Int32} (o : Ok r) (k : Snd r) : Snd (F_vat r d li).2 := by
  unfold F_vat
  cases hb : rngB 0 3 d && rngB 10 1000 li with
  | false => exact k
  | true =>
    cases hc : decide (r 7 < 6) with
    | false => exact k
    | true =>
      obtain ⟨nv, nl, no, hnv, hnl, hno, e7, e8, e9, -, -, hvz, -⟩ := id o
      have h6 := of_decide_eq_true hc
      rw [e7] at h6
      have h66 : nv < 6 := (nI_ltI (b := 6) (by omega) (by omega)).mp h6
      rw [e7, cl_nI (by omega)]
      show Snd (upd (upd (upd r (19 + 4 * nv + 0) d) (19 + 4 * nv + 1) li) 7 (nI nv + 1))
      have fp : ∀ p, p ≠ 7 → p ≠ 19 + 4 * nv + 0 → p ≠ 19 + 4 * nv + 1 → upd (upd (upd r (19 + 4 * nv + 0) d) (19 + 4 * nv + 1) li) 7 (nI nv + 1) p = r p := fun p a b c => by rw [upd_n a, upd_n c, upd_n b]
      have f7 : upd (upd (upd r (19 + 4 * nv + 0) d) (19 + 4 * nv + 1) li) 7 (nI nv + 1) 7 = nI nv + 1 := upd_s
      generalize upd (upd (upd r (19 + 4 * nv + 0) d) (19 + 4 * nv + 1) li) 7 (nI nv + 1) = R at fp f7 ⊢
      refine k.vats o (fp 8 (by omega) (by omega) (by omega)) (fp 9 (by omega) (by omega) (by omega)) (fp 10 (by omega) (by omega) (by omega)) (fun p hp => fp p (by omega) (by omega) (by omega)) (fun e he q => ?_)
      unfold Acc at q ⊢
      have hz : vt R nv 2 = 0 := (fp (19 + 4 * nv + 2) (by omega) (by omega) (by omega)).trans (hvz nv (Nat.le_refl _) h66 2 (by omega))
      have hs : vsum R e = vsum r e := by
        unfold vsum
        rw [f7, e7, nI_1, cl_nI (by omega), cl_nI (by omega)]
        have z : sumP (fun v => decide (vt R v 0 = nI e)) (fun v => vt R v 2) (nv + 1) = sumP (fun v => decide (vt R v 0 = nI e)) (fun v => vt R v 2) nv := by
          show cond (decide (vt R nv 0 = nI e)) (_ + vt R nv 2) _ = _
          rw [hz]
          cases decide (vt R nv 0 = nI e) with
          | false => rfl
          | true => exact Int32.add_zero _
        rw [z]
        exact sumP_ext (fun v h => ⟨by rw [show vt R v 0 = vt r v 0 from fp _ (by omega) (by omega) (by omega)], fun _ => fp _ (by omega) (by omega) (by omega)⟩)
      rw [lsum_ext o (fp 8 (by omega) (by omega) (by omega)) (fun l hl => by rw [show ltx R l (2 + e) = ltx r l (2 + e) from fp _ (by omega) (by omega) (by omega), show ltx R l (6 + e) = ltx r l (6 + e) from fp _ (by omega) (by omega) (by omega)]), hs, fp (11 + e) (by omega) (by omega) (by omega), fp (15 + e) (by omega) (by omega) (by omega)]
      exact q
