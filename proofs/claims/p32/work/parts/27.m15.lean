theorem okB_i {n : Nat} {w : Int32} (hn : n ≤ 1000) (h : okB (nI n) w = true) : ∃ j, j < n ∧ w = nI j := by
  refine Classical.byContradiction (fun z => ?_)
  rw [okB_f hn z] at h
  cases h
theorem z_toInt : (0 : Int32).toInt = 0 := by decide
theorem VOk.nz {y : Nat → Int32} (k : VOk y) (h : ∀ j, j < 4 → y j = 0) : False := by
  obtain ⟨-, k1, -⟩ := k
  rw [h 1 (by omega), z_toInt] at k1
  omega
theorem LOk.nz {y : Nat → Int32} (k : LOk y) (h : ∀ j, j < 15 → y j = 0) : False := by
  obtain ⟨-, k1, -⟩ := k
  rw [h 1 (by omega), z_toInt] at k1
  omega
theorem Ok.vgr {r : Nat → Int32} {j : Nat} {g : Int32} (k : Ok r) (hj : j < 6) (hv : VOk (vt r j)) (h0 : 0 ≤ g.toInt) (h1 : g.toInt ≤ (vt r j 2).toInt) : Ok (upd r (19 + 4 * j + 2) g) := by
  have e2 : vt (upd r (19 + 4 * j + 2) g) j 2 = g := upd_s
  refine Ok.of k (upd_n (by omega)) (upd_n (by omega)) (upd_n (by omega)) (fun q => q.ext (fun p hp => upd_n (by omega))) (fun v hv1 q => ?_) (fun v hv1 q => ?_) (fun l hl q => q.ext (fun i hi => upd_n (by omega))) (fun l hl q i hi => (show upd r (19 + 4 * j + 2) g (43 + 15 * l + i) = r (43 + 15 * l + i) from upd_n (by omega)).trans (q i hi)) (fun o ho q => by rw [show od (upd r (19 + 4 * j + 2) g) o 4 = od r o 4 from upd_n (by omega)]; exact q) (fun o ho _ q i hi => (show upd r (19 + 4 * j + 2) g (343 + 5 * o + i) = r (343 + 5 * o + i) from upd_n (by omega)).trans (q i hi)) (fun q d hd => ?_)
  · by_cases e : v = j
    · subst e
      obtain ⟨q1, q2, q3, q4⟩ := q
      refine ⟨?_, ?_, ?_, ?_⟩
      · rw [show vt (upd r (19 + 4 * v + 2) g) v 0 = vt r v 0 from upd_n (by omega)]; exact q1
      · rw [show vt (upd r (19 + 4 * v + 2) g) v 1 = vt r v 1 from upd_n (by omega)]; exact q2
      · rw [show vt (upd r (19 + 4 * v + 2) g) v 1 = vt r v 1 from upd_n (by omega)]; exact q3
      · rw [e2]; exact h0
    · exact q.ext (fun i hi => upd_n (by omega))
  · by_cases e : v = j
    · subst e
      exact (hv.nz q).elim
    · exact fun i hi => (show upd r (19 + 4 * j + 2) g (19 + 4 * v + i) = r (19 + 4 * v + i) from upd_n (by omega)).trans (q i hi)
  · obtain ⟨q1, q2, q3⟩ := q d hd
    have gs := gsum_one (r := r) (r2 := upd r (19 + 4 * j + 2) g) (d := d) (k := 6) (j := j) hj (fun v hv => upd_n (by omega)) (fun v hv hn => upd_n (by omega))
    rw [e2] at gs
    have e11 : upd r (19 + 4 * j + 2) g (11 + d) = r (11 + d) := upd_n (by omega)
    refine ⟨by rw [e11]; exact q1, by rw [e11]; exact q2, fun l hl => ?_⟩
    have q4 := q3 l hl
    rw [e11, show ltx (upd r (19 + 4 * j + 2) g) l (2 + d) = ltx r l (2 + d) from upd_n (by omega), show ltx (upd r (19 + 4 * j + 2) g) l (6 + d) = ltx r l (6 + d) from upd_n (by omega), gs]
    by_cases z : vt r j 0 = nI d
    · rw [if_pos z]; omega
    · rw [if_neg z]; omega
theorem Ok.vok {r : Nat → Int32} (k : Ok r) {w : Int32} (h : okB (r 7) w = true) : ∃ j, j < 6 ∧ w = nI j ∧ VOk (vt r j) := by
  obtain ⟨nv, nl, no, hnv, hnl, hno, f7, f8, f9, kset, kvok, -⟩ := k
  rw [f7] at h
  obtain ⟨j, hj, e⟩ := okB_i (by omega) h
  exact ⟨j, by omega, e, kvok j hj⟩
theorem Ok.lok {r : Nat → Int32} (k : Ok r) {w : Int32} (h : okB (r 8) w = true) : ∃ j, j < 20 ∧ w = nI j ∧ LOk (ltx r j) := by
  obtain ⟨nv, nl, no, hnv, hnl, hno, f7, f8, f9, kset, kvok, kvz, klok, -⟩ := k
  rw [f8] at h
  obtain ⟨j, hj, e⟩ := okB_i (by omega) h
  exact ⟨j, by omega, e, klok j hj⟩
theorem Ok.ook {r : Nat → Int32} (k : Ok r) {w : Int32} (h : okB (r 9) w = true) : ∃ j no, j < no ∧ no ≤ 60 ∧ r 9 = nI no ∧ w = nI j ∧ bz (od r j 4) := by
  obtain ⟨nv, nl, no, hnv, hnl, hno, f7, f8, f9, kset, kvok, kvz, klok, klz, kok, -⟩ := k
  have h2 := h
  rw [f9] at h2
  obtain ⟨j, hj, e⟩ := okB_i (by omega) h2
  exact ⟨j, no, hj, hno, f9, e, kok j hj⟩
theorem Ok.set {r : Nat → Int32} (k : Ok r) : SOk r := by
  obtain ⟨nv, nl, no, hnv, hnl, hno, f7, f8, f9, kset, -⟩ := k
  exact kset
theorem Ok.wok {r : Nat → Int32} (k : Ok r) : ∀ d, d < 4 → WOk r d := by
  obtain ⟨nv, nl, no, hnv, hnl, hno, f7, f8, f9, kset, kvok, kvz, klok, klz, kok, koz, kw⟩ := k
  exact kw
theorem Ok.vge {r : Nat → Int32} (k : Ok r) : ∀ v, v < 6 → 0 ≤ (vt r v 2).toInt := by
  obtain ⟨nv, nl, no, hnv, hnl, hno, f7, f8, f9, kset, kvok, kvz, -⟩ := k
  intro v hv
  rcases Nat.lt_or_ge v nv with z | z
  · exact (kvok v z).2.2.2
  · rw [kvz v z hv 2 (by omega), z_toInt]
    omega
theorem Ok.lge {r : Nat → Int32} (k : Ok r) : ∀ l i, l < 20 → 2 ≤ i → i < 10 → 0 ≤ (ltx r l i).toInt := by
  obtain ⟨nv, nl, no, hnv, hnl, hno, f7, f8, f9, kset, kvok, kvz, klok, klz, -⟩ := k
  intro l i hl h1 h2
  rcases Nat.lt_or_ge l nl with z | z
  · exact (klok l z).2.2.2.1 i h1 h2
  · rw [klz l z hl i (by omega), z_toInt]
    omega
/-- what a vat holds and what a lot holds stay below a million -/
theorem Ok.cap {r : Nat → Int32} (k : Ok r) {j d l : Nat} (hj : j < 6) (hd : d < 4) (hl : l < 20) (e : vt r j 0 = nI d) : (ltx r l (2 + d)).toInt + (ltx r l (6 + d)).toInt + (vt r j 2).toInt ≤ (r (11 + d)).toInt ∧ (r (11 + d)).toInt ≤ 1000000 := by
  obtain ⟨q1, q2, q3⟩ := k.wok d hd
  have g := gsum_le (r := r) (d := d) hj k.vge e
  have q4 := q3 l hl
  exact ⟨by omega, q2⟩
theorem Ok.cap1 {r : Nat → Int32} (k : Ok r) {j d : Nat} (hj : j < 6) (hd : d < 4) (e : vt r j 0 = nI d) : (vt r j 2).toInt ≤ (r (11 + d)).toInt ∧ (r (11 + d)).toInt ≤ 1000000 := by
  have c := k.cap hj hd (l := 0) (by omega) e
  have a := k.lge 0 (2 + d) (by omega) (by omega) (by omega)
  have b := k.lge 0 (6 + d) (by omega) (by omega) (by omega)
  omega
theorem Ok_drain {r : Nat → Int32} {w : Int32} (k : Ok r) : Ok (F_drain r w).2 := by
  unfold F_drain
  cases hb : okB (r 7) w with
  | false => exact k
  | true =>
    obtain ⟨j, hj, rfl, hv⟩ := k.vok hb
    show Ok (upd (upd (upd r (15 + cl (vt r (cl (nI j)) 0)) _) (19 + 4 * cl (nI j) + 2) 0) (19 + 4 * cl (nI j) + 3) 0)
    obtain ⟨⟨d, hd, ed⟩, v1, v2, v3⟩ := id hv
    rw [cl_nI (by omega), ed, cl_nI (by omega)]
    have k1 : Ok (upd r (15 + d) (r (15 + d) + vt r j 2)) := Ok.free k (fun p hp h1 h2 h3 h4 => upd_n (by omega)) (fun v hv q => (show upd r (15 + d) _ (19 + 4 * v + 3) = r (19 + 4 * v + 3) from upd_n (by omega)).trans (q 3 (by omega))) (fun l hl q => (show upd r (15 + d) _ (43 + 15 * l + 14) = r (43 + 15 * l + 14) from upd_n (by omega)).trans (q 14 (by omega)))
    have hv1 : VOk (vt (upd r (15 + d) (r (15 + d) + vt r j 2)) j) := hv.ext (fun i hi => upd_n (by omega))
    have k2 := Ok.vgr (g := 0) k1 hj hv1 (by rw [z_toInt]; omega) (by rw [z_toInt]; exact hv1.2.2.2)
    refine Ok.free k2 (fun p hp h1 h2 h3 h4 => upd_n (by omega)) (fun v hv q => ?_) (fun l hl q => (show upd _ (19 + 4 * j + 3) _ (43 + 15 * l + 14) = _ from upd_n (by omega)).trans (q 14 (by omega)))
    by_cases e : v = j
    · subst e
      exact upd_s
    · exact (show upd _ (19 + 4 * j + 3) _ (19 + 4 * v + 3) = _ from upd_n (by omega)).trans (q 3 (by omega))
theorem Ok_weigh {r : Nat → Int32} {w g : Int32} (k : Ok r) : Ok (F_weigh r w g).2 := by
  unfold F_weigh
  cases hb : okB (r 7) w && rngB 1 100000 g with
  | false => exact k
  | true =>
    obtain ⟨hb1, hb2⟩ := Bool.and_eq_true_iff.mp hb
    obtain ⟨j, hj, rfl, hv⟩ := k.vok hb1
    rw [cl_nI (by omega)]
    obtain ⟨⟨d, hd, ed⟩, v1, v2, v3⟩ := id hv
    rw [ed, cl_nI (by omega)]
    cases hc : decide (r (11 + d) + g ≤ 1000000) with
    | false => exact k
    | true =>
      show Ok (upd (upd r (11 + d) (r (11 + d) + g)) (19 + 4 * j + 2) (vt r j 2 + g))
      have hc1 := of_decide_eq_true hc
      have hg := rngB_i.mp hb2
      have y1 : (1 : Int32).toInt = 1 := by decide
      have y2 : (100000 : Int32).toInt = 100000 := by decide
      have y3 : (1000000 : Int32).toInt = 1000000 := by decide
      obtain ⟨c1, c2⟩ := k.cap1 hj hd ed
      obtain ⟨w1, w2, w3⟩ := k.wok d hd
      rw [i_le, i_le, y1, y2] at hg
      have s1 : (r (11 + d) + g).toInt = (r (11 + d)).toInt + g.toInt := i_add (by omega) (by omega)
      have s2 : (vt r j 2 + g).toInt = (vt r j 2).toInt + g.toInt := i_add (by omega) (by omega)
      rw [i_le, s1, y3] at hc1
      have fv : ∀ v i, v < 6 → i < 4 → (v = j → i ≠ 2) → vt (upd (upd r (11 + d) (r (11 + d) + g)) (19 + 4 * j + 2) (vt r j 2 + g)) v i = vt r v i := fun v i h1 h2 h3 => (upd_n (by by_cases e : v = j; have := h3 e; omega; omega)).trans (upd_n (by omega))
      have fl : ∀ l i, l < 20 → i < 15 → ltx (upd (upd r (11 + d) (r (11 + d) + g)) (19 + 4 * j + 2) (vt r j 2 + g)) l i = ltx r l i := fun l i h1 h2 => (upd_n (by omega)).trans (upd_n (by omega))
      have fo : ∀ o i, o < 60 → i < 5 → od (upd (upd r (11 + d) (r (11 + d) + g)) (19 + 4 * j + 2) (vt r j 2 + g)) o i = od r o i := fun l i h1 h2 => (upd_n (by omega)).trans (upd_n (by omega))
      have e2 : vt (upd (upd r (11 + d) (r (11 + d) + g)) (19 + 4 * j + 2) (vt r j 2 + g)) j 2 = vt r j 2 + g := upd_s
      refine Ok.of k ((upd_n (by omega)).trans (upd_n (by omega))) ((upd_n (by omega)).trans (upd_n (by omega))) ((upd_n (by omega)).trans (upd_n (by omega))) (fun q => q.ext (fun p hp => (upd_n (by omega)).trans (upd_n (by omega)))) (fun v h1 q => ?_) (fun v h1 q i hi => ?_) (fun l hl q => q.ext (fun i hi => fl l i hl hi)) (fun l hl q i hi => (fl l i hl hi).trans (q i hi)) (fun o ho q => by rw [fo o 4 ho (by omega)]; exact q) (fun o ho _ q i hi => (fo o i ho hi).trans (q i hi)) (fun q d2 hd2 => ?_)
      · by_cases e : v = j
        · subst e
          unfold VOk
          rw [fv v 0 h1 (by omega) (by omega), fv v 1 h1 (by omega) (by omega), e2, s2]
          exact ⟨⟨d, hd, ed⟩, v1, v2, by omega⟩
        · exact q.ext (fun i hi => fv v i h1 hi (fun z => absurd z e))
      · by_cases e : v = j
        · subst e
          exact (hv.nz q).elim
        · exact (fv v i h1 hi (fun z => absurd z e)).trans (q i hi)
      · obtain ⟨q1, q2, q3⟩ := q d2 hd2
        have gs := gsum_one (r := r) (r2 := upd (upd r (11 + d) (r (11 + d) + g)) (19 + 4 * j + 2) (vt r j 2 + g)) (d := d2) (k := 6) (j := j) hj (fun v hv => fv v 0 hv (by omega) (by omega)) (fun v hv hn => fv v 2 hv (by omega) (fun z => absurd z hn))
        rw [e2, s2] at gs
        by_cases z : d2 = d
        · subst z
          have e11 : upd (upd r (11 + d2) (r (11 + d2) + g)) (19 + 4 * j + 2) (vt r j 2 + g) (11 + d2) = r (11 + d2) + g := (upd_n (by omega)).trans upd_s
          rw [if_pos ed] at gs
          refine ⟨by rw [e11, s1]; omega, by rw [e11, s1]; omega, fun l hl => ?_⟩
          rw [e11, s1, fl l _ hl (by omega), fl l _ hl (by omega), gs]
          have q4 := q3 l hl
          omega
        · have e11 : upd (upd r (11 + d) (r (11 + d) + g)) (19 + 4 * j + 2) (vt r j 2 + g) (11 + d2) = r (11 + d2) := (upd_n (by omega)).trans (upd_n (by omega))
          have zz : ¬ vt r j 0 = nI d2 := by
            rw [ed]
            intro q
            exact z ((nI_eq (by omega) (by omega)).mp q).symm
          rw [if_neg zz] at gs
          refine ⟨by rw [e11]; omega, by rw [e11]; omega, fun l hl => ?_⟩
          rw [e11, fl l _ hl (by omega), fl l _ hl (by omega), gs]
          have q4 := q3 l hl
          omega
