theorem i_add {a b : Int32} (h1 : -2147483648 ≤ a.toInt + b.toInt) (h2 : a.toInt + b.toInt ≤ 2147483647) : (a + b).toInt = a.toInt + b.toInt := by
  rw [Int32.toInt_add]
  exact Int.bmod_eq_of_le (by omega) (by omega)
theorem i_sub {a b : Int32} (h1 : -2147483648 ≤ a.toInt - b.toInt) (h2 : a.toInt - b.toInt ≤ 2147483647) : (a - b).toInt = a.toInt - b.toInt := by
  rw [Int32.toInt_sub]
  exact Int.bmod_eq_of_le (by omega) (by omega)
theorem i_mul {a b : Int32} {A B : Int} (h1 : 0 ≤ a.toInt) (h2 : a.toInt ≤ A) (h3 : 0 ≤ b.toInt) (h4 : b.toInt ≤ B) (h5 : A * B < 2147483648) : (a * b).toInt = a.toInt * b.toInt ∧ 0 ≤ a.toInt * b.toInt ∧ a.toInt * b.toInt ≤ A * B := by
  have p1 : 0 ≤ a.toInt * b.toInt := Int.mul_nonneg h1 h3
  have p2 : a.toInt * b.toInt ≤ A * B := Int.mul_le_mul h2 h4 h3 (by omega)
  refine ⟨?_, p1, p2⟩
  rw [Int32.toInt_mul]
  exact Int.bmod_eq_of_le (by omega) (by omega)
theorem tak_b {r0 l g : Int32} {x : Nat → Int32} (k : Dok r0 l x) (hg : 0 ≤ g.toInt) (hg2 : g.toInt ≤ 1000000) : 0 ≤ (takF r0 x g l).toInt ∧ (takF r0 x g l).toInt ≤ g.toInt := by
  obtain ⟨e1, e2, p1, p2, p3, p4⟩ := k.all
  have e3 := l_mul (a := g.toInt64) (b := ((x 0).toInt64 + 1) * (x 1).toInt64) (A := 1000000) (B := 10000) (by rw [Int32.toInt_toInt64]; omega) (by rw [Int32.toInt_toInt64]; omega) (by omega) (by omega) (by decide)
  have e4 := e3.1
  rw [Int32.toInt_toInt64, e1] at e4
  have q0 : 0 ≤ g.toInt * (((x 0).toInt + 1) * (x 1).toInt) := Int.mul_nonneg hg (by omega)
  have d0 : 0 ≤ g.toInt * (((x 0).toInt + 1) * (x 1).toInt) / (((x 0).toInt + 1) * (x 1).toInt + r0.toInt * l.toInt) := Int.ediv_nonneg q0 (by omega)
  have d1 : g.toInt * (((x 0).toInt + 1) * (x 1).toInt) / (((x 0).toInt + 1) * (x 1).toInt + r0.toInt * l.toInt) ≤ g.toInt := by
    refine Int.ediv_le_of_le_mul (by omega) ?_
    exact Int.mul_le_mul_of_nonneg_left (by omega) hg
  have e : (takF r0 x g l).toInt = g.toInt * (((x 0).toInt + 1) * (x 1).toInt) / (((x 0).toInt + 1) * (x 1).toInt + r0.toInt * l.toInt) := by
    unfold takF
    rw [Int64.toInt_toInt32, Int64.toInt_div, e2, e4, Int.tdiv_eq_ediv_of_nonneg q0]
    generalize g.toInt * (((x 0).toInt + 1) * (x 1).toInt) / (((x 0).toInt + 1) * (x 1).toInt + r0.toInt * l.toInt) = z at d0 d1
    rw [Int.bmod_eq_of_le (n := z) (m := 2 ^ 64) (by omega) (by omega)]
    exact Int.bmod_eq_of_le (by omega) (by omega)
  omega
theorem loo_b {t r5 : Int32} (h1 : 0 ≤ t.toInt) (h2 : t.toInt ≤ 1000000) (h3 : 0 ≤ r5.toInt) (h4 : r5.toInt ≤ 50) : 0 ≤ (t * r5 / 100).toInt ∧ (t * r5 / 100).toInt ≤ t.toInt := by
  obtain ⟨e1, p1, p2⟩ := i_mul h1 h2 h3 h4 (by decide)
  have d0 : 0 ≤ t.toInt * r5.toInt / 100 := Int.ediv_nonneg p1 (by omega)
  have d1 : t.toInt * r5.toInt / 100 ≤ t.toInt := by
    refine Int.ediv_le_of_le_mul (by omega) ?_
    exact Int.mul_le_mul_of_nonneg_left (by omega) h1
  have e100 : (100 : Int32).toInt = 100 := by decide
  have e : (t * r5 / 100).toInt = t.toInt * r5.toInt / 100 := by
    rw [Int32.toInt_div, e1, e100, Int.tdiv_eq_ediv_of_nonneg p1]
    exact Int.bmod_eq_of_le (by omega) (by omega)
  omega
theorem VOk.ext {y z : Nat → Int32} (k : VOk y) (e : ∀ j, j < 4 → z j = y j) : VOk z := by
  unfold VOk
  rw [e 0 (by omega), e 1 (by omega), e 2 (by omega)]
  exact k
theorem LOk.ext {y z : Nat → Int32} (k : LOk y) (e : ∀ j, j < 15 → z j = y j) : LOk z := by
  obtain ⟨k0, k1, k2, k3, k4, k5, k6, k7, k8⟩ := k
  refine ⟨by rw [e 0 (by omega)]; exact k0, by rw [e 1 (by omega)]; exact k1, by rw [e 1 (by omega)]; exact k2, fun j h1 h2 => ?_, by rw [e 10 (by omega)]; exact k4, by rw [e 11 (by omega)]; exact k5, by rw [e 12 (by omega)]; exact k6, by rw [e 13 (by omega)]; exact k7, by rw [e 13 (by omega)]; exact k8⟩
  rw [e j (by omega)]
  exact k3 j h1 h2
theorem gsum_ext {r r2 : Nat → Int32} {d : Nat} : ∀ {k : Nat}, (∀ v, v < k → vt r2 v 0 = vt r v 0 ∧ vt r2 v 2 = vt r v 2) → gsum r2 d k = gsum r d k
  | 0, _ => rfl
  | k + 1, h => by
    show gsum r2 d k + _ = gsum r d k + _
    rw [gsum_ext (fun v hv => h v (by omega)), (h k (by omega)).1, (h k (by omega)).2]
theorem gsum_one {r r2 : Nat → Int32} {d j : Nat} : ∀ {k : Nat}, j < k → (∀ v, v < k → vt r2 v 0 = vt r v 0) → (∀ v, v < k → v ≠ j → vt r2 v 2 = vt r v 2) → gsum r2 d k = gsum r d k + (if vt r j 0 = nI d then (vt r2 j 2).toInt - (vt r j 2).toInt else 0)
  | 0, h, _, _ => absurd h (by omega)
  | k + 1, h, h1, h2 => by
    show gsum r2 d k + (if vt r2 k 0 = nI d then (vt r2 k 2).toInt else 0) = gsum r d k + (if vt r k 0 = nI d then (vt r k 2).toInt else 0) + _
    by_cases e : j = k
    · subst e
      rw [gsum_ext (fun v hv => ⟨h1 v (by omega), h2 v (by omega) (by omega)⟩), h1 j (by omega)]
      by_cases z : vt r j 0 = nI d
      · simp only [if_pos z]
        omega
      · simp only [if_neg z]
        omega
    · rw [gsum_one (by omega) (fun v hv => h1 v (by omega)) (fun v hv => h2 v (by omega)), h1 k (by omega), h2 k (by omega) (fun z => e z.symm)]
      omega
theorem gsum_ge {r : Nat → Int32} {d : Nat} : ∀ {k : Nat}, (∀ v, v < k → 0 ≤ (vt r v 2).toInt) → 0 ≤ gsum r d k
  | 0, _ => Int.le_refl 0
  | k + 1, h => by
    show 0 ≤ gsum r d k + _
    have h1 := gsum_ge (d := d) (fun v hv => h v (by omega) : ∀ v, v < k → 0 ≤ (vt r v 2).toInt)
    have h2 := h k (by omega)
    by_cases z : vt r k 0 = nI d
    · rw [if_pos z]; omega
    · rw [if_neg z]; omega
theorem gsum_le {r : Nat → Int32} {d j : Nat} : ∀ {k : Nat}, j < k → (∀ v, v < k → 0 ≤ (vt r v 2).toInt) → vt r j 0 = nI d → (vt r j 2).toInt ≤ gsum r d k
  | 0, h, _, _ => absurd h (by omega)
  | k + 1, h, h1, h2 => by
    show _ ≤ gsum r d k + _
    have g0 := gsum_ge (d := d) (fun v hv => h1 v (by omega) : ∀ v, v < k → 0 ≤ (vt r v 2).toInt)
    by_cases e : j = k
    · subst e
      rw [if_pos h2]
      omega
    · have g1 := gsum_le (k := k) (by omega) (fun v hv => h1 v (by omega)) h2
      have h3 := h1 k (by omega)
      by_cases z : vt r k 0 = nI d
      · rw [if_pos z]; omega
      · rw [if_neg z]; omega
theorem Ok.of {r r2 : Nat → Int32} (k : Ok r) (e7 : r2 7 = r 7) (e8 : r2 8 = r 8) (e9 : r2 9 = r 9) (hs : SOk r → SOk r2) (hv : ∀ v, v < 6 → VOk (vt r v) → VOk (vt r2 v)) (hvz : ∀ v, v < 6 → (∀ k, k < 4 → vt r v k = 0) → ∀ k, k < 4 → vt r2 v k = 0) (hl : ∀ l, l < 20 → LOk (ltx r l) → LOk (ltx r2 l)) (hlz : ∀ l, l < 20 → (∀ k, k < 15 → ltx r l k = 0) → ∀ k, k < 15 → ltx r2 l k = 0) (ho : ∀ o, o < 60 → bz (od r o 4) → bz (od r2 o 4)) (hoz : ∀ o, o < 60 → (∀ nno, r 9 = nI nno → nno ≤ 60 → nno ≤ o) → (∀ k, k < 5 → od r o k = 0) → ∀ k, k < 5 → od r2 o k = 0) (hw : (∀ d, d < 4 → WOk r d) → ∀ d, d < 4 → WOk r2 d) : Ok r2 := by
  obtain ⟨nv, nl, no, hnv, hnl, hno, f7, f8, f9, kset, kvok, kvz, klok, klz, kok, koz, kw⟩ := k
  refine ⟨nv, nl, no, hnv, hnl, hno, e7.trans f7, e8.trans f8, e9.trans f9, hs kset, fun v h => hv v (by omega) (kvok v h), fun v h1 h2 => hvz v h2 (kvz v h1 h2), fun l h => hl l (by omega) (klok l h), fun l h1 h2 => hlz l h2 (klz l h1 h2), fun o h => ho o (by omega) (kok o h), fun o h1 h2 => hoz o h2 (fun nno q qq => ?_) (koz o h1 h2), hw kw⟩
  have z : nI nno = nI no := q.symm.trans f9
  rw [(nI_eq (by omega) (by omega)).mp z]
  exact h1
theorem WOk.ext {r r2 : Nat → Int32} {d : Nat} (k : WOk r d) (e : r2 (11 + d) = r (11 + d)) (hv : ∀ v, v < 6 → vt r2 v 0 = vt r v 0 ∧ vt r2 v 2 = vt r v 2) (hl : ∀ l, l < 20 → ltx r2 l (2 + d) = ltx r l (2 + d) ∧ ltx r2 l (6 + d) = ltx r l (6 + d)) : WOk r2 d := by
  obtain ⟨k1, k2, k3⟩ := k
  refine ⟨by rw [e]; exact k1, by rw [e]; exact k2, fun l h => ?_⟩
  rw [e, (hl l h).1, (hl l h).2, gsum_ext hv]
  exact k3 l h
theorem SOk.ext {r r2 : Nat → Int32} (k : SOk r) (e : ∀ p, p < 7 → r2 p = r p) : SOk r2 := fun j hj => by
  rw [e j hj]
  exact k j hj
/-- only numbers that no bound speaks of changed -/
theorem Ok.free {r r2 : Nat → Int32} (k : Ok r) (h : ∀ p, p < 643 → p ≠ 10 → (p < 15 ∨ 19 ≤ p) → (p < 19 ∨ 43 ≤ p ∨ (p - 19) % 4 ≠ 3) → (p < 43 ∨ 343 ≤ p ∨ (p - 43) % 15 ≠ 14) → r2 p = r p) (hd : ∀ v, v < 6 → (∀ k, k < 4 → vt r v k = 0) → vt r2 v 3 = 0) (hx : ∀ l, l < 20 → (∀ k, k < 15 → ltx r l k = 0) → ltx r2 l 14 = 0) : Ok r2 := by
  have hv : ∀ v k, v < 6 → k < 3 → vt r2 v k = vt r v k := fun v k hv hk => h _ (by omega) (by omega) (by omega) (by omega) (by omega)
  have hl : ∀ l k, l < 20 → k < 14 → ltx r2 l k = ltx r l k := fun l k hv hk => h _ (by omega) (by omega) (by omega) (by omega) (by omega)
  have ho : ∀ o k, o < 60 → k < 5 → od r2 o k = od r o k := fun o k hv hk => h _ (by omega) (by omega) (by omega) (by omega) (by omega)
  refine Ok.of k (h 7 (by omega) (by omega) (by omega) (by omega) (by omega)) (h 8 (by omega) (by omega) (by omega) (by omega) (by omega)) (h 9 (by omega) (by omega) (by omega) (by omega) (by omega)) (fun q => q.ext (fun p hp => h p (by omega) (by omega) (by omega) (by omega) (by omega))) (fun v h1 q => ?_) (fun v h1 q k hk => ?_) (fun l h1 q => ?_) (fun l h1 q k hk => ?_) (fun o h1 q => by rw [ho o 4 h1 (by omega)]; exact q) (fun o h1 _ q k hk => by rw [ho o k h1 hk]; exact q k hk) (fun q d hd4 => (q d hd4).ext (h _ (by omega) (by omega) (by omega) (by omega) (by omega)) (fun v h1 => ⟨hv v 0 h1 (by omega), hv v 2 h1 (by omega)⟩) (fun l h1 => ⟨hl l _ h1 (by omega), hl l _ h1 (by omega)⟩))
  · unfold VOk
    rw [hv v 0 h1 (by omega), hv v 1 h1 (by omega), hv v 2 h1 (by omega)]
    exact q
  · by_cases e : k = 3
    · subst e
      exact hd v h1 q
    · rw [hv v k h1 (by omega)]
      exact q k hk
  · obtain ⟨k0, k1, k2, k3, k4, k5, k6, k7, k8⟩ := q
    refine ⟨by rw [hl l 0 h1 (by omega)]; exact k0, by rw [hl l 1 h1 (by omega)]; exact k1, by rw [hl l 1 h1 (by omega)]; exact k2, fun j a1 a2 => ?_, by rw [hl l 10 h1 (by omega)]; exact k4, by rw [hl l 11 h1 (by omega)]; exact k5, by rw [hl l 12 h1 (by omega)]; exact k6, by rw [hl l 13 h1 (by omega)]; exact k7, by rw [hl l 13 h1 (by omega)]; exact k8⟩
    rw [hl l j h1 (by omega)]
    exact k3 j a1 a2
  · by_cases e : k = 14
    · subst e
      exact hx l h1 q
    · rw [hl l k h1 (by omega)]
      exact q k hk
