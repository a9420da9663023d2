def F_set (r : Nat → Int32) (w x : Int32) : Int32 × (Nat → Int32) :=
  cond (okB 7 w && rngB (leastF (cl w)) (mostF (cl w)) x) (r (cl w), upd r (cl w) x) (-1, r)
/-- only the marks of one lot changed -/
theorem Ok.mark {r r2 : Nat → Int32} {l : Nat} (k : Ok r) (hl : l < 20) (hlo : LOk (ltx r l)) (h : ∀ p, p < 643 → (p < 43 + 15 * l + 10 ∨ 43 + 15 * l + 15 ≤ p) → (p < 343 ∨ (p - 343) % 5 ≠ 4) → r2 p = r p) (hz : ∀ o, o < 60 → (∀ nno, r 9 = nI nno → nno ≤ 60 → nno ≤ o) → od r2 o 4 = od r o 4) (ho : ∀ o, o < 60 → bz (od r o 4) → bz (od r2 o 4)) (b0 : bz (ltx r2 l 10)) (b1 : bz (ltx r2 l 11)) (b2 : bz (ltx r2 l 12)) (b3 : 0 ≤ (ltx r2 l 13).toInt) (b4 : (ltx r2 l 13).toInt ≤ 60) : Ok r2 := by
  have fv : ∀ v i, v < 6 → i < 4 → vt r2 v i = vt r v i := fun v i h1 h2 => h _ (by omega) (by omega) (by omega)
  have fl : ∀ m i, m < 20 → i < 15 → (m = l → i < 10) → ltx r2 m i = ltx r m i := fun m i h1 h2 h3 => h _ (by omega) (by by_cases e : m = l; have := h3 e; omega; omega) (by omega)
  refine Ok.of k (h 7 (by omega) (by omega) (by omega)) (h 8 (by omega) (by omega) (by omega)) (h 9 (by omega) (by omega) (by omega)) (fun q => q.ext (fun p hp => h p (by omega) (by omega) (by omega))) (fun v h1 q => q.ext (fun i hi => fv v i h1 hi)) (fun v h1 q i hi => (fv v i h1 hi).trans (q i hi)) (fun m hm q => ?_) (fun m hm q i hi => ?_) ho (fun o h1 h2 q i hi => ?_) (fun q d hd => (q d hd).ext (h _ (by omega) (by omega) (by omega)) (fun v h1 => ⟨fv v 0 h1 (by omega), fv v 2 h1 (by omega)⟩) (fun m hm => ⟨fl m _ hm (by omega) (by omega), fl m _ hm (by omega) (by omega)⟩))
  · by_cases e : m = l
    · subst e
      obtain ⟨k0, k1, k2, k3, -⟩ := q
      refine ⟨by rw [fl m 0 hm (by omega) (by omega)]; exact k0, by rw [fl m 1 hm (by omega) (by omega)]; exact k1, by rw [fl m 1 hm (by omega) (by omega)]; exact k2, fun j a1 a2 => ?_, b0, b1, b2, b3, b4⟩
      rw [fl m j hm (by omega) (by omega)]
      exact k3 j a1 a2
    · exact q.ext (fun i hi => fl m i hm hi (fun z => absurd z e))
  · by_cases e : m = l
    · subst e
      exact (hlo.nz q).elim
    · exact (fl m i hm hi (fun z => absurd z e)).trans (q i hi)
  · by_cases e : i = 4
    · subst e
      exact (hz o h1 h2).trans (q 4 (by omega))
    · exact (h _ (by omega) (by omega) (by omega)).trans (q i hi)
theorem Ok.hng {r : Nat → Int32} {l : Nat} {x : Int32} (k : Ok r) (hl : l < 20) (hlo : LOk (ltx r l)) (hx : bz x) : Ok (upd r (43 + 15 * l + 10) x) := by
  obtain ⟨-, -, -, -, k4, k5, k6, k7, k8⟩ := id hlo
  have e10 : ltx (upd r (43 + 15 * l + 10) x) l 10 = x := upd_s
  have e : ∀ i, i ≠ 10 → ltx (upd r (43 + 15 * l + 10) x) l i = ltx r l i := fun i hi => upd_n (by omega)
  refine Ok.mark k hl hlo (fun p h1 h2 h3 => upd_n (by omega)) (fun o h1 h2 => upd_n (by omega)) (fun o h1 q => by rw [show od (upd r (43 + 15 * l + 10) x) o 4 = od r o 4 from upd_n (by omega)]; exact q) (by rw [e10]; exact hx) (by rw [e 11 (by omega)]; exact k5) (by rw [e 12 (by omega)]; exact k6) (by rw [e 13 (by omega)]; exact k7) (by rw [e 13 (by omega)]; exact k8)
theorem Ok_hang {r : Nat → Int32} {w x : Int32} (k : Ok r) : Ok (F_hang r w x).2 := by
  unfold F_hang
  cases hb : okB (r 8) w && rngB 0 1 x with
  | false => exact k
  | true =>
    obtain ⟨j, hj, rfl, hlo⟩ := k.lok (Bool.and_eq_true_iff.mp hb).1
    rw [cl_nI (by omega)]
    cases sold r j || (hangs r j || decide (¬ ltx r j 0 = x)) with
    | true => exact k
    | false =>
      cases decide (4 ≤ nI (rackN r x)) with
      | true => exact k
      | false => exact k.hng hj hlo (Or.inr rfl)
theorem Ok_take {r : Nat → Int32} {w : Int32} (k : Ok r) : Ok (F_take r w).2 := by
  unfold F_take
  cases hb : okB (r 8) w with
  | false => exact k
  | true =>
    obtain ⟨j, hj, rfl, hlo⟩ := k.lok hb
    rw [cl_nI (by omega)]
    cases hangs r j with
    | true => exact k.hng hj hlo (Or.inl rfl)
    | false => exact k
theorem Ok_sell {r : Nat → Int32} {w o : Int32} (k : Ok r) : Ok (F_sell r w o).2 := by
  unfold F_sell
  cases hb : okB (r 8) w && okB (r 9) o with
  | false => exact k
  | true =>
    obtain ⟨j, hj, rfl, hlo⟩ := k.lok (Bool.and_eq_true_iff.mp hb).1
    obtain ⟨i, no, hi, hno, e9, rfl, hbz⟩ := k.ook (Bool.and_eq_true_iff.mp hb).2
    rw [cl_nI (by omega), cl_nI (by omega)]
    cases sold r j || (!hangs r j || (decide (¬ od r i 4 = 0) || !fitB (ltx r j) (od r i) r)) with
    | true => exact k
    | false =>
      show Ok (upd (upd (upd r (43 + 15 * j + 13) (nI i + 1)) (43 + 15 * j + 10) 0) (343 + 5 * i + 4) 1)
      obtain ⟨-, -, -, -, k4, k5, k6, k7, k8⟩ := id hlo
      have e10 : ltx (upd (upd (upd r (43 + 15 * j + 13) (nI i + 1)) (43 + 15 * j + 10) 0) (343 + 5 * i + 4) 1) j 10 = 0 := (upd_n (by omega)).trans upd_s
      have e13 : ltx (upd (upd (upd r (43 + 15 * j + 13) (nI i + 1)) (43 + 15 * j + 10) 0) (343 + 5 * i + 4) 1) j 13 = nI (i + 1) := ((upd_n (by omega)).trans ((upd_n (by omega)).trans upd_s)).trans (nI_1 i)
      have e : ∀ m, m = 11 ∨ m = 12 → ltx (upd (upd (upd r (43 + 15 * j + 13) (nI i + 1)) (43 + 15 * j + 10) 0) (343 + 5 * i + 4) 1) j m = ltx r j m := fun m hm => (upd_n (by omega)).trans ((upd_n (by omega)).trans (upd_n (by omega)))
      have t13 : (nI (i + 1)).toInt = ((i + 1 : Nat) : Int) := nI_toInt (by omega)
      refine Ok.mark k hj hlo (fun p h1 h2 h3 => (upd_n (by omega)).trans ((upd_n (by omega)).trans (upd_n (by omega)))) (fun q h1 h2 => ?_) (fun q h1 h2 => ?_) (by rw [e10]; exact Or.inl rfl) (by rw [e 11 (by omega)]; exact k5) (by rw [e 12 (by omega)]; exact k6) (by rw [e13, t13]; omega) (by rw [e13, t13]; omega)
      · have z := h2 no e9 hno
        exact (upd_n (by omega)).trans ((upd_n (by omega)).trans (upd_n (by omega)))
      · by_cases z : q = i
        · subst z
          rw [show od (upd (upd (upd r (43 + 15 * j + 13) (nI q + 1)) (43 + 15 * j + 10) 0) (343 + 5 * q + 4) 1) q 4 = 1 from upd_s]
          exact Or.inr rfl
        · rw [show od (upd (upd (upd r (43 + 15 * j + 13) (nI i + 1)) (43 + 15 * j + 10) 0) (343 + 5 * i + 4) 1) q 4 = od r q 4 from (upd_n (by omega)).trans ((upd_n (by omega)).trans (upd_n (by omega)))]
          exact h2
theorem Ok_set {r : Nat → Int32} {w x : Int32} (k : Ok r) : Ok (F_set r w x).2 := by
  unfold F_set
  cases hb : okB 7 w && rngB (leastF (cl w)) (mostF (cl w)) x with
  | false => exact k
  | true =>
    obtain ⟨hb1, hb2⟩ := Bool.and_eq_true_iff.mp hb
    obtain ⟨j, hj, rfl⟩ := okB_i (n := 7) (by omega) hb1
    rw [cl_nI (by omega)] at hb2 ⊢
    have hr := rngB_i.mp hb2
    show Ok (upd r j x)
    refine Ok.of k (upd_n (by omega)) (upd_n (by omega)) (upd_n (by omega)) (fun q i hi => ?_) (fun v h1 q => q.ext (fun i hi => upd_n (by omega))) (fun v h1 q i hi => (show upd r j x (19 + 4 * v + i) = r (19 + 4 * v + i) from upd_n (by omega)).trans (q i hi)) (fun v h1 q => q.ext (fun i hi => upd_n (by omega))) (fun v h1 q i hi => (show upd r j x (43 + 15 * v + i) = r (43 + 15 * v + i) from upd_n (by omega)).trans (q i hi)) (fun o ho q => by rw [show od (upd r j x) o 4 = od r o 4 from upd_n (by omega)]; exact q) (fun v h1 _ q i hi => (show upd r j x (343 + 5 * v + i) = r (343 + 5 * v + i) from upd_n (by omega)).trans (q i hi)) (fun q d hd => (q d hd).ext (upd_n (by omega)) (fun v h1 => ⟨upd_n (by omega), upd_n (by omega)⟩) (fun l h1 => ⟨upd_n (by omega), upd_n (by omega)⟩))
    by_cases e : i = j
    · subst e
      rw [upd_s]
      exact hr
    · rw [upd_n e]
      exact q i hi
/-- the loose grains of a lot become nothing -/
theorem Ok.lz {r : Nat → Int32} {l m : Nat} (k : Ok r) (hl : l < 20) (hm : m < 4) (hlo : LOk (ltx r l)) : Ok (upd r (43 + 15 * l + (6 + m)) 0) := by
  have fl : ∀ n i, n < 20 → i < 15 → (n = l → i ≠ 6 + m) → ltx (upd r (43 + 15 * l + (6 + m)) 0) n i = ltx r n i := fun n i h1 h2 h3 => upd_n (by by_cases e : n = l; have := h3 e; omega; omega)
  have e0 : ltx (upd r (43 + 15 * l + (6 + m)) 0) l (6 + m) = 0 := upd_s
  refine Ok.of k (upd_n (by omega)) (upd_n (by omega)) (upd_n (by omega)) (fun q => q.ext (fun p hp => upd_n (by omega))) (fun v h1 q => q.ext (fun i hi => upd_n (by omega))) (fun v h1 q i hi => (show upd r _ 0 (19 + 4 * v + i) = r (19 + 4 * v + i) from upd_n (by omega)).trans (q i hi)) (fun n hn q => ?_) (fun n hn q i hi => ?_) (fun o ho q => by rw [show od (upd r (43 + 15 * l + (6 + m)) 0) o 4 = od r o 4 from upd_n (by omega)]; exact q) (fun v h1 _ q i hi => (show upd r _ 0 (343 + 5 * v + i) = r (343 + 5 * v + i) from upd_n (by omega)).trans (q i hi)) (fun q d hd => ?_)
  · by_cases e : n = l
    · subst e
      obtain ⟨k0, k1, k2, k3, k4, k5, k6, k7, k8⟩ := q
      refine ⟨by rw [fl n 0 hn (by omega) (by omega)]; exact k0, by rw [fl n 1 hn (by omega) (by omega)]; exact k1, by rw [fl n 1 hn (by omega) (by omega)]; exact k2, fun j a1 a2 => ?_, by rw [fl n 10 hn (by omega) (by omega)]; exact k4, by rw [fl n 11 hn (by omega) (by omega)]; exact k5, by rw [fl n 12 hn (by omega) (by omega)]; exact k6, by rw [fl n 13 hn (by omega) (by omega)]; exact k7, by rw [fl n 13 hn (by omega) (by omega)]; exact k8⟩
      by_cases z : j = 6 + m
      · subst z
        rw [e0, z_toInt]
        omega
      · rw [fl n j hn (by omega) (fun _ => z)]
        exact k3 j a1 a2
    · exact q.ext (fun i hi => fl n i hn hi (fun z => absurd z e))
  · by_cases e : n = l
    · subst e
      exact (hlo.nz q).elim
    · exact (fl n i hn hi (fun z => absurd z e)).trans (q i hi)
  · obtain ⟨q1, q2, q3⟩ := q d hd
    have e11 : upd r (43 + 15 * l + (6 + m)) 0 (11 + d) = r (11 + d) := upd_n (by omega)
    have gs : gsum (upd r (43 + 15 * l + (6 + m)) 0) d 6 = gsum r d 6 := gsum_ext (fun v hv => ⟨upd_n (by omega), upd_n (by omega)⟩)
    refine ⟨by rw [e11]; exact q1, by rw [e11]; exact q2, fun n hn => ?_⟩
    have q4 := q3 n hn
    have q5 := k.lge n (6 + d) hn (by omega) (by omega)
    rw [e11, gs, fl n (2 + d) hn (by omega) (by omega)]
    by_cases z : n = l ∧ d = m
    · obtain ⟨rfl, rfl⟩ := z
      rw [e0, z_toInt]
      omega
    · rw [fl n (6 + d) hn (by omega) (by omega)]
      exact q4
theorem Ok.was {r : Nat → Int32} {d : Nat} {x : Int32} (k : Ok r) (hd : d < 4) : Ok (upd r (15 + d) x) := Ok.free k (fun p hp h1 h2 h3 h4 => upd_n (by omega)) (fun v hv q => (show upd r (15 + d) _ (19 + 4 * v + 3) = r (19 + 4 * v + 3) from upd_n (by omega)).trans (q 3 (by omega))) (fun l hl q => (show upd r (15 + d) _ (43 + 15 * l + 14) = r (43 + 15 * l + 14) from upd_n (by omega)).trans (q 14 (by omega)))
theorem Ok_rin {r : Nat → Int32} {l : Nat} (k : Ok r) (hl : l < 20) (hlo : LOk (ltx r l)) : ∀ n, n ≤ 4 → Ok (rinR r l n) ∧ LOk (ltx (rinR r l n) l)
  | 0, _ => ⟨k, hlo⟩
  | n + 1, h => by
    obtain ⟨k1, k2⟩ := Ok_rin k hl hlo n (by omega)
    have k3 := k1.was (d := n) (x := rinR r l n (15 + n) + rinR r l n (43 + 15 * l + (6 + n))) (by omega)
    have k4 : LOk (ltx (upd (rinR r l n) (15 + n) (rinR r l n (15 + n) + rinR r l n (43 + 15 * l + (6 + n)))) l) := k2.ext (fun i hi => upd_n (by omega))
    refine ⟨k3.lz hl (by omega) k4, ?_⟩
    obtain ⟨q0, q1, q2, q3, q4, q5, q6, q7, q8⟩ := k4
    have fl : ∀ i, i ≠ 6 + n → ltx (rinR r l (n + 1)) l i = ltx (upd (rinR r l n) (15 + n) (rinR r l n (15 + n) + rinR r l n (43 + 15 * l + (6 + n)))) l i := fun i hi => upd_n (by omega)
    have e0 : ltx (rinR r l (n + 1)) l (6 + n) = 0 := upd_s
    refine ⟨by rw [fl 0 (by omega)]; exact q0, by rw [fl 1 (by omega)]; exact q1, by rw [fl 1 (by omega)]; exact q2, fun j a1 a2 => ?_, by rw [fl 10 (by omega)]; exact q4, by rw [fl 11 (by omega)]; exact q5, by rw [fl 12 (by omega)]; exact q6, by rw [fl 13 (by omega)]; exact q7, by rw [fl 13 (by omega)]; exact q8⟩
    by_cases z : j = 6 + n
    · subst z
      rw [e0, z_toInt]
      omega
    · rw [fl j z]
      exact q3 j a1 a2
theorem Ok_rinse {r : Nat → Int32} {w : Int32} (k : Ok r) : Ok (F_rinse r w).2 := by
  unfold F_rinse
  cases hb : okB (r 8) w with
  | false => exact k
  | true =>
    obtain ⟨j, hj, rfl, hlo⟩ := k.lok hb
    rw [cl_nI (by omega)]
    cases sold r j || hangs r j with
    | true => exact k
    | false => exact (Ok_rin k hj hlo 4 (by omega)).1
