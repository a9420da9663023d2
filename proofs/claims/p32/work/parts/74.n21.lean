theorem sw_in {m : Nat} {k : Int32} (hm : m < 1000) (h : rngB 0 (nI m) k = true) : ∃ j, j ≤ m ∧ k = nI j := by
  obtain ⟨a, b⟩ := rng_b h
  rw [z_toInt] at a
  rw [nI_toInt (by omega)] at b
  obtain ⟨j, h1, h2⟩ := i_sm (x := k) (n := m + 1) a (by omega) (by omega)
  exact ⟨j, by omega, h2⟩
theorem sw_out {m : Nat} {k : Int32} (hm : m < 1000) (h : ¬ rngB 0 (nI m) k = true) : k.toInt < 0 ∨ (m : Int) < k.toInt := by
  refine Classical.byContradiction (fun z => h (rngB_t ?_ ?_))
  · rw [i_le, z_toInt]
    omega
  · rw [i_le, nI_toInt (by omega)]
    omega
theorem and_nn (x : Int32) : 0 ≤ (x &&& 2147483647).toInt := by
  have h : (x &&& 2147483647).toBitVec.msb = false := by
    rw [Int32.toBitVec_and, BitVec.msb_and]
    have e : (2147483647 : Int32).toBitVec.msb = false := by decide
    rw [e, Bool.and_false]
  exact BitVec.toInt_nonneg_of_msb_false h
theorem shr_nn {x : Int32} (h : 0 ≤ x.toInt) : 0 ≤ (x >>> (4 &&& 31)).toInt := by
  show 0 ≤ (x >>> (4 &&& 31)).toBitVec.toInt
  rw [Int32.toBitVec_shiftRight, BitVec.toInt_sshiftRight', Int.shiftRight_eq_div_pow]
  have p : (0 : Int) ≤ ((2 ^ ((4 &&& 31 : Int32).toBitVec.smod 32).toNat : Nat) : Int) := Int.natCast_nonneg _
  exact Int.ediv_nonneg h p
theorem i_top (x : Int32) : x.toInt ≤ 2147483647 := by
  have h := Int32.toInt_lt x
  omega
theorem div_q {x q : Int32} {m : Nat} (hx : 0 ≤ x.toInt) (hq : q = nI m) (h1 : 1 ≤ m) (h2 : m ≤ 100000) : (x / q).toInt = x.toInt / m ∧ 0 ≤ x.toInt / m ∧ x.toInt / m ≤ x.toInt := by
  have t := i_top x
  have d0 : 0 ≤ x.toInt / (m : Int) := Int.ediv_nonneg hx (by omega)
  have d1 : x.toInt / (m : Int) ≤ x.toInt := Int.ediv_le_self _ hx
  refine ⟨?_, d0, d1⟩
  rw [hq, Int32.toInt_div, nI_toInt (by omega), Int.tdiv_eq_ediv_of_nonneg hx]
  exact Int.bmod_eq_of_le (by omega) (by omega)
theorem rem_q {x q : Int32} {m : Nat} (hx : 0 ≤ x.toInt) (hq : q = nI m) (h1 : 1 ≤ m) (h2 : m ≤ 100000) : ∃ j, j < m ∧ x - x / q * q = nI j := by
  have t := i_top x
  obtain ⟨e, d0, d1⟩ := div_q hx hq h1 h2
  have eq : q.toInt = m := by rw [hq, nI_toInt (by omega)]
  have dm := Int.mul_ediv_add_emod x.toInt (m : Int)
  have m0 := Int.emod_nonneg x.toInt (b := (m : Int)) (by omega)
  have m1 := Int.emod_lt_of_pos x.toInt (b := (m : Int)) (by omega)
  have cm : (m : Int) * (x.toInt / m) = x.toInt / m * m := Int.mul_comm _ _
  rw [cm] at dm
  have e2 : (x / q * q).toInt = x.toInt / m * m := by
    rw [Int32.toInt_mul, e, eq]
    exact Int.bmod_eq_of_le (by omega) (by omega)
  have p0 : 0 ≤ x.toInt / (m : Int) * m := Int.mul_nonneg d0 (by omega)
  have e3 : (x - x / q * q).toInt = x.toInt % m := by
    rw [i_sub (by omega) (by omega), e2]
    omega
  obtain ⟨j, a, b⟩ := i_sm (x := x - x / q * q) (n := m) (by omega) (by omega) (by omega)
  exact ⟨j, a, b⟩
theorem nz_q {q : Int32} {m : Nat} (hq : q = nI m) (h1 : 1 ≤ m) (h2 : m ≤ 100000) : ¬ q = 0 := by
  rw [hq, nI_z (by omega)]
  omega
theorem m3_toInt : (-3 : Int32).toInt = -3 := by decide
theorem m2_toInt : (-2 : Int32).toInt = -2 := by decide
theorem ge_m3 {x : Int32} (h : -3 ≤ x.toInt) : ¬ x < -3 := by
  rw [i_lt, m3_toInt]
  omega
theorem ge_m2 {x : Int32} (h : -2 ≤ x.toInt) : ¬ x < -2 := by
  rw [i_lt, m2_toInt]
  omega
theorem m1_toInt : (-1 : Int32).toInt = -1 := by decide
section
variable {r : Nat → Int32} {a b c d : Int32} {l w : Nat}
theorem ge_vat (o : Ok r) : ¬ (F_vat r a b).1 < -3 := by
  refine ge_m3 ?_
  unfold F_vat
  cases rngB 0 3 a && rngB 10 1000 b with
  | false => exact Int.le_trans (by omega) (Int.le_of_eq m1_toInt.symm)
  | true =>
    cases decide (r 7 < 6) with
    | false => exact Int.le_of_eq m3_toInt.symm
    | true =>
      show -3 ≤ (r 7).toInt
      rw [o.e7, nI_toInt (by have := cl_le7 o; omega)]
      omega
theorem ge_lot (o : Ok r) : ¬ (F_lot r a b).1 < -3 := by
  refine ge_m3 ?_
  unfold F_lot
  cases rngB 0 1 a && rngB 100 5000 b with
  | false => exact Int.le_trans (by omega) (Int.le_of_eq m1_toInt.symm)
  | true =>
    cases decide (r 8 < 20) with
    | false => exact Int.le_of_eq m3_toInt.symm
    | true =>
      show -3 ≤ (r 8).toInt
      rw [o.e8, nI_toInt (by have := (cl_le o).1; omega)]
      omega
theorem ge_order (o : Ok r) : ¬ (F_order r a b c d).1 < -3 := by
  refine ge_m3 ?_
  unfold F_order
  cases rngB 0 20000 a && (rngB 0 20000 b && (rngB 0 20000 c && rngB 0 20000 d)) with
  | false => exact Int.le_trans (by omega) (Int.le_of_eq m1_toInt.symm)
  | true =>
    cases decide (r 9 < 60) && decide (nI (unsN r) < 8) with
    | false => exact Int.le_of_eq m3_toInt.symm
    | true =>
      show -3 ≤ (r 9).toInt
      rw [o.e9, nI_toInt (by have := (cl_le o).2; omega)]
      omega
theorem weigh_b (o : Ok r) (hw : w < cl (r 7)) (hb : rngB 1 100000 b = true) : 1 ≤ (vt r w 2 + b).toInt := by
  obtain ⟨v6, ⟨d, hd, ed⟩, -, -, v3⟩ := o.vk hw
  obtain ⟨c1, c2⟩ := o.cap1 v6 hd ed
  have q := rng_b hb
  have e1 : (1 : Int32).toInt = 1 := by decide
  have e2 : (100000 : Int32).toInt = 100000 := by decide
  rw [e1, e2] at q
  rw [i_add (by omega) (by omega)]
  omega
theorem ge_weigh (o : Ok r) : ¬ (F_weigh r a b).1 < -3 := by
  refine ge_m3 ?_
  unfold F_weigh
  cases hb : okB (r 7) a && rngB 1 100000 b with
  | false => exact Int.le_trans (by omega) (Int.le_of_eq m1_toInt.symm)
  | true =>
    obtain ⟨j, hj, hj6, rfl, hvo⟩ := o.v (Bool.and_eq_true_iff.mp hb).1
    rw [cl_nI (by omega)]
    cases decide (r (11 + cl (vt r j 0)) + b ≤ 1000000) with
    | false => exact Int.le_of_eq m3_toInt.symm
    | true =>
      have q := weigh_b o hj (Bool.and_eq_true_iff.mp hb).2
      show -3 ≤ (vt r j 2 + b).toInt
      omega
theorem ge_dip (o : Ok r) : ¬ (F_dip r a b).1 < -2 := by
  refine ge_m2 ?_
  unfold F_dip
  cases hb : okB (r 8) a && okB (r 7) b with
  | false => exact Int.le_trans (by omega) (Int.le_of_eq m1_toInt.symm)
  | true =>
    obtain ⟨j, hj, hj2, rfl, hlo⟩ := o.l (Bool.and_eq_true_iff.mp hb).1
    obtain ⟨i, hi, hi2, rfl, hvo⟩ := o.v (Bool.and_eq_true_iff.mp hb).2
    rw [cl_nI (by omega), cl_nI (by omega)]
    cases sold r j || (hangs r j || decide (vt r i 2 ≤ 0)) with
    | true => exact Int.le_of_eq m2_toInt.symm
    | false =>
      obtain ⟨⟨d, hd, ed⟩, v1, v2, v3⟩ := id hvo
      obtain ⟨c1, c2⟩ := o.cap1 hi2 hd ed
      obtain ⟨t1, t2⟩ := tak_b (dok_of o.set hvo hlo) v3 (by omega)
      show -2 ≤ (tkR r j i).toInt
      unfold tkR
      omega
theorem ge_rinse (o : Ok r) : ¬ (F_rinse r a).1 < -2 := by
  refine ge_m2 ?_
  unfold F_rinse
  cases hb : okB (r 8) a with
  | false => exact Int.le_trans (by omega) (Int.le_of_eq m1_toInt.symm)
  | true =>
    obtain ⟨j, hj, hj2, rfl, hlo⟩ := o.l hb
    rw [cl_nI (by omega)]
    cases sold r j || hangs r j with
    | true => exact Int.le_of_eq m2_toInt.symm
    | false =>
      have q := (sum4_ge (g := fun d => ltx r j (6 + d)) (fun d hd => (o.gr hj2 hd).2)).1
      show -2 ≤ (sumI (fun d => ltx r j (6 + d)) 4).toInt
      omega
theorem rack_20 (o : Ok r) {r2 : Nat → Int32} (h : r2 8 = r 8) : rackN r2 c ≤ 20 := by
  have q := (cl_le o).1
  unfold rackN
  rw [h]
  exact Nat.le_trans (cnt_le _) q
theorem ge_take (o : Ok r) : ¬ (F_take r a).1 < -2 := by
  refine ge_m2 ?_
  unfold F_take
  cases hb : okB (r 8) a with
  | false => exact Int.le_trans (by omega) (Int.le_of_eq m1_toInt.symm)
  | true =>
    obtain ⟨j, hj, hj2, rfl, hlo⟩ := o.l hb
    rw [cl_nI (by omega)]
    cases hangs r j with
    | false => exact Int.le_of_eq m2_toInt.symm
    | true =>
      have q := rack_20 o (r2 := upd r (43 + 15 * j + 10) 0) (c := ltx r j 0) (upd_n (by omega))
      show -2 ≤ (nI (rackN (upd r (43 + 15 * j + 10) 0) (ltx r j 0))).toInt
      rw [nI_toInt (by omega)]
      omega
theorem ge_hang (o : Ok r) : ¬ (F_hang r a b).1 < -3 := by
  refine ge_m3 ?_
  unfold F_hang
  cases hb : okB (r 8) a && rngB 0 1 b with
  | false => exact Int.le_trans (by omega) (Int.le_of_eq m1_toInt.symm)
  | true =>
    obtain ⟨j, hj, hj2, rfl, hlo⟩ := o.l (Bool.and_eq_true_iff.mp hb).1
    rw [cl_nI (by omega)]
    cases sold r j || (hangs r j || decide (¬ ltx r j 0 = b)) with
    | true => exact Int.le_trans (by omega) (Int.le_of_eq m2_toInt.symm)
    | false =>
      cases decide (4 ≤ nI (rackN r b)) with
      | true => exact Int.le_of_eq m3_toInt.symm
      | false =>
        have q := rack_20 o (r2 := upd r (43 + 15 * j + 10) 1) (c := b) (upd_n (by omega))
        show -3 ≤ (nI (rackN (upd r (43 + 15 * j + 10) 1) b)).toInt
        rw [nI_toInt (by omega)]
        omega
theorem ge_sell (o : Ok r) : ¬ (F_sell r a b).1 < -2 := by
  refine ge_m2 ?_
  unfold F_sell
  cases hb : okB (r 8) a && okB (r 9) b with
  | false => exact Int.le_trans (by omega) (Int.le_of_eq m1_toInt.symm)
  | true =>
    obtain ⟨j, hj, hj2, rfl, hlo⟩ := o.l (Bool.and_eq_true_iff.mp hb).1
    rw [cl_nI (by omega)]
    cases sold r j || (!hangs r j || (decide (¬ od r (cl b) 4 = 0) || !fitB (ltx r j) (od r (cl b)) r)) with
    | true => exact Int.le_of_eq m2_toInt.symm
    | false =>
      have q := hlo.2.1
      show -2 ≤ (ltx r j 1).toInt
      omega
theorem hang_w (o : Ok r) (hl : l < cl (r 8)) : F_hang r (nI l) (1 - Q_lotOf r (nI l) 0) = (-2, r) := by
  have c8 := (cl_le o).1
  rw [(ql_all o hl).1]
  have b0 := (o.lk hl).2.1
  unfold F_hang
  rw [okB_l o hl, cl_nI (by omega)]
  rcases b0 with e | e
  · rw [e]
    cases sold r l <;> cases hangs r l <;> rfl
  · rw [e]
    cases sold r l <;> cases hangs r l <;> rfl
theorem set_4 (o : Ok r) {q : Nat} (hq : q ≤ 2000) : ¬ (F_set r 4 (nI q)).1 < 0 := by
  have e1 : (leastF 4).toInt = 0 := by decide
  have e2 : (mostF 4).toInt = 2000 := by decide
  have hb : (okB 7 4 && rngB (leastF (cl 4)) (mostF (cl 4)) (nI q)) = true := by
    rw [show okB 7 4 = true by decide, show cl 4 = 4 by decide, rngB_t (lo := leastF 4) (hi := mostF 4) (by rw [i_le, nI_toInt (by omega), e1]; omega) (by rw [i_le, nI_toInt (by omega), e2]; omega)]
    rfl
  unfold F_set
  rw [hb]
  show ¬ r (cl 4) < 0
  exact n_neg o.set.b4
/-- the numbers of vats, lots and orders never become fewer -/
theorem Sz.ge {r2 : Nat → Int32} (z : Sz r) (h7 : cl (r 7) ≤ cl (r2 7)) (h8 : cl (r 8) ≤ cl (r2 8)) (h9 : cl (r 9) ≤ cl (r2 9)) : Sz r2 := by
  obtain ⟨a, b, c⟩ := z
  exact ⟨by omega, by omega, by omega⟩
theorem Sz.eq {r2 : Nat → Int32} (z : Sz r) (h7 : r2 7 = r 7) (h8 : r2 8 = r 8) (h9 : r2 9 = r 9) : Sz r2 := z.ge (by rw [h7]; omega) (by rw [h8]; omega) (by rw [h9]; omega)
theorem Sz_vat (o : Ok r) (z : Sz r) : Sz (F_vat r a b).2 := by
  unfold F_vat
  cases rngB 0 3 a && rngB 10 1000 b with
  | false => exact z
  | true =>
    cases hc : decide (r 7 < 6) with
    | false => exact z
    | true =>
      have c7 := cl_le7 o
      show Sz (upd (upd (upd r (19 + 4 * cl (r 7) + 0) a) (19 + 4 * cl (r 7) + 1) b) 7 (r 7 + 1))
      refine z.ge ?_ ?_ ?_
      · have e : r 7 + 1 = nI (cl (r 7) + 1) := by rw [← nI_1, ← o.e7]
        rw [upd_s, e, cl_nI (by omega)]
        omega
      · rw [upd_n (by omega), upd_n (by omega), upd_n (by omega)]
        omega
      · rw [upd_n (by omega), upd_n (by omega), upd_n (by omega)]
        omega
theorem Sz_lot (o : Ok r) (z : Sz r) : Sz (F_lot r a b).2 := by
  unfold F_lot
  cases rngB 0 1 a && rngB 100 5000 b with
  | false => exact z
  | true =>
    cases hc : decide (r 8 < 20) with
    | false => exact z
    | true =>
      have c8 := (cl_le o).1
      show Sz (upd (upd (upd r (43 + 15 * cl (r 8) + 0) a) (43 + 15 * cl (r 8) + 1) b) 8 (r 8 + 1))
      refine z.ge ?_ ?_ ?_
      · rw [upd_n (by omega), upd_n (by omega), upd_n (by omega)]
        omega
      · have e : r 8 + 1 = nI (cl (r 8) + 1) := by rw [← nI_1, ← o.e8]
        rw [upd_s, e, cl_nI (by omega)]
        omega
      · rw [upd_n (by omega), upd_n (by omega), upd_n (by omega)]
        omega
theorem Sz_order (o : Ok r) (z : Sz r) : Sz (F_order r a b c d).2 := by
  unfold F_order
  cases rngB 0 20000 a && (rngB 0 20000 b && (rngB 0 20000 c && rngB 0 20000 d)) with
  | false => exact z
  | true =>
    cases hc : decide (r 9 < 60) && decide (nI (unsN r) < 8) with
    | false => exact z
    | true =>
      have c9 := (cl_le o).2
      show Sz (upd (upd (upd (upd (upd r (343 + 5 * cl (r 9) + 0) a) (343 + 5 * cl (r 9) + 1) b) (343 + 5 * cl (r 9) + 2) c) (343 + 5 * cl (r 9) + 3) d) 9 (r 9 + 1))
      refine z.ge ?_ ?_ ?_
      · rw [upd_n (by omega), upd_n (by omega), upd_n (by omega), upd_n (by omega), upd_n (by omega)]
        omega
      · rw [upd_n (by omega), upd_n (by omega), upd_n (by omega), upd_n (by omega), upd_n (by omega)]
        omega
      · have e : r 9 + 1 = nI (cl (r 9) + 1) := by rw [← nI_1, ← o.e9]
        rw [upd_s, e, cl_nI (by omega)]
        omega
theorem Sz_weigh (o : Ok r) (z : Sz r) : Sz (F_weigh r a b).2 := by
  unfold F_weigh
  cases hb : okB (r 7) a && rngB 1 100000 b with
  | false => exact z
  | true =>
    obtain ⟨j, hj, hj6, rfl, ⟨d, hd, ed⟩, -⟩ := o.v (Bool.and_eq_true_iff.mp hb).1
    rw [cl_nI (by omega), ed, cl_nI (by omega)]
    cases decide (r (11 + d) + b ≤ 1000000) with
    | false => exact z
    | true => exact z.eq ((upd_n (by omega)).trans (upd_n (by omega))) ((upd_n (by omega)).trans (upd_n (by omega))) ((upd_n (by omega)).trans (upd_n (by omega)))
theorem Sz_drain (o : Ok r) (hw : w < cl (r 7)) (z : Sz r) : Sz (F_drain r (nI w)).2 := by
  obtain ⟨-, h, -⟩ := drn_y o hw
  exact z.eq (h 7 (by omega)) (h 8 (by omega)) (h 9 (by omega))
theorem Sz_dip (o : Ok r) (z : Sz r) : Sz (F_dip r a b).2 := by
  unfold F_dip
  cases hb : okB (r 8) a && okB (r 7) b with
  | false => exact z
  | true =>
    cases sold r (cl a) || (hangs r (cl a) || decide (vt r (cl b) 2 ≤ 0)) with
    | true => exact z
    | false => exact z.eq (dye_lo (by omega) (by omega)) (dye_lo (by omega) (by omega)) (dye_lo (by omega) (by omega))
theorem Sz_rinse (o : Ok r) (z : Sz r) : Sz (F_rinse r a).2 := by
  unfold F_rinse
  cases hb : okB (r 8) a with
  | false => exact z
  | true =>
    obtain ⟨j, hj, hj2, rfl, hlo⟩ := o.l hb
    rw [cl_nI (by omega)]
    cases sold r j || hangs r j with
    | true => exact z
    | false =>
      have q := (rin_k (r := r) hj2).1
      exact z.eq (q 7 (by omega)) (q 8 (by omega)) (q 9 (by omega))
theorem Sz_hang (z : Sz r) : Sz (F_hang r a b).2 ∧ (F_hang r a b).2 8 = r 8 := by
  unfold F_hang
  cases okB (r 8) a && rngB 0 1 b with
  | false => exact ⟨z, rfl⟩
  | true =>
    cases sold r (cl a) || (hangs r (cl a) || decide (¬ ltx r (cl a) 0 = b)) with
    | true => exact ⟨z, rfl⟩
    | false =>
      cases decide (4 ≤ nI (rackN r b)) with
      | true => exact ⟨z, rfl⟩
      | false =>
        show Sz (upd r (43 + 15 * cl a + 10) 1) ∧ upd r (43 + 15 * cl a + 10) 1 8 = r 8
        exact ⟨z.eq (upd_n (by omega)) (upd_n (by omega)) (upd_n (by omega)), upd_n (by omega)⟩
theorem Sz_take (z : Sz r) : Sz (F_take r a).2 := by
  unfold F_take
  cases okB (r 8) a with
  | false => exact z
  | true =>
    cases hangs r (cl a) with
    | false => exact z
    | true =>
      show Sz (upd r (43 + 15 * cl a + 10) 0)
      exact z.eq (upd_n (by omega)) (upd_n (by omega)) (upd_n (by omega))
theorem Sz_sell (z : Sz r) : Sz (F_sell r a b).2 := by
  unfold F_sell
  cases okB (r 8) a && okB (r 9) b with
  | false => exact z
  | true =>
    cases sold r (cl a) || (!hangs r (cl a) || (decide (¬ od r (cl b) 4 = 0) || !fitB (ltx r (cl a)) (od r (cl b)) r)) with
    | true => exact z
    | false =>
      show Sz (upd (upd (upd r (43 + 15 * cl a + 13) (b + 1)) (43 + 15 * cl a + 10) 0) (343 + 5 * cl b + 4) 1)
      exact z.eq ((upd_n (by omega)).trans ((upd_n (by omega)).trans (upd_n (by omega)))) ((upd_n (by omega)).trans ((upd_n (by omega)).trans (upd_n (by omega)))) ((upd_n (by omega)).trans ((upd_n (by omega)).trans (upd_n (by omega))))
theorem Sz_set (z : Sz r) : Sz (F_set r a b).2 := by
  unfold F_set
  cases hb : okB 7 a && rngB (leastF (cl a)) (mostF (cl a)) b with
  | false => exact z
  | true =>
    obtain ⟨j, hj, rfl⟩ := okB_i (n := 7) (by omega) (Bool.and_eq_true_iff.mp hb).1
    rw [cl_nI (by omega)]
    exact z.eq (upd_n (by omega)) (upd_n (by omega)) (upd_n (by omega))
end
