theorem l0_1 : Q_vatAt row0 0 = -4 := rfl
theorem l0_2 : Q_alike row0 0 = 0 := rfl
theorem l0_3 : Q_count row0 0 0 23 = 8000 := rfl
theorem and_3 (x : Int32) : rngB 0 3 (x &&& 3) = true := by
  have h : (x &&& 3).toBitVec.msb = false := by
    rw [Int32.toBitVec_and, BitVec.msb_and]
    have e : (3 : Int32).toBitVec.msb = false := by decide
    rw [e, Bool.and_false]
  have e3 : (3 : Int32).toInt = 3 := by decide
  have n3 : (3 : Int32).toBitVec.toNat = 3 := by decide
  have p : 0 ≤ (x &&& 3).toInt := BitVec.toInt_nonneg_of_msb_false h
  have q : (x &&& 3).toInt = ((x &&& 3).toBitVec.toNat : Int) := BitVec.toInt_eq_toNat_of_msb h
  have q2 : (x &&& 3).toBitVec.toNat ≤ 3 := by
    rw [Int32.toBitVec_and, BitVec.toNat_and, n3]
    exact Nat.and_le_right
  exact rngB_t (by rw [i_le, z_toInt]; exact p) (by rw [i_le, e3]; omega)
/-- the house behind k of the law's first rounds -/
def Beg (r : Nat → Int32) (k : Nat) : Prop := cl (r 7) = k ∧ cl (r 8) = k ∧ cl (r 9) = k ∧ ∀ d, d < 4 → (r (11 + d)).toInt ≤ 30000 * (k : Int)
theorem Beg_0 : Beg row0 0 := by
  refine ⟨rfl, rfl, rfl, fun d hd => ?_⟩
  rw [show row0 (11 + d) = 0 from if_neg (by omega), z_toInt]
  omega
/-- a number from lo on: lo + x % m -/
theorem rng_q {x q lo hi : Int32} {m a : Nat} (hx : 0 ≤ x.toInt) (hq : q = nI m) (h1 : 1 ≤ m) (h2 : m ≤ 100000) (hlo : lo = nI a) (ha : a ≤ 100000) (hhi : hi = nI (a + m - 1)) : rngB lo hi (lo + (x - x / q * q)) = true ∧ ∃ j, j < m ∧ x - x / q * q = nI j := by
  obtain ⟨j, hj, e⟩ := rem_q hx hq h1 h2
  refine ⟨?_, j, hj, e⟩
  rw [e, hlo, hhi, nI_add]
  exact rngB_t (by rw [i_le, nI_toInt (by omega), nI_toInt (by omega)]; omega) (by rw [i_le, nI_toInt (by omega), nI_toInt (by omega)]; omega)
theorem rngB_w {lo hi lo2 hi2 x : Int32} (h : rngB lo hi x = true) (h1 : lo2.toInt ≤ lo.toInt) (h2 : hi.toInt ≤ hi2.toInt) : rngB lo2 hi2 x = true := by
  obtain ⟨a, b⟩ := rng_b h
  exact rngB_t (by rw [i_le]; omega) (by rw [i_le]; omega)
section
variable {r : Nat → Int32} {k : Nat} {d li g w a b c e : Int32}
theorem Beg_vat (o : Ok r) (h : Beg r k) (hk : k < 2) (hd : rngB 0 3 d = true) (hl : rngB 10 1000 li = true) : ∃ R, F_vat r d li = (nI k, R) ∧ cl (R 7) = k + 1 ∧ cl (R 8) = k ∧ cl (R 9) = k ∧ (∀ i, i < 4 → (R (11 + i)).toInt ≤ 30000 * (k : Int)) ∧ vt R k 2 = 0 := by
  obtain ⟨h7, h8, h9, hw⟩ := h
  obtain ⟨nv, nl, no, hnv, hnl, hno, e7, e8, e9, -, -, hvz, -⟩ := id o
  have hn : nv = k := by
    rw [e7, cl_nI (by omega)] at h7
    exact h7
  subst hn
  refine ⟨upd (upd (upd r (19 + 4 * nv + 0) d) (19 + 4 * nv + 1) li) 7 (r 7 + 1), ?_, ?_, ?_, ?_, fun i hi => ?_, ?_⟩
  · unfold F_vat
    rw [hd, hl, h7, e7, decide_eq_true (show nI nv < 6 from (nI_ltI (b := 6) (by omega) (by omega)).mpr (by omega))]
    rfl
  · rw [upd_s, e7, nI_1, cl_nI (by omega)]
  · rw [upd_n (by omega), upd_n (by omega), upd_n (by omega)]
    exact h8
  · rw [upd_n (by omega), upd_n (by omega), upd_n (by omega)]
    exact h9
  · rw [upd_n (by omega), upd_n (by omega), upd_n (by omega)]
    exact hw i hi
  · show upd (upd (upd r (19 + 4 * nv + 0) d) (19 + 4 * nv + 1) li) 7 (r 7 + 1) (19 + 4 * nv + 2) = 0
    rw [upd_n (by omega), upd_n (by omega), upd_n (by omega)]
    exact hvz nv (Nat.le_refl _) (by omega) 2 (by omega)
theorem Beg_weigh (o : Ok r) (h7 : cl (r 7) = k + 1) (hk : k < 2) (hw : ∀ i, i < 4 → (r (11 + i)).toInt ≤ 30000 * (k : Int)) (hz : vt r k 2 = 0) (hg : rngB 1 30000 g = true) : ∃ R, F_weigh r (nI k) g = (0 + g, R) ∧ 0 < (0 : Int32) + g ∧ R 7 = r 7 ∧ R 8 = r 8 ∧ R 9 = r 9 ∧ ∀ i, i < 4 → (R (11 + i)).toInt ≤ 30000 * ((k + 1 : Nat) : Int) := by
  have hv : k < cl (r 7) := by omega
  obtain ⟨v6, ⟨d, hd, ed⟩, -⟩ := o.vk hv
  obtain ⟨a1, a2⟩ := rng_b hg
  have y1 : (1 : Int32).toInt = 1 := by decide
  have y2 : (30000 : Int32).toInt = 30000 := by decide
  have y3 : (1000000 : Int32).toInt = 1000000 := by decide
  have y4 : (100000 : Int32).toInt = 100000 := by decide
  rw [y1] at a1
  rw [y2] at a2
  have w1 := hw d hd
  have w0 := (o.wok d hd).1
  have s1 : (r (11 + d) + g).toInt = (r (11 + d)).toInt + g.toInt := i_add (by omega) (by omega)
  have e0 : (0 : Int32) + g = g := Int32.zero_add g
  refine ⟨upd (upd r (11 + d) (r (11 + d) + g)) (19 + 4 * k + 2) (vt r k 2 + g), ?_, ?_, ?_, ?_, ?_, fun i hi => ?_⟩
  · unfold F_weigh
    rw [okB_v o hv, rngB_w (lo2 := 1) (hi2 := 100000) hg (Int.le_refl _) (by rw [y2, y4]; omega), cl_nI (by omega), ed, cl_nI (by omega), decide_eq_true (show r (11 + d) + g ≤ 1000000 by rw [i_le, s1, y3]; omega), hz]
    rfl
  · rw [e0, i_lt, z_toInt]
    omega
  · rw [upd_n (by omega), upd_n (by omega)]
  · rw [upd_n (by omega), upd_n (by omega)]
  · rw [upd_n (by omega), upd_n (by omega)]
  · rw [upd_n (by omega)]
    by_cases z : i = d
    · rw [z, upd_s, s1]
      omega
    · rw [upd_n (by omega)]
      have q := hw i hi
      omega
theorem Beg_lot (o : Ok r) (h8 : cl (r 8) = k) (hk : k < 2) (hw : rngB 100 5000 w = true) : ∃ R, F_lot r (nI k) w = (nI k, R) ∧ R 7 = r 7 ∧ cl (R 8) = k + 1 ∧ R 9 = r 9 ∧ ∀ i, i < 4 → R (11 + i) = r (11 + i) := by
  have e8 : r 8 = nI k := by rw [o.e8, h8]
  refine ⟨upd (upd (upd r (43 + 15 * k + 0) (nI k)) (43 + 15 * k + 1) w) 8 (r 8 + 1), ?_, ?_, ?_, ?_, fun i hi => ?_⟩
  · unfold F_lot
    have hc : rngB 0 1 (nI k) = true := by
      rcases (show k = 0 ∨ k = 1 by omega) with rfl | rfl <;> rfl
    rw [hc, hw, h8, e8, decide_eq_true (show nI k < 20 from (nI_ltI (b := 20) (by omega) (by omega)).mpr (by omega))]
    rfl
  · rw [upd_n (by omega), upd_n (by omega), upd_n (by omega)]
  · rw [upd_s, e8, nI_1, cl_nI (by omega)]
  · rw [upd_n (by omega), upd_n (by omega), upd_n (by omega)]
  · rw [upd_n (by omega), upd_n (by omega), upd_n (by omega)]
theorem Beg_order (o : Ok r) (h9 : cl (r 9) = k) (hk : k < 2) (ha : rngB 0 20000 a = true) (hb : rngB 0 20000 b = true) (hc : rngB 0 20000 c = true) (he : rngB 0 20000 e = true) : ∃ R, F_order r a b c e = (nI k, R) ∧ R 7 = r 7 ∧ R 8 = r 8 ∧ cl (R 9) = k + 1 ∧ ∀ i, i < 4 → R (11 + i) = r (11 + i) := by
  have e9 : r 9 = nI k := by rw [o.e9, h9]
  have hu : unsN r ≤ k := by
    unfold unsN
    rw [h9]
    exact cnt_le k
  refine ⟨upd (upd (upd (upd (upd r (343 + 5 * k + 0) a) (343 + 5 * k + 1) b) (343 + 5 * k + 2) c) (343 + 5 * k + 3) e) 9 (r 9 + 1), ?_, ?_, ?_, ?_, fun i hi => ?_⟩
  · unfold F_order
    rw [ha, hb, hc, he, h9, e9, decide_eq_true (show nI k < 60 from (nI_ltI (b := 60) (by omega) (by omega)).mpr (by omega)), decide_eq_true (show nI (unsN r) < 8 from (nI_ltI (b := 8) (by omega) (by omega)).mpr (by omega))]
    rfl
  · rw [upd_n (by omega), upd_n (by omega), upd_n (by omega), upd_n (by omega), upd_n (by omega)]
  · rw [upd_n (by omega), upd_n (by omega), upd_n (by omega), upd_n (by omega), upd_n (by omega)]
  · rw [upd_s, e9, nI_1, cl_nI (by omega)]
  · rw [upd_n (by omega), upd_n (by omega), upd_n (by omega), upd_n (by omega), upd_n (by omega)]
end
