/-! ## floats -/
theorem pw_add (i j : Nat) : (2 : Nat) ^ (i + j) = 2 ^ i * 2 ^ j := Nat.pow_add 2 i j
theorem pw_pos (i : Nat) : 0 < (2 : Nat) ^ i := Nat.two_pow_pos i
/-- another writing of the same exponent -/
theorem rep_le {a b i j i2 j2 : Nat} (h : i + j2 = i2 + j) (k : a * 2 ^ i ≤ b * 2 ^ j) : a * 2 ^ i2 ≤ b * 2 ^ j2 := by
  refine Nat.le_of_mul_le_mul_right (c := 2 ^ j) ?_ (pw_pos j)
  calc a * 2 ^ i2 * 2 ^ j = a * 2 ^ i * 2 ^ j2 := by rw [Nat.mul_assoc, ← pw_add, ← h, pw_add, ← Nat.mul_assoc]
    _ ≤ b * 2 ^ j * 2 ^ j2 := Nat.mul_le_mul_right _ k
    _ = b * 2 ^ j2 * 2 ^ j := by rw [Nat.mul_assoc, Nat.mul_assoc, Nat.mul_comm (2 ^ j)]
theorem rep_lt {a b i j i2 j2 : Nat} (h : i + j2 = i2 + j) (k : b * 2 ^ j < a * 2 ^ i) : b * 2 ^ j2 < a * 2 ^ i2 := by
  refine Nat.lt_of_not_le (fun z => absurd (rep_le (i := i2) (j := j2) (i2 := i) (j2 := j) h.symm z) (by omega))
theorem lead_spec {num den : Nat} (hn : 0 < num) (hd : 0 < den) {i j : Nat} (e : (i : Int) - j = FP.Core.leading num den) : den * 2 ^ i ≤ num * 2 ^ j ∧ num * 2 ^ j < den * 2 ^ (i + 1) := by
  have a1 := Nat.log2_self_le (n := num) (by omega)
  have a2 := Nat.lt_log2_self (n := num)
  have b1 := Nat.log2_self_le (n := den) (by omega)
  have b2 := Nat.lt_log2_self (n := den)
  unfold FP.Core.leading at e
  generalize num.log2 = a at *
  generalize den.log2 = b at *
  -- both bounds that the digits give
  have up : num * 2 ^ b < den * 2 ^ (a + 1) := by
    calc num * 2 ^ b < 2 ^ (a + 1) * 2 ^ b := Nat.mul_lt_mul_of_pos_right a2 (pw_pos b)
      _ ≤ 2 ^ (a + 1) * den := Nat.mul_le_mul_left _ b1
      _ = den * 2 ^ (a + 1) := Nat.mul_comm _ _
  have lo : den * 2 ^ a ≤ num * 2 ^ (b + 1) := by
    calc den * 2 ^ a ≤ 2 ^ (b + 1) * 2 ^ a := Nat.mul_le_mul_right _ (Nat.le_of_lt b2)
      _ ≤ 2 ^ (b + 1) * num := Nat.mul_le_mul_left _ a1
      _ = num * 2 ^ (b + 1) := Nat.mul_comm _ _
  simp only at e
  by_cases c : den * 2 ^ ((a : Int) - b).toNat ≤ num * 2 ^ (-((a : Int) - b)).toNat
  · rw [if_pos c] at e
    exact ⟨rep_le (by omega) c, rep_lt (i := a + 1) (j := b) (by omega) up⟩
  · rw [if_neg c] at e
    exact ⟨rep_le (i := a) (j := b + 1) (by omega) lo, rep_lt (i := ((a : Int) - b).toNat) (j := (-((a : Int) - b)).toNat) (by omega) (Nat.lt_of_not_le c)⟩
theorem lead_ge {num den i j : Nat} (hn : 0 < num) (hd : 0 < den) (k : den * 2 ^ i ≤ num * 2 ^ j) : (i : Int) - j ≤ FP.Core.leading num den := by
  refine Int.not_lt.mp (fun z => ?_)
  generalize hL : FP.Core.leading num den = L at z
  have q := (lead_spec hn hd (i := i) (j := ((i : Int) - L).toNat) (by omega)).2
  have q2 := rep_le (i2 := i) (j2 := j) (i := i) (j := j) rfl k
  have q3 : den * 2 ^ (i + 1) ≤ num * 2 ^ (j + 1) := rep_le (i := i) (j := j) (by omega) k
  have q4 : num * 2 ^ (j + 1) ≤ num * 2 ^ ((i : Int) - L).toNat := Nat.mul_le_mul_left _ (Nat.pow_le_pow_right (by omega) (by omega))
  omega
theorem lead_lt {num den i j : Nat} (hn : 0 < num) (hd : 0 < den) (k : num * 2 ^ j < den * 2 ^ i) : FP.Core.leading num den < (i : Int) - j := by
  refine Int.not_le.mp (fun z => ?_)
  generalize hL : FP.Core.leading num den = L at z
  have q := (lead_spec hn hd (i := (L + j).toNat) (j := j) (by omega)).1
  have q4 : den * 2 ^ i ≤ den * 2 ^ (L + j).toNat := Nat.mul_le_mul_left _ (Nat.pow_le_pow_right (by omega) (by omega))
  omega
theorem near_mul {c D : Nat} (hD : 0 < D) : FP.Core.nearest (c * D) D = c := by
  unfold FP.Core.nearest
  rw [Nat.mul_mod_left, if_pos (by omega), Nat.mul_div_cancel _ hD]
/-- what fits is not rounded -/
theorem round_exact {f : FP.Core.Fmt} {s : Bool} {num den c : Nat} {e q : Int} (hn : 0 < num) (hd : 0 < den) (hp : 1 ≤ f.p) (eq : num * 2 ^ (e - q).toNat = c * (den * 2 ^ (q - e).toNat)) (c1 : 2 ^ (f.p - 1) ≤ c) (c2 : c < 2 ^ f.p) (q1 : f.qmin ≤ q) (q2 : q ≤ f.qmax) : FP.Core.roundRatio f s num den e = .fin s c q := by
  have hpp : (2 : Nat) ^ f.p = 2 ^ (f.p - 1) * 2 := by rw [← Nat.pow_succ]; congr 1; omega
  have hD : 0 < den * 2 ^ (q - e).toNat := Nat.mul_pos hd (pw_pos _)
  have l1 := lead_ge hn hd (i := (q - e).toNat + (f.p - 1)) (j := (e - q).toNat) (by
    rw [eq, pw_add, ← Nat.mul_assoc, Nat.mul_comm _ (2 ^ (f.p - 1))]
    exact Nat.mul_le_mul_right _ c1)
  have l2 := lead_lt hn hd (i := (q - e).toNat + f.p) (j := (e - q).toNat) (by
    calc num * 2 ^ (e - q).toNat = c * (den * 2 ^ (q - e).toNat) := eq
      _ < 2 ^ f.p * (den * 2 ^ (q - e).toNat) := Nat.mul_lt_mul_of_pos_right c2 hD
      _ = den * 2 ^ ((q - e).toNat + f.p) := by rw [pw_add, Nat.mul_left_comm, Nat.mul_comm (2 ^ f.p)])
  have hq : FP.Core.quantum f num den e = q := by
    unfold FP.Core.quantum
    generalize FP.Core.leading num den = L at *
    omega
  unfold FP.Core.roundRatio
  rw [if_neg (by omega), hq]
  unfold FP.Core.roundAt FP.Core.unitsNum FP.Core.unitsDen
  rw [eq, near_mul hD]
  unfold FP.Core.settle FP.Core.bound
  rw [if_pos c2, if_pos q2]
theorem near_ge {num den k : Nat} (hd : 0 < den) (h : den * k ≤ num) : k ≤ FP.Core.nearest num den := by
  have a : k ≤ num / den := (Nat.le_div_iff_mul_le hd).mpr (by rw [Nat.mul_comm]; exact h)
  unfold FP.Core.nearest
  split
  · exact a
  · split <;> omega
theorem near_le {num den k : Nat} (hd : 0 < den) (h : num < den * k) : FP.Core.nearest num den ≤ k := by
  have a : num / den < k := (Nat.div_lt_iff_lt_mul hd).mpr (by rw [Nat.mul_comm]; exact h)
  unfold FP.Core.nearest
  split
  · omega
  · split <;> omega
/-- where a rounded number lies -/
theorem round_in {f : FP.Core.Fmt} {s : Bool} {num den : Nat} {e : Int} (hn : 0 < num) (hd : 0 < den) (hp : 1 ≤ f.p) (h1 : f.qmin + (f.p - 1) ≤ FP.Core.leading num den + e) (h2 : FP.Core.leading num den + e + 1 ≤ f.qmax + (f.p - 1)) : ∃ c q, FP.Core.roundRatio f s num den e = .fin s c q ∧ 2 ^ (f.p - 1) ≤ c ∧ c < 2 ^ f.p ∧ FP.Core.leading num den + e - (f.p - 1) ≤ q ∧ q ≤ FP.Core.leading num den + e - (f.p - 1) + 1 := by
  have hpp : (2 : Nat) ^ f.p = 2 ^ (f.p - 1) * 2 := by rw [← Nat.pow_succ]; congr 1; omega
  have ht := pw_pos (f.p - 1)
  generalize hL : FP.Core.leading num den = L at *
  generalize hq : L + e - ((f.p : Int) - 1) = q
  have hqu : FP.Core.quantum f num den e = q := by
    unfold FP.Core.quantum
    rw [hL]
    omega
  have hD : 0 < den * 2 ^ (q - e).toNat := Nat.mul_pos hd (pw_pos _)
  obtain ⟨s1, s2⟩ := lead_spec hn hd (i := (q - e).toNat + (f.p - 1)) (j := (e - q).toNat) (by rw [hL]; omega)
  rw [pw_add, ← Nat.mul_assoc] at s1
  rw [show (q - e).toNat + (f.p - 1) + 1 = (q - e).toNat + f.p by omega, pw_add, ← Nat.mul_assoc] at s2
  have g1 := near_ge hD s1
  have g2 := near_le hD s2
  have hr : FP.Core.roundRatio f s num den e = FP.Core.settle f s (FP.Core.nearest (num * 2 ^ (e - q).toNat) (den * 2 ^ (q - e).toNat)) q := by
    unfold FP.Core.roundRatio
    rw [if_neg (by omega), hqu]
    rfl
  rw [hr]
  unfold FP.Core.settle FP.Core.bound
  by_cases z : FP.Core.nearest (num * 2 ^ (e - q).toNat) (den * 2 ^ (q - e).toNat) < 2 ^ f.p
  · rw [if_pos z, if_pos (by omega)]
    exact ⟨_, _, rfl, g1, z, by omega, by omega⟩
  · rw [if_neg z, if_pos (by omega)]
    exact ⟨_, _, rfl, Nat.le_refl _, by show 2 ^ (f.p - 1) < _; omega, by omega, by omega⟩
/-- a normal number that is not negative -/
theorem enc_n {f : FP.Core.Fmt} {c : Nat} {q : Int} (c1 : 2 ^ (f.p - 1) ≤ c) : FP.Core.encode f (.fin false c q) = ((q - f.qmin).toNat + 1) * 2 ^ (f.p - 1) + (c - 2 ^ (f.p - 1)) := by
  unfold FP.Core.encode FP.Core.assemble FP.Core.Fmt.tails
  simp only
  rw [if_neg (by omega), show (false.toNat * f.exps + ((q - f.qmin).toNat + 1)) = (q - f.qmin).toNat + 1 by simp]
theorem dec_n {f : FP.Core.Fmt} {E T : Nat} (e1 : 1 ≤ E) (e2 : E + 1 < 2 ^ f.w) (hT : T < 2 ^ (f.p - 1)) : FP.Core.decode f (E * 2 ^ (f.p - 1) + T) = .fin false (2 ^ (f.p - 1) + T) (f.qmin + ((E : Int) - 1)) := by
  have ht := pw_pos (f.p - 1)
  have d1 : (E * 2 ^ (f.p - 1) + T) / 2 ^ (f.p - 1) = E := by
    rw [Nat.add_comm, Nat.add_mul_div_right _ _ ht, Nat.div_eq_of_lt hT, Nat.zero_add]
  have d2 : (E * 2 ^ (f.p - 1) + T) % 2 ^ (f.p - 1) = T := by
    rw [Nat.add_comm, Nat.add_mul_mod_self_right, Nat.mod_eq_of_lt hT]
  have k1 : FP.Core.fieldE f (E * 2 ^ (f.p - 1) + T) = E := by
    unfold FP.Core.fieldE FP.Core.Fmt.tails FP.Core.Fmt.exps
    rw [d1, Nat.mod_eq_of_lt (by omega)]
  have k2 : FP.Core.fieldT f (E * 2 ^ (f.p - 1) + T) = T := d2
  have k3 : FP.Core.fieldS f (E * 2 ^ (f.p - 1) + T) = false := by
    unfold FP.Core.fieldS FP.Core.Fmt.tails FP.Core.Fmt.exps
    rw [d1, Nat.div_eq_of_lt (by omega)]
    rfl
  unfold FP.Core.decode
  rw [k1, k2, k3, if_neg (by unfold FP.Core.Fmt.exps; omega), if_neg (by omega)]
  rfl
theorem dec_0 {f : FP.Core.Fmt} (h : 1 < 2 ^ f.w) : FP.Core.decode f 0 = .fin false 0 f.qmin := by
  have k1 : FP.Core.fieldE f 0 = 0 := by
    unfold FP.Core.fieldE
    rw [Nat.zero_div, Nat.zero_mod]
  have k2 : FP.Core.fieldT f 0 = 0 := Nat.zero_mod _
  have k3 : FP.Core.fieldS f 0 = false := by
    unfold FP.Core.fieldS
    rw [Nat.zero_div, Nat.zero_div]
    rfl
  unfold FP.Core.decode
  rw [k1, k2, k3, if_neg (by unfold FP.Core.Fmt.exps; omega), if_pos rfl]
theorem enc_0 {f : FP.Core.Fmt} {q : Int} : FP.Core.encode f (.fin false 0 q) = 0 := by
  unfold FP.Core.encode FP.Core.assemble FP.Core.Fmt.tails
  simp only
  rw [if_pos (pw_pos _)]
  simp
/-- rounded and written down -/
theorem enc_in {f : FP.Core.Fmt} {num den : Nat} {e : Int} {lo hi : Nat} (hn : 0 < num) (hd : 0 < den) (hp : 1 ≤ f.p) (l1 : 1 ≤ lo) (hx : (hi : Int) + f.qmin ≤ f.qmax) (h1 : (lo : Int) + f.qmin + (f.p - 1) - 1 ≤ FP.Core.leading num den + e) (h2 : FP.Core.leading num den + e + 1 ≤ (hi : Int) + f.qmin + (f.p - 1) - 1) : ∃ E T, lo ≤ E ∧ E ≤ hi ∧ T < 2 ^ (f.p - 1) ∧ FP.Core.encode f (FP.Core.roundRatio f false num den e) = E * 2 ^ (f.p - 1) + T := by
  have hpp : (2 : Nat) ^ f.p = 2 ^ (f.p - 1) * 2 := by rw [← Nat.pow_succ]; congr 1; omega
  obtain ⟨c, q, er, c1, c2, q1, q2⟩ := round_in (f := f) (s := false) (e := e) hn hd hp (by omega) (by omega)
  rw [er, enc_n c1]
  exact ⟨(q - f.qmin).toNat + 1, c - 2 ^ (f.p - 1), by omega, by omega, by omega, rfl⟩
