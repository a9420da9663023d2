theorem nan32 {E T : Nat} (h1 : 1 ≤ E) (h : E ≤ 254) (hT : T < 2 ^ 23) : FP.Core.fIsNaN (nf E T) = false := by
  show decide (FP.Core.decode _ _ = _) = false
  rw [dec32 h1 h hT]
  exact decide_eq_false (fun q => nomatch q)
theorem nan64 {E T : Nat} (h1 : 1 ≤ E) (h : E ≤ 2046) (hT : T < 2 ^ 52) : FP.Core.dIsNaN (nd E T) = false := by
  show decide (FP.Core.decode _ _ = _) = false
  rw [dec64 h1 h hT]
  exact decide_eq_false (fun q => nomatch q)
theorem p64 : ((FP.Core.b64.p : Nat) : Int) = 53 := by decide
theorem p32i : ((FP.Core.b32.p : Nat) : Int) = 24 := by decide
theorem f2d_n {E T : Nat} (h1 : 1 ≤ E) (h : E ≤ 254) (hT : T < 2 ^ 23) : ∃ E2 T2, E + 896 ≤ E2 ∧ E2 ≤ E + 897 ∧ T2 < 2 ^ 52 ∧ FP.f2d (nf E T) = nd E2 T2 := by
  have l1 := lead_ge (num := 2 ^ 23 + T) (den := 1) (i := 23) (j := 0) (by omega) (by omega) (by omega)
  have l2 := lead_lt (num := 2 ^ 23 + T) (den := 1) (i := 24) (j := 0) (by omega) (by omega) (by omega)
  obtain ⟨E2, T2, e1, e2, e3, e4⟩ := enc_in (f := FP.Core.b64) (num := 2 ^ 23 + T) (den := 1) (e := (E : Int) - 150) (lo := E + 896) (hi := E + 897) (by omega) (by omega) (by decide) (by omega) (by rw [b64q, b64Q]; omega) (by rw [b64q, p64]; omega) (by rw [b64q, p64]; omega)
  rw [b64p] at e3 e4
  refine ⟨E2, T2, e1, e2, e3, ?_⟩
  unfold FP.f2d
  rw [nan32 h1 h hT]
  show UInt64.ofNat (FP.Core.encode _ (FP.Core.round _ (FP.Core.decode _ _))) = _
  rw [dec32 h1 h hT]
  show UInt64.ofNat (FP.Core.encode _ (FP.Core.roundRatio _ false _ 1 _)) = _
  rw [e4]
  rfl
theorem f2d_0 : FP.f2d 0 = 0 := by decide
theorem d2f_n {E T : Nat} (h1 : 898 ≤ E) (h : E ≤ 1140) (hT : T < 2 ^ 52) : ∃ E2 T2, E ≤ E2 + 896 ∧ E2 + 895 ≤ E ∧ T2 < 2 ^ 23 ∧ FP.d2f (nd E T) = nf E2 T2 := by
  have l1 := lead_ge (num := 2 ^ 52 + T) (den := 1) (i := 52) (j := 0) (by omega) (by omega) (by omega)
  have l2 := lead_lt (num := 2 ^ 52 + T) (den := 1) (i := 53) (j := 0) (by omega) (by omega) (by omega)
  obtain ⟨E2, T2, e1, e2, e3, e4⟩ := enc_in (f := FP.Core.b32) (num := 2 ^ 52 + T) (den := 1) (e := (E : Int) - 1075) (lo := E - 896) (hi := E - 895) (by omega) (by omega) (by decide) (by omega) (by rw [b32q, b32Q]; omega) (by rw [b32q, p32i]; omega) (by rw [b32q, p32i]; omega)
  rw [b32p] at e3 e4
  refine ⟨E2, T2, by omega, by omega, e3, ?_⟩
  unfold FP.d2f
  rw [nan64 (by omega) (by omega) hT]
  show UInt32.ofNat (FP.Core.encode _ (FP.Core.round _ (FP.Core.decode _ _))) = _
  rw [dec64 (by omega) (by omega) hT]
  show UInt32.ofNat (FP.Core.encode _ (FP.Core.roundRatio _ false _ 1 _)) = _
  rw [e4]
  rfl
theorem d2f_0 : FP.d2f 0 = 0 := by decide
theorem ddiv_n {E1 T1 E2 T2 : Nat} (h1 : 1 ≤ E1) (h2 : E1 ≤ 2046) (hT1 : T1 < 2 ^ 52) (h3 : 1 ≤ E2) (h4 : E2 ≤ 2046) (hT2 : T2 < 2 ^ 52) (lo : E2 + 1 ≤ E1 + 1022) (hi : E1 + 1024 ≤ E2 + 2045) : ∃ E T, E1 + 1022 ≤ E + E2 ∧ E + E2 ≤ E1 + 1024 ∧ T < 2 ^ 52 ∧ FP.ddiv (nd E1 T1) (nd E2 T2) = nd E T := by
  have l1 := lead_ge (num := 2 ^ 52 + T1) (den := 2 ^ 52 + T2) (i := 0) (j := 1) (by omega) (by omega) (by omega)
  have l2 := lead_lt (num := 2 ^ 52 + T1) (den := 2 ^ 52 + T2) (i := 1) (j := 0) (by omega) (by omega) (by omega)
  obtain ⟨E, T, e1, e2, e3, e4⟩ := enc_in (f := FP.Core.b64) (num := 2 ^ 52 + T1) (den := 2 ^ 52 + T2) (e := (E1 : Int) - 1075 - ((E2 : Int) - 1075)) (lo := E1 + 1022 - E2) (hi := E1 + 1024 - E2) (by omega) (by omega) (by decide) (by omega) (by rw [b64q, b64Q]; omega) (by rw [b64q, p64]; omega) (by rw [b64q, p64]; omega)
  rw [b64p] at e3 e4
  refine ⟨E, T, by omega, by omega, e3, ?_⟩
  show UInt64.ofNat (FP.Core.encode _ (FP.Core.quotient _ _ _)) = _
  rw [dec64 h1 h2 hT1, dec64 h3 h4 hT2, quot_fin (by omega), e4]
  rfl
theorem div_0 {E T : Nat} (h1 : 1 ≤ E) (h : E ≤ 2046) (hT : T < 2 ^ 52) : FP.ddiv 0 (nd E T) = 0 := by
  show UInt64.ofNat (FP.Core.encode _ (FP.Core.quotient _ _ _)) = _
  rw [dec64_0, dec64 h1 h hT, quot_fin (by omega)]
  unfold FP.Core.roundRatio
  rw [if_pos rfl, enc_0]
  rfl
theorem fdiv_0 {E T : Nat} (h1 : 1 ≤ E) (h : E ≤ 254) (hT : T < 2 ^ 23) : FP.fdiv 0 (nf E T) = 0 := by
  show UInt32.ofNat (FP.Core.encode _ (FP.Core.quotient _ _ _)) = _
  rw [dec32_0, dec32 h1 h hT, quot_fin (by omega)]
  unfold FP.Core.roundRatio
  rw [if_pos rfl, enc_0]
  rfl
theorem sum_dat {c d : Nat} {q r : Int} : FP.Core.exactSum (.fin false c q) (.fin false d r) = .fin false (c * 2 ^ (q - min q r).toNat + d * 2 ^ (r - min q r).toNat) (min q r) := by
  have e : FP.Core.sumUnits false c q false d r (min q r) = ((c * 2 ^ (q - min q r).toNat + d * 2 ^ (r - min q r).toNat : Nat) : Int) := by
    show ((c * 2 ^ (q - min q r).toNat : Nat) : Int) + ((d * 2 ^ (r - min q r).toNat : Nat) : Int) = _
    exact (Int.natCast_add _ _).symm
  show FP.Core.Datum.fin (FP.Core.sumSign false false (FP.Core.sumUnits false c q false d r (min q r))) (FP.Core.sumUnits false c q false d r (min q r)).natAbs (min q r) = _
  rw [e, Int.natAbs_natCast]
  have s : FP.Core.sumSign false false ((c * 2 ^ (q - min q r).toNat + d * 2 ^ (r - min q r).toNat : Nat) : Int) = false := by
    unfold FP.Core.sumSign
    generalize (c * 2 ^ (q - min q r).toNat + d * 2 ^ (r - min q r).toNat : Nat) = z
    split
    · rfl
    · exact decide_eq_false (by omega)
  rw [s]
/-- a sum of doubles that are not negative, the second one the greater -/
theorem dsum {c d : Nat} {q r : Int} (hc : c < 2 ^ 53) (hd1 : 2 ^ 52 ≤ d) (hd : d < 2 ^ 53) (hq : q ≤ r) (hr0 : -1074 ≤ r) (hr : r + 1077 ≤ 2045) : ∃ E T : Nat, r + 1075 ≤ E ∧ (E : Int) ≤ r + 1077 ∧ T < 2 ^ 52 ∧ FP.Core.encode FP.Core.b64 (FP.Core.roundRatio FP.Core.b64 false (c + d * 2 ^ (r - q).toNat) 1 q) = E * 2 ^ 52 + T := by
  have hp := pw_pos (r - q).toNat
  have n1 : 2 ^ (52 + (r - q).toNat) ≤ c + d * 2 ^ (r - q).toNat := by
    rw [pw_add]
    exact Nat.le_trans (Nat.mul_le_mul_right _ hd1) (Nat.le_add_left _ _)
  have n2 : c + d * 2 ^ (r - q).toNat < 2 ^ (54 + (r - q).toNat) := by
    rw [pw_add]
    have a1 : (d + 1) * 2 ^ (r - q).toNat ≤ 2 ^ 53 * 2 ^ (r - q).toNat := Nat.mul_le_mul_right _ hd
    have a2 : 2 ^ 53 * 1 ≤ 2 ^ 53 * 2 ^ (r - q).toNat := Nat.mul_le_mul_left _ hp
    rw [Nat.add_mul] at a1
    generalize 2 ^ (r - q).toNat = k at *
    omega
  have l1 := lead_ge (num := c + d * 2 ^ (r - q).toNat) (den := 1) (i := 52 + (r - q).toNat) (j := 0) (by have := pw_pos (52 + (r - q).toNat); omega) (by omega) (by rw [Nat.one_mul, Nat.pow_zero, Nat.mul_one]; exact n1)
  have l2 := lead_lt (num := c + d * 2 ^ (r - q).toNat) (den := 1) (i := 54 + (r - q).toNat) (j := 0) (by have := pw_pos (52 + (r - q).toNat); omega) (by omega) (by rw [Nat.one_mul, Nat.pow_zero, Nat.mul_one]; exact n2)
  obtain ⟨E, T, e1, e2, e3, e4⟩ := enc_in (f := FP.Core.b64) (num := c + d * 2 ^ (r - q).toNat) (den := 1) (e := q) (lo := (r + 1075).toNat) (hi := (r + 1077).toNat) (by have := pw_pos (52 + (r - q).toNat); omega) (by omega) (by decide) (by omega) (by rw [b64q, b64Q]; omega) (by rw [b64q, p64]; omega) (by rw [b64q, p64]; omega)
  rw [b64p] at e3 e4
  exact ⟨E, T, by omega, by omega, e3, e4⟩
theorem dadd_0 {E T : Nat} (h1 : 1 ≤ E) (h : E ≤ 2040) (hT : T < 2 ^ 52) : ∃ E2 T2, E ≤ E2 ∧ E2 ≤ E + 2 ∧ T2 < 2 ^ 52 ∧ FP.dadd 0 (nd E T) = nd E2 T2 := by
  obtain ⟨E2, T2, e1, e2, e3, e4⟩ := dsum (c := 0) (d := 2 ^ 52 + T) (q := -1074) (r := (E : Int) - 1075) (by omega) (by omega) (by omega) (by omega) (by omega) (by omega)
  refine ⟨E2, T2, by omega, by omega, e3, ?_⟩
  show UInt64.ofNat (FP.Core.encode _ (FP.Core.round _ (FP.Core.exactSum _ _))) = _
  rw [dec64_0, dec64 h1 (by omega) hT, sum_dat, show min (-1074) ((E : Int) - 1075) = -1074 by omega, Nat.zero_mul]
  show UInt64.ofNat (FP.Core.encode _ (FP.Core.roundRatio _ false _ 1 _)) = _
  rw [e4]
  rfl
theorem dadd_n {E1 T1 E T : Nat} (h0 : 1 ≤ E1) (hE : E1 ≤ 2040) (hT1 : T1 < 2 ^ 52) (h1 : 1 ≤ E) (h : E ≤ 2040) (hT : T < 2 ^ 52) : ∃ E2 T2, E ≤ E2 ∧ (E2 ≤ E + 2 ∨ E2 ≤ E1 + 2) ∧ T2 < 2 ^ 52 ∧ FP.dadd (nd E1 T1) (nd E T) = nd E2 T2 := by
  rcases Nat.le_total E1 E with z | z
  · obtain ⟨E2, T2, e1, e2, e3, e4⟩ := dsum (c := 2 ^ 52 + T1) (d := 2 ^ 52 + T) (q := (E1 : Int) - 1075) (r := (E : Int) - 1075) (by omega) (by omega) (by omega) (by omega) (by omega) (by omega)
    refine ⟨E2, T2, by omega, by omega, e3, ?_⟩
    show UInt64.ofNat (FP.Core.encode _ (FP.Core.round _ (FP.Core.exactSum _ _))) = _
    rw [dec64 h0 (by omega) hT1, dec64 h1 (by omega) hT, sum_dat, show min ((E1 : Int) - 1075) ((E : Int) - 1075) = (E1 : Int) - 1075 by omega, show ((E1 : Int) - 1075 - ((E1 : Int) - 1075)).toNat = 0 by omega, Nat.pow_zero, Nat.mul_one]
    show UInt64.ofNat (FP.Core.encode _ (FP.Core.roundRatio _ false _ 1 _)) = _
    rw [e4]
    rfl
  · obtain ⟨E2, T2, e1, e2, e3, e4⟩ := dsum (d := 2 ^ 52 + T1) (c := 2 ^ 52 + T) (r := (E1 : Int) - 1075) (q := (E : Int) - 1075) (by omega) (by omega) (by omega) (by omega) (by omega) (by omega)
    refine ⟨E2, T2, by omega, by omega, e3, ?_⟩
    show UInt64.ofNat (FP.Core.encode _ (FP.Core.round _ (FP.Core.exactSum _ _))) = _
    rw [dec64 h0 (by omega) hT1, dec64 h1 (by omega) hT, sum_dat, show min ((E1 : Int) - 1075) ((E : Int) - 1075) = (E : Int) - 1075 by omega, show ((E : Int) - 1075 - ((E : Int) - 1075)).toNat = 0 by omega, Nat.pow_zero, Nat.mul_one, Nat.add_comm]
    show UInt64.ofNat (FP.Core.encode _ (FP.Core.roundRatio _ false _ 1 _)) = _
    rw [e4]
    rfl
theorem dadd_00 : FP.dadd 0 0 = 0 := by decide
theorem dadd_z {E T : Nat} (h1 : 1 ≤ E) (h : E ≤ 2040) (hT : T < 2 ^ 52) : ∃ E2 T2, E ≤ E2 ∧ E2 ≤ E + 2 ∧ T2 < 2 ^ 52 ∧ FP.dadd (nd E T) 0 = nd E2 T2 := by
  obtain ⟨E2, T2, e1, e2, e3, e4⟩ := dsum (c := 0) (d := 2 ^ 52 + T) (q := -1074) (r := (E : Int) - 1075) (by omega) (by omega) (by omega) (by omega) (by omega) (by omega)
  refine ⟨E2, T2, by omega, by omega, e3, ?_⟩
  show UInt64.ofNat (FP.Core.encode _ (FP.Core.round _ (FP.Core.exactSum _ _))) = _
  rw [dec64_0, dec64 h1 (by omega) hT, sum_dat, show min ((E : Int) - 1075) (-1074) = -1074 by omega, Nat.zero_mul, Nat.add_comm]
  show UInt64.ofNat (FP.Core.encode _ (FP.Core.roundRatio _ false _ 1 _)) = _
  rw [e4]
  rfl
/-! ## the shades as floats, and their mean -/
def F32 (lo hi : Nat) (x : UInt32) : Prop := x = 0 ∨ ∃ E T, lo ≤ E ∧ E ≤ hi ∧ T < 2 ^ 23 ∧ x = nf E T
def D64 (lo hi : Nat) (x : UInt64) : Prop := x = 0 ∨ ∃ E T, lo ≤ E ∧ E ≤ hi ∧ T < 2 ^ 52 ∧ x = nd E T
theorem F32.num {lo hi : Nat} {x : UInt32} (k : F32 lo hi x) (h : hi ≤ 254) : vf_n32 x := by
  rcases k with rfl | ⟨E, T, e1, e2, e3, rfl⟩
  · exact n32_0
  · exact n32_n (by omega) e3
theorem D64.num {lo hi : Nat} {x : UInt64} (k : D64 lo hi x) (h : hi ≤ 2046) : vf_n64 x := by
  rcases k with rfl | ⟨E, T, e1, e2, e3, rfl⟩
  · exact n64_0
  · exact n64_n (by omega) e3
theorem shade_f {g w : Nat} (hg : g < 2 ^ 20) (h0 : 0 < w) (hw : w < 2 ^ 20) : F32 106 148 (FP.fdiv (FP.i2f (nI g)) (FP.i2f (nI w))) := by
  obtain ⟨E2, T2, a1, a2, a3, a4⟩ := i2f_n h0 hw
  rw [a4]
  by_cases z : g = 0
  · subst z
    rw [i2f_0, fdiv_0 (by omega) (by omega) a3]
    exact Or.inl rfl
  · obtain ⟨E1, T1, b1, b2, b3, b4⟩ := i2f_n (g := g) (by omega) hg
    rw [b4]
    obtain ⟨E, T, c1, c2, c3, c4⟩ := fdiv_n (T1 := T1) (T2 := T2) (E1 := E1) (E2 := E2) (by omega) (by omega) b3 (by omega) (by omega) a3 (by omega) (by omega)
    exact Or.inr ⟨E, T, by omega, by omega, c3, c4⟩
theorem dbl_f {lo hi : Nat} {x : UInt32} (k : F32 lo hi x) (h1 : 1 ≤ lo) (h : hi ≤ 254) : D64 (lo + 896) (hi + 897) (FP.f2d x) := by
  rcases k with rfl | ⟨E, T, e1, e2, e3, rfl⟩
  · rw [f2d_0]
    exact Or.inl rfl
  · obtain ⟨E2, T2, a1, a2, a3, a4⟩ := f2d_n (E := E) (T := T) (by omega) (by omega) e3
    exact Or.inr ⟨E2, T2, by omega, by omega, a3, a4⟩
theorem add_f {lo hi hi2 : Nat} {x y : UInt64} (k : D64 lo hi x) (k2 : D64 lo hi2 y) (h1 : 1 ≤ lo) (h : hi2 ≤ hi) (h3 : hi ≤ 2040) : D64 lo (hi + 2) (FP.dadd x y) := by
  rcases k with rfl | ⟨E, T, e1, e2, e3, rfl⟩
  · rcases k2 with rfl | ⟨E2, T2, f1, f2, f3, rfl⟩
    · exact Or.inl dadd_00
    · obtain ⟨E4, T4, a1, a2, a3, a4⟩ := dadd_0 (E := E2) (T := T2) (by omega) (by omega) f3
      exact Or.inr ⟨E4, T4, by omega, by omega, a3, a4⟩
  · rcases k2 with rfl | ⟨E2, T2, f1, f2, f3, rfl⟩
    · obtain ⟨E4, T4, a1, a2, a3, a4⟩ := dadd_z (E := E) (T := T) (by omega) (by omega) e3
      exact Or.inr ⟨E4, T4, by omega, by omega, a3, a4⟩
    · obtain ⟨E4, T4, a1, a2, a3, a4⟩ := dadd_n (E1 := E) (T1 := T) (E := E2) (T := T2) (by omega) (by omega) e3 (by omega) (by omega) f3
      exact Or.inr ⟨E4, T4, by omega, by omega, a3, a4⟩
theorem mean_f {hi n : Nat} {x : UInt64} (k : D64 1002 hi x) (h : hi ≤ 1090) (hn : 0 < n) (hn2 : n < 2 ^ 20) : D64 981 1091 (FP.ddiv x (FP.i2d (nI n))) := by
  obtain ⟨E2, T2, a1, a2, a3, a4⟩ := i2d_n hn hn2
  rw [a4]
  rcases k with rfl | ⟨E, T, e1, e2, e3, rfl⟩
  · rw [div_0 (by omega) (by omega) a3]
    exact Or.inl rfl
  · obtain ⟨E4, T4, c1, c2, c3, c4⟩ := ddiv_n (E1 := E) (T1 := T) (E2 := E2) (T2 := T2) (by omega) (by omega) e3 (by omega) (by omega) a3 (by omega) (by omega)
    exact Or.inr ⟨E4, T4, by omega, by omega, c3, c4⟩
theorem flt_f {x : UInt64} (k : D64 981 1091 x) : F32 85 196 (FP.d2f x) := by
  rcases k with rfl | ⟨E, T, e1, e2, e3, rfl⟩
  · rw [d2f_0]
    exact Or.inl rfl
  · obtain ⟨E2, T2, a1, a2, a3, a4⟩ := d2f_n (E := E) (T := T) (by omega) (by omega) e3
    exact Or.inr ⟨E2, T2, by omega, by omega, a3, a4⟩
/-- the bits of a float as an int -/
def bitI (x : UInt32) : Int32 := nI x.toNat
theorem bitI_n {E T : Nat} (h : E ≤ 254) (hT : T < 2 ^ 23) : bitI (nf E T) = nI (E * 2 ^ 23 + T) := by
  unfold bitI
  rw [nf_nat h hT]
theorem bitI_0 : bitI 0 = 0 := rfl
