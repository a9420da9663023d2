theorem ord_ab {c d : Nat} {q r : Int} : FP.Core.order (.fin false c q) (.fin false d r) = some (compareOfLessAndEq ((c * 2 ^ (q - min q r).toNat : Nat) : Int) ((d * 2 ^ (r - min q r).toNat : Nat) : Int)) := rfl
theorem ord_lt {c d : Nat} {q r : Int} (h : c * 2 ^ (q - min q r).toNat < d * 2 ^ (r - min q r).toNat) : FP.Core.order (.fin false c q) (.fin false d r) = some .lt := by
  rw [ord_ab]
  unfold compareOfLessAndEq
  rw [if_pos (Int.ofNat_lt.mpr h)]
theorem ord_gt {c d : Nat} {q r : Int} (h : d * 2 ^ (r - min q r).toNat < c * 2 ^ (q - min q r).toNat) : FP.Core.order (.fin false c q) (.fin false d r) = some .gt := by
  rw [ord_ab]
  unfold compareOfLessAndEq
  rw [if_neg (fun z => by have := Int.ofNat_lt.mp z; omega), if_neg (fun z => by have := Int.ofNat_inj.mp z; omega)]
theorem ord_ge {c d : Nat} {q r : Int} (h : d * 2 ^ (r - min q r).toNat ≤ c * 2 ^ (q - min q r).toNat) : FP.Core.order (.fin false c q) (.fin false d r) = some .gt ∨ FP.Core.order (.fin false c q) (.fin false d r) = some .eq := by
  rcases Nat.lt_or_eq_of_le h with z | z
  · exact Or.inl (ord_gt z)
  · refine Or.inr ?_
    rw [ord_ab]
    unfold compareOfLessAndEq
    rw [if_neg (fun y => by have := Int.ofNat_lt.mp y; omega), if_pos (Int.ofNat_inj.mpr z.symm)]
theorem fc_lt {E T B : Nat} {op : CmpOp} (h1 : 1 ≤ E) (hT : T < 2 ^ 23) (hB : B ≤ 254) (h : E < B) : Op.cmpValue (FP.fcmp (nf E T) (nf B 0)) op = -1 := by
  show Op.cmpValue (FP.Core.order _ _) op = _
  rw [dec32 h1 (by omega) hT, dec32 (by omega) hB (by omega), ord_lt]
  · rfl
  · rw [show min ((E : Int) - 150) ((B : Int) - 150) = (E : Int) - 150 by omega, show ((E : Int) - 150 - ((E : Int) - 150)).toNat = 0 by omega, show ((B : Int) - 150 - ((E : Int) - 150)).toNat = (B - E - 1) + 1 by omega, Nat.pow_succ]
    refine Nat.lt_of_lt_of_le (m := 2 ^ 24) (by omega) ?_
    calc 2 ^ 24 = 2 ^ 24 * 1 := rfl
      _ ≤ 2 ^ 24 * 2 ^ (B - E - 1) := Nat.mul_le_mul_left _ (pw_pos _)
      _ = (2 ^ 23 + 0) * (2 ^ (B - E - 1) * 2) := by rw [Nat.mul_comm (2 ^ (B - E - 1)) 2, ← Nat.mul_assoc]
theorem fc_ge {E T B : Nat} {op : CmpOp} (h1 : 1 ≤ B) (hE : E ≤ 254) (hT : T < 2 ^ 23) (h : B ≤ E) : 0 ≤ Op.cmpValue (FP.fcmp (nf E T) (nf B 0)) op := by
  show 0 ≤ Op.cmpValue (FP.Core.order _ _) op
  rw [dec32 (by omega) (by omega) hT, dec32 (by omega) (by omega) (by omega)]
  rcases ord_ge (c := 2 ^ 23 + T) (d := 2 ^ 23 + 0) (q := (E : Int) - 150) (r := (B : Int) - 150) (by
    rw [show min ((E : Int) - 150) ((B : Int) - 150) = (B : Int) - 150 by omega, show ((B : Int) - 150 - ((B : Int) - 150)).toNat = 0 by omega]
    have := pw_pos ((E : Int) - 150 - ((B : Int) - 150)).toNat
    generalize 2 ^ ((E : Int) - 150 - ((B : Int) - 150)).toNat = k at *
    rw [Nat.pow_zero, Nat.mul_one]
    calc 2 ^ 23 + 0 ≤ (2 ^ 23 + T) * 1 := by omega
      _ ≤ (2 ^ 23 + T) * k := Nat.mul_le_mul_left _ this) with z | z
  · rw [z]
    show (0 : Int32) ≤ 1
    decide
  · rw [z]
    show (0 : Int32) ≤ 0
    decide
theorem fc_pos {E T : Nat} {op : CmpOp} (h1 : 1 ≤ E) (hE : E ≤ 254) (hT : T < 2 ^ 23) : Op.cmpValue (FP.fcmp (nf E T) 0) op = 1 := by
  show Op.cmpValue (FP.Core.order _ _) op = _
  rw [dec32 h1 hE hT, dec32_0, ord_gt]
  · rfl
  · rw [Nat.zero_mul]
    exact Nat.mul_pos (by omega) (pw_pos _)
theorem fc_0 {op : CmpOp} : Op.cmpValue (FP.fcmp 0 0) op = 0 := by cases op <;> decide
theorem nI_m1 {k : Nat} : nI (k + 1) + Int32.ofInt (-1) = nI k := by
  rw [show Int32.ofInt (-1) = -1 by decide, ← Int32.sub_eq_add_neg, nI_pred]
theorem bits_or {E T : Nat} (hE : E ≤ 254) (hT : T < 2 ^ 23) : (nI E <<< ((23 : Int32) &&& 31)) ||| nI T = nI (E * 2 ^ 23 + T) := by
  refine Int32.toBitVec_inj.mp ?_
  have e : (nI E <<< ((23 : Int32) &&& 31)).toBitVec = BitVec.ofNat 32 E <<< 23 := rfl
  rw [Int32.toBitVec_or, e]
  show BitVec.ofNat 32 E <<< 23 ||| BitVec.ofNat 32 T = BitVec.ofNat 32 (E * 2 ^ 23 + T)
  refine BitVec.eq_of_toNat_eq ?_
  rw [BitVec.toNat_or, BitVec.toNat_shiftLeft, BitVec.toNat_ofNat, BitVec.toNat_ofNat, BitVec.toNat_ofNat, Nat.mod_eq_of_lt (show E < 2 ^ 32 by omega), Nat.shiftLeft_eq, Nat.mod_eq_of_lt (show E * 2 ^ 23 < 2 ^ 32 by omega), Nat.mod_eq_of_lt (show T < 2 ^ 32 by omega), Nat.mod_eq_of_lt (show E * 2 ^ 23 + T < 2 ^ 32 by omega), Nat.mul_comm E, Nat.two_pow_add_eq_or_of_lt hT]
theorem k_two : (1073741824 : UInt32) = nf 128 0 := by decide
theorem k_one : (1065353216 : UInt32) = nf 127 0 := by decide
theorem k_8m : (1258291200 : UInt32) = nf 150 0 := by decide
/-- a quotient of normal floats -/
theorem fdiv_n {E1 T1 E2 T2 : Nat} (h1 : 1 ≤ E1) (h2 : E1 ≤ 254) (hT1 : T1 < 2 ^ 23) (h3 : 1 ≤ E2) (h4 : E2 ≤ 254) (hT2 : T2 < 2 ^ 23) (lo : E2 + 1 ≤ E1 + 126) (hi : E1 + 128 ≤ E2 + 253) : ∃ E T, E1 + 126 ≤ E + E2 ∧ E + E2 ≤ E1 + 128 ∧ T < 2 ^ 23 ∧ FP.fdiv (nf E1 T1) (nf E2 T2) = nf E T := by
  have l1 := lead_ge (num := 2 ^ 23 + T1) (den := 2 ^ 23 + T2) (i := 0) (j := 1) (by omega) (by omega) (by omega)
  have l2 := lead_lt (num := 2 ^ 23 + T1) (den := 2 ^ 23 + T2) (i := 1) (j := 0) (by omega) (by omega) (by omega)
  obtain ⟨E, T, e1, e2, e3, e4⟩ := enc_in (f := FP.Core.b32) (num := 2 ^ 23 + T1) (den := 2 ^ 23 + T2) (e := (E1 : Int) - 150 - ((E2 : Int) - 150)) (lo := E1 + 126 - E2) (hi := E1 + 128 - E2) (by omega) (by omega) (by decide) (by omega) (by rw [b32q, b32Q]; omega) (by rw [b32q, show ((FP.Core.b32.p : Nat) : Int) = 24 by decide]; omega) (by rw [b32q, show ((FP.Core.b32.p : Nat) : Int) = 24 by decide]; omega)
  rw [b32p] at e3 e4
  refine ⟨E, T, by omega, by omega, e3, ?_⟩
  show UInt32.ofNat (FP.Core.encode _ (FP.Core.quotient _ _ _)) = _
  rw [dec32 h1 h2 hT1, dec32 h3 h4 hT2, quot_fin (by omega), e4]
  rfl
/-- a whole number as a float -/
theorem i2f_n {g : Nat} (h0 : 0 < g) (hg : g < 2 ^ 20) : ∃ E T, 127 ≤ E ∧ E ≤ 147 ∧ T < 2 ^ 23 ∧ FP.i2f (nI g) = nf E T := by
  have l1 := lead_ge (num := g) (den := 1) (i := 0) (j := 0) (by omega) (by omega) (by omega)
  have l2 := lead_lt (num := g) (den := 1) (i := 20) (j := 0) (by omega) (by omega) (by omega)
  obtain ⟨E, T, e1, e2, e3, e4⟩ := enc_in (f := FP.Core.b32) (num := g) (den := 1) (e := 0) (lo := 127) (hi := 147) (by omega) (by omega) (by decide) (by omega) (by rw [b32q, b32Q]; omega) (by rw [b32q, show ((FP.Core.b32.p : Nat) : Int) = 24 by decide]; omega) (by rw [b32q, show ((FP.Core.b32.p : Nat) : Int) = 24 by decide]; omega)
  rw [b32p] at e3 e4
  refine ⟨E, T, e1, e2, e3, ?_⟩
  show UInt32.ofNat (FP.Core.encode _ (FP.Core.roundRatio _ (decide ((nI g).toInt < 0)) (nI g).toInt.natAbs 1 0)) = _
  rw [nI_toInt (by omega), Int.natAbs_natCast, decide_eq_false (by omega), e4]
  rfl
theorem i2f_0 : FP.i2f (nI 0) = 0 := by decide
theorem i2d_n {g : Nat} (h0 : 0 < g) (hg : g < 2 ^ 20) : ∃ E T, 1023 ≤ E ∧ E ≤ 1043 ∧ T < 2 ^ 52 ∧ FP.i2d (nI g) = nd E T := by
  have l1 := lead_ge (num := g) (den := 1) (i := 0) (j := 0) (by omega) (by omega) (by omega)
  have l2 := lead_lt (num := g) (den := 1) (i := 20) (j := 0) (by omega) (by omega) (by omega)
  obtain ⟨E, T, e1, e2, e3, e4⟩ := enc_in (f := FP.Core.b64) (num := g) (den := 1) (e := 0) (lo := 1023) (hi := 1043) (by omega) (by omega) (by decide) (by omega) (by rw [b64q, b64Q]; omega) (by rw [b64q, show ((FP.Core.b64.p : Nat) : Int) = 53 by decide]; omega) (by rw [b64q, show ((FP.Core.b64.p : Nat) : Int) = 53 by decide]; omega)
  rw [b64p] at e3 e4
  refine ⟨E, T, e1, e2, e3, ?_⟩
  show UInt64.ofNat (FP.Core.encode _ (FP.Core.roundRatio _ (decide ((nI g).toInt < 0)) (nI g).toInt.natAbs 1 0)) = _
  rw [nI_toInt (by omega), Int.natAbs_natCast, decide_eq_false (by omega), e4]
  rfl
