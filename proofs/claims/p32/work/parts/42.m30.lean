section LDCWF
variable {p : Program} {l : Launch} {e : Env} {R : Room} {s : State} {m : MethodId} {args : Array Value} {below : List Frame} {meth : Method} {c : Code} {H : Heap} {locs : List Loc} {cells slots : Nat} {Q : State → Prop}
theorem stand_ldcwF {T : State} (X : Stand p l e R s m args below meth c T locs cells slots) (hexec : p.tables.exec = Jvm.exec) {own : String} {index : Nat} {v : UInt32} (hown : s.vm.findClass own = some m.cls)
    (hconst : (Jvm.Cond.constantFloat own index v).before args s = true) {g : JFrame} (hg : g.method = m) (hdg : decode c.code g.pc = .ok (.ldc_w index, 3)) :
    ∀ target, Steps p.tables e below (T.setTop { g with pc := g.pc + 3, stack := .float v :: g.stack }) target → Steps p.tables e below (T.setTop g) target := by
  obtain ⟨k, cf, hk, hcf, hcp⟩ := Cond.constantFloat_spec hown hconst
  obtain ⟨k', hk', he⟩ := X.warmed.alike.2.2 _ _ hk
  intro target hrest
  subst hg
  jvm_step X.here [hexec, hdg, ldc_w.wp_float (s := T) (f := g) X.here.top hk' (by rw [he]; exact hcf) hcp]
  exact hrest
theorem lv_ldcwF {cc : ByteArray} {pc : Nat} {ls : Array _} {rest : List Value} (hexec : p.tables.exec = Jvm.exec) (hb : c.code = cc) {own : String} {index : Nat} {v : UInt32} (hown : s.vm.findClass own = some m.cls) (hconst : (Jvm.Cond.constantFloat own index v).before args s = true) (hdg : decode cc pc = .ok (.ldc_w index, 3)) (k : W p l e R s m args below meth c H locs cells slots Q (F0 m (pc + 3) ls (.float v :: rest))) : W p l e R s m args below meth c H locs cells slots Q (F0 m pc ls rest) := by
  intro T hT X
  obtain ⟨t, a, b⟩ := k T hT X
  exact ⟨t, stand_ldcwF X hexec hown hconst (g := F0 m pc ls rest) rfl (by rw [hb]; exact hdg) t a, b⟩
end LDCWF
section GR2
variable {X : Cx} {own : String} {b : ByteArray} {mx : Nat} {rt : Option FieldType} {nm : String} {R : Room} {Qf : List Frame → Array Value → State → State → Prop} {c n pc : Nat} {L : List (Nat × Value)} {st : List Value} {h : Hp}
theorem g_ldcwf {i : Nat} {v : UInt32} (hd : decode b pc = .ok (.ldc_w i, 3)) (hw : Cond.constantFloat own i v ∈ lw_tbl) (k : G X own b mx rt nm R Qf c n (pc + 3) L (.float v :: st) h) : G X own b mx rt nm R Qf c n pc L st h :=
  fun p ev s m args below meth cd H locs ls hI hR hS hl => lv_ldcwF hI.1 hI.2.1 hI.2.2.2.1 (hI.2.2.2.2.1 _ (inA hw rfl)) hd (k p ev s m args below meth cd H locs ls hI hR hS hl)
end GR2
/-! ## the operations that the program asks for -/
def nf (E T : Nat) : UInt32 := .ofNat (E * 2 ^ 23 + T)
def nd (E T : Nat) : UInt64 := .ofNat (E * 2 ^ 52 + T)
theorem b32p : FP.Core.b32.p - 1 = 23 := rfl
theorem b64p : FP.Core.b64.p - 1 = 52 := rfl
theorem b32q : FP.Core.b32.qmin = -149 := by decide
theorem b32Q : FP.Core.b32.qmax = 104 := by decide
theorem b64q : FP.Core.b64.qmin = -1074 := by decide
theorem b64Q : FP.Core.b64.qmax = 971 := by decide
theorem nf_nat {E T : Nat} (h : E ≤ 254) (hT : T < 2 ^ 23) : (nf E T).toNat = E * 2 ^ 23 + T := by
  unfold nf
  rw [UInt32.toNat_ofNat', Nat.mod_eq_of_lt (by omega)]
theorem nd_nat {E T : Nat} (h : E ≤ 2046) (hT : T < 2 ^ 52) : (nd E T).toNat = E * 2 ^ 52 + T := by
  unfold nd
  rw [UInt64.toNat_ofNat', Nat.mod_eq_of_lt (by omega)]
theorem dec32 {E T : Nat} (h1 : 1 ≤ E) (h : E ≤ 254) (hT : T < 2 ^ 23) : FP.Core.decode FP.Core.b32 (nf E T).toNat = .fin false (2 ^ 23 + T) ((E : Int) - 150) := by
  rw [nf_nat h hT]
  have z := dec_n (f := FP.Core.b32) (E := E) (T := T) h1 (show E + 1 < 2 ^ 8 by omega) hT
  rw [b32p, b32q] at z
  rw [z, show (-149 + ((E : Int) - 1)) = (E : Int) - 150 by omega]
theorem dec64 {E T : Nat} (h1 : 1 ≤ E) (h : E ≤ 2046) (hT : T < 2 ^ 52) : FP.Core.decode FP.Core.b64 (nd E T).toNat = .fin false (2 ^ 52 + T) ((E : Int) - 1075) := by
  rw [nd_nat h hT]
  have z := dec_n (f := FP.Core.b64) (E := E) (T := T) h1 (show E + 1 < 2 ^ 11 by omega) hT
  rw [b64p, b64q] at z
  rw [z, show (-1074 + ((E : Int) - 1)) = (E : Int) - 1075 by omega]
theorem dec32_0 : FP.Core.decode FP.Core.b32 (0 : UInt32).toNat = .fin false 0 (-149) := by decide
theorem dec64_0 : FP.Core.decode FP.Core.b64 (0 : UInt64).toNat = .fin false 0 (-1074) := by decide
theorem n32_n {E T : Nat} (h : E ≤ 254) (hT : T < 2 ^ 23) : vf_n32 (nf E T) := by
  unfold vf_n32
  rw [UInt32.le_iff_toNat_le, UInt32.toNat_and, nf_nat h hT, show (0x7fffffff : UInt32).toNat = 2 ^ 31 - 1 by rfl, Nat.and_two_pow_sub_one_eq_mod, show (0x7f800000 : UInt32).toNat = 255 * 2 ^ 23 by rfl, Nat.mod_eq_of_lt (by omega)]
  omega
theorem n64_n {E T : Nat} (h : E ≤ 2046) (hT : T < 2 ^ 52) : vf_n64 (nd E T) := by
  unfold vf_n64
  rw [UInt64.le_iff_toNat_le, UInt64.toNat_and, nd_nat h hT, show (0x7fffffffffffffff : UInt64).toNat = 2 ^ 63 - 1 by rfl, Nat.and_two_pow_sub_one_eq_mod, show (0x7ff0000000000000 : UInt64).toNat = 2047 * 2 ^ 52 by rfl, Nat.mod_eq_of_lt (by omega)]
  omega
theorem n32_0 : vf_n32 0 := by unfold vf_n32; decide
theorem n64_0 : vf_n64 0 := by unfold vf_n64; decide
theorem quot_fin {f : FP.Core.Fmt} {c d : Nat} {q r : Int} (hd : d ≠ 0) : FP.Core.quotient f (.fin false c q) (.fin false d r) = FP.Core.roundRatio f false c d (q - r) := by
  simp [FP.Core.quotient, hd]
theorem fdiv2 {E T : Nat} (h1 : 2 ≤ E) (h : E ≤ 254) (hT : T < 2 ^ 23) : FP.fdiv (nf E T) (nf 128 0) = nf (E - 1) T := by
  show UInt32.ofNat (FP.Core.encode _ (FP.Core.quotient _ _ _)) = _
  rw [dec32 (by omega) h hT, dec32 (by omega) (by omega) (by omega)]
  rw [quot_fin (by omega), round_exact (f := FP.Core.b32) (c := 2 ^ 23 + T) (q := (E : Int) - 151) (by omega) (by omega) (by decide) (by rw [show ((E : Int) - 150 - (((128 : Nat) : Int) - 150) - ((E : Int) - 151)).toNat = 23 by omega, show (((E : Int) - 151) - ((E : Int) - 150 - (((128 : Nat) : Int) - 150))).toNat = 0 by omega]) (by rw [b32p]; omega) (by show _ < 2 ^ 24; omega) (by rw [b32q]; omega) (by rw [b32Q]; omega)]
  show UInt32.ofNat (FP.Core.encode FP.Core.b32 (.fin false _ _)) = _
  rw [enc_n (by rw [b32p]; omega), b32p, b32q]
  unfold nf
  exact congrArg UInt32.ofNat (by omega)
theorem fmul2 {E T j : Nat} (h1 : 1 ≤ E) (hj : j ≤ 127) (h : E + j ≤ 254) (hT : T < 2 ^ 23) : FP.fmul (nf E T) (nf (127 + j) 0) = nf (E + j) T := by
  show UInt32.ofNat (FP.Core.encode _ (FP.Core.round _ (FP.Core.exactProduct _ _))) = _
  rw [dec32 (by omega) (by omega) hT, dec32 (by omega) (by omega) (by omega)]
  show UInt32.ofNat (FP.Core.encode _ (FP.Core.roundRatio _ false _ 1 _)) = _
  rw [round_exact (f := FP.Core.b32) (c := 2 ^ 23 + T) (q := (E : Int) + j - 150) (by omega) (by omega) (by decide) (by rw [show ((E : Int) - 150 + (((127 + j : Nat) : Int) - 150) - ((E : Int) + j - 150)).toNat = 0 by omega, show (((E : Int) + j - 150) - ((E : Int) - 150 + (((127 + j : Nat) : Int) - 150))).toNat = 23 by omega]; omega) (by rw [b32p]; omega) (by show _ < 2 ^ 24; omega) (by rw [b32q]; omega) (by rw [b32Q]; omega)]
  rw [enc_n (by rw [b32p]; omega), b32p, b32q]
  unfold nf
  exact congrArg UInt32.ofNat (by omega)
/-- the digits behind the point -/
def mant (T : Nat) : Nat := T * 2 ^ (23 - T.log2)
theorem mant_b {T : Nat} (h0 : 0 < T) (hT : T < 2 ^ 23) : T.log2 ≤ 22 ∧ 2 ^ 23 ≤ mant T ∧ mant T < 2 ^ 24 := by
  have a := (Nat.log2_lt (n := T) (k := 23) (by omega)).mpr hT
  have b := Nat.log2_self_le (n := T) (by omega)
  have c := Nat.lt_log2_self (n := T)
  have e : 2 ^ 23 = 2 ^ T.log2 * 2 ^ (23 - T.log2) := by rw [← pw_add, show T.log2 + (23 - T.log2) = 23 by omega]
  have e2 : 2 ^ 24 = 2 ^ (T.log2 + 1) * 2 ^ (23 - T.log2) := by rw [← pw_add, show T.log2 + 1 + (23 - T.log2) = 24 by omega]
  refine ⟨by omega, ?_, ?_⟩
  · rw [e]
    exact Nat.mul_le_mul_right _ b
  · rw [e2]
    exact Nat.mul_lt_mul_of_pos_right c (pw_pos _)
theorem fsub1_dat {T : Nat} (hT : T < 2 ^ 23) : FP.fsub (nf 127 T) (nf 127 0) = UInt32.ofNat (FP.Core.encode FP.Core.b32 (FP.Core.roundRatio FP.Core.b32 false T 1 (-23))) := by
  show UInt32.ofNat (FP.Core.encode _ (FP.Core.round _ (FP.Core.exactSum _ (FP.Core.negate _)))) = _
  rw [dec32 (by omega) (by omega) hT, dec32 (by omega) (by omega) (by omega)]
  have e : FP.Core.sumUnits false (2 ^ 23 + T) (((127 : Nat) : Int) - 150) (!false) (2 ^ 23 + 0) (((127 : Nat) : Int) - 150) (min (((127 : Nat) : Int) - 150) (((127 : Nat) : Int) - 150)) = (T : Int) := by
    unfold FP.Core.sumUnits FP.Core.inUnits FP.Core.signed
    rw [show ((((127 : Nat) : Int) - 150) - min (((127 : Nat) : Int) - 150) (((127 : Nat) : Int) - 150)).toNat = 0 by omega]
    simp
    omega
  show UInt32.ofNat (FP.Core.encode _ (FP.Core.roundRatio _ (FP.Core.sumSign _ _ (FP.Core.sumUnits false (2 ^ 23 + T) (((127 : Nat) : Int) - 150) (!false) (2 ^ 23 + 0) (((127 : Nat) : Int) - 150) (min (((127 : Nat) : Int) - 150) (((127 : Nat) : Int) - 150)))) (FP.Core.sumUnits false (2 ^ 23 + T) (((127 : Nat) : Int) - 150) (!false) (2 ^ 23 + 0) (((127 : Nat) : Int) - 150) (min (((127 : Nat) : Int) - 150) (((127 : Nat) : Int) - 150))).natAbs 1 _)) = _
  rw [e, Int.natAbs_natCast, show FP.Core.sumSign false (!false) (T : Int) = false by
    unfold FP.Core.sumSign
    split
    · rfl
    · exact decide_eq_false (by omega)]
  rfl
theorem fsub1_0 : FP.fsub (nf 127 0) (nf 127 0) = 0 := by decide
theorem fsub1 {T : Nat} (h0 : 0 < T) (hT : T < 2 ^ 23) : FP.fsub (nf 127 T) (nf 127 0) = nf (T.log2 + 104) (mant T - 2 ^ 23) := by
  obtain ⟨k1, k2, k3⟩ := mant_b h0 hT
  rw [fsub1_dat hT, round_exact (f := FP.Core.b32) (c := mant T) (q := (T.log2 : Int) - 46) h0 (by omega) (by decide) (by rw [show ((-23 : Int) - ((T.log2 : Int) - 46)).toNat = 23 - T.log2 by omega, show (((T.log2 : Int) - 46) - (-23)).toNat = 0 by omega]; unfold mant; omega) (by rw [b32p]; omega) (by show _ < 2 ^ 24; omega) (by rw [b32q]; omega) (by rw [b32Q]; omega), enc_n (by rw [b32p]; omega), b32p, b32q]
  unfold nf
  exact congrArg UInt32.ofNat (by omega)
theorem f2i_m {T : Nat} (h0 : 0 < T) (hT : T < 2 ^ 23) : FP.f2i (nf (T.log2 + 127) (mant T - 2 ^ 23)) = nI T := by
  obtain ⟨k1, k2, k3⟩ := mant_b h0 hT
  show Int32.ofInt (FP.Core.toInt _ _ (FP.Core.decode _ _)) = _
  rw [dec32 (by omega) (by omega) (by omega), show 2 ^ 23 + (mant T - 2 ^ 23) = mant T by omega]
  have e : FP.Core.truncate false (mant T) (((T.log2 + 127 : Nat) : Int) - 150) = (T : Int) := by
    unfold FP.Core.truncate FP.Core.signed
    rw [show ((((T.log2 + 127 : Nat) : Int) - 150)).toNat = 0 by omega, show (-(((T.log2 + 127 : Nat) : Int) - 150)).toNat = 23 - T.log2 by omega]
    unfold mant
    rw [Nat.pow_zero, Nat.mul_one, Nat.mul_div_cancel _ (pw_pos _)]
    rfl
  unfold FP.Core.toInt
  simp only
  rw [e, show max (-2 ^ 31 : Int) (min (2 ^ 31 - 1) (T : Int)) = (T : Int) by omega]
  rfl
/-- the digits of a number from 1 to 2, as a whole number -/
theorem digits {T : Nat} (hT : T < 2 ^ 23) : vf_n32 (FP.fsub (nf 127 T) (nf 127 0)) ∧ vf_n32 (FP.fmul (FP.fsub (nf 127 T) (nf 127 0)) (nf 150 0)) ∧ FP.f2i (FP.fmul (FP.fsub (nf 127 T) (nf 127 0)) (nf 150 0)) = nI T := by
  by_cases z : T = 0
  · subst z
    rw [fsub1_0]
    exact ⟨n32_0, by unfold vf_n32; decide, by decide⟩
  · obtain ⟨k1, k2, k3⟩ := mant_b (by omega) hT
    rw [fsub1 (by omega) hT, show (150 : Nat) = 127 + 23 by rfl, fmul2 (by omega) (by omega) (by omega) (by omega)]
    exact ⟨n32_n (by omega) (by omega), n32_n (by omega) (by omega), f2i_m (by omega) hT⟩
