theorem i_nl {x : Int32} (h : 0 ≤ x) : ¬ x < 0 := fun z => by simp only [i_lt, i_le] at *; omega
theorem n128 {i : Nat} (h : i ≤ 127) : ¬ 128 ≤ nI i := fun z => by
  rw [i_le, nI_toInt (by omega), show (128 : Int32).toInt = 128 by decide] at z
  omega
theorem fmul_2 {E T : Nat} (h1 : 1 ≤ E) (h : E + 1 ≤ 254) (hT : T < 2 ^ 23) : FP.fmul (nf E T) (nf 128 0) = nf (E + 1) T := fmul2 (j := 1) h1 (by omega) h hT

set_option maxHeartbeats 4000000 in
set_option maxRecDepth 100000 in
theorem ct_bitsOf_0 (X : Cx) {h : Hp}  : Ct X mX9_bitsOf 0 0 0 [.float 0] h (Ex (.int (bitI 0)) h) := by
  refine Ct.ofG vX9_bitsOf.1.2.2.1 (Nat.le_of_ble_eq_true rfl) ?_
  show G X RX9 cX9_bitsOf 4 (some .int) "bitsOf" (Rm 0 0 0) (Fm X (Ex (.int (bitI 0)) h) 0 0) 0 0 0 [(0, .float 0)] [] h
  refine g_fload_n dX9_bitsOf_0 (by rfl) ?_
  refine g_fconst0 dX9_bitsOf_1 ?_
  refine g_fcmp dX9_bitsOf_2 ?_
  refine g_if_gt (tgt := 8) dX9_bitsOf_3 (by decide) (fun c1 => absurd c1 (by rw [fc_0]; decide)) (fun c1 => ?_)
  refine g_iconst (v := 0) dX9_bitsOf_6 (by decide) ?_
  refine g_iret dX9_bitsOf_7 rfl (Nat.le_refl _) (Nat.le_refl _) ?_
  exact Ex.i rfl rfl

set_option maxHeartbeats 4000000 in
set_option maxRecDepth 100000 in
theorem ct_bitsOf_n (X : Cx) {h : Hp} {E T : Nat}  (h1 : 1 ≤ E) (h2 : E ≤ 254) (hT : T < 2 ^ 23) : Ct X mX9_bitsOf 0 0 0 [.float (nf E T)] h (Ex (.int (bitI (nf E T))) h) := by
  refine Ct.ofG vX9_bitsOf.1.2.2.1 (Nat.le_of_ble_eq_true rfl) ?_
  show G X RX9 cX9_bitsOf 4 (some .int) "bitsOf" (Rm 0 0 0) (Fm X (Ex (.int (bitI (nf E T))) h) 0 0) 0 0 0 [(0, .float (nf E T))] [] h
  refine g_fload_n dX9_bitsOf_0 (by rfl) ?_
  refine g_fconst0 dX9_bitsOf_1 ?_
  refine g_fcmp dX9_bitsOf_2 ?_
  refine g_if_gt (tgt := 8) dX9_bitsOf_3 (by decide) (fun c1 => ?_) (fun c1 => absurd (by rw [fc_pos h1 h2 hT]; decide) c1)
  refine g_fload_n dX9_bitsOf_8 (by rfl) ?_
  refine g_fstore_n (L1 := [(0, _), (1, _)]) dX9_bitsOf_9 (by decide) (by rfl) ?_
  refine g_bipush (v := 127) dX9_bitsOf_10 (by decide) ?_
  refine g_istore_n (L1 := [(0, _), (1, _), (2, _)]) dX9_bitsOf_12 (by decide) (by rfl) ?_
  refine g_iconst (v := 0) dX9_bitsOf_13 (by decide) ?_
  refine g_istore_n (L1 := [(0, _), (1, _), (2, _), (3, _)]) dX9_bitsOf_14 (by decide) (by rfl) ?_
  have loop15 : ∀ i, i ≤ E - 127 → G X RX9 cX9_bitsOf 4 (some .int) "bitsOf" (Rm 0 0 0) (Fm X (Ex (.int (bitI (nf E T))) h) 0 0) 0 0 15 [(0, .float (nf E T)), (1, .float (nf (E - i) T)), (2, .int (nI (127 + i))), (3, .int (nI i))] [] h := by
    refine up_ind (E - 127) (fun i hi ih => ?_)
    refine g_iload_n dX9_bitsOf_15 (by rfl) ?_
    refine g_sipush (v := 128) dX9_bitsOf_16 (by decide) ?_
    refine g_icmp_ge (tgt := 41) dX9_bitsOf_19 (by decide) (fun c2 => absurd c2 (n128 (by omega))) (fun c2 => ?_)
    refine g_fload_n dX9_bitsOf_22 (by rfl) ?_
    refine g_fconst2 dX9_bitsOf_23 ?_
    rw [k_two]
    refine g_fcmp dX9_bitsOf_24 ?_
    refine g_if_lt (tgt := 41) dX9_bitsOf_25 (by decide) (fun c3 => ?_) (fun c3 => ?_)
    · skip
      have hiN : ¬ 128 ≤ E - i := fun z => absurd c3 (i_nl (fc_ge (op := .l) (by omega) (by omega) hT z))
      refine g_iconst (v := 0) dX9_bitsOf_41 (by decide) ?_
      refine g_istore_n (L1 := [(0, _), (1, _), (2, _), (3, _)]) dX9_bitsOf_42 (by decide) (by rfl) ?_
      have loop43 : ∀ q, q ≤ 127 - (E - i) → G X RX9 cX9_bitsOf 4 (some .int) "bitsOf" (Rm 0 0 0) (Fm X (Ex (.int (bitI (nf E T))) h) 0 0) 0 0 43 [(0, .float (nf E T)), (1, .float (nf (E - i + q) T)), (2, .int (nI (127 + i - q))), (3, .int (nI q))] [] h := by
        refine up_ind (127 - (E - i)) (fun q hq ih2 => ?_)
        refine g_iload_n dX9_bitsOf_43 (by rfl) ?_
        refine g_sipush (v := 128) dX9_bitsOf_44 (by decide) ?_
        refine g_icmp_ge (tgt := 69) dX9_bitsOf_47 (by decide) (fun c4 => absurd c4 (n128 (by omega))) (fun c4 => ?_)
        refine g_fload_n dX9_bitsOf_50 (by rfl) ?_
        refine g_fconst1 dX9_bitsOf_51 ?_
        rw [k_one]
        refine g_fcmp dX9_bitsOf_52 ?_
        refine g_if_ge (tgt := 69) dX9_bitsOf_53 (by decide) (fun c5 => ?_) (fun c5 => ?_)
        · skip
          have hq2 : ¬ E - i + q < 127 := fun z => absurd c5 (by rw [fc_lt (op := .g) (by omega) hT (by omega) z]; decide)
          rw [show E - i + q = 127 by omega, show 127 + i - q = E by omega]
          refine g_fload_n dX9_bitsOf_69 (by rfl) ?_
          refine g_fconst1 dX9_bitsOf_70 ?_
          rw [k_one]
          refine g_fsub dX9_bitsOf_71 (digits hT).1 ?_
          refine g_ldcwf dX9_bitsOf_72 cX9_306 ?_
          rw [k_8m]
          refine g_fmul dX9_bitsOf_75 (digits hT).2.1 ?_
          refine g_f2i dX9_bitsOf_76 ?_
          rw [(digits hT).2.2]
          refine g_istore_n (L1 := [(0, _), (1, _), (2, _), (3, _)]) dX9_bitsOf_77 (by decide) (by rfl) ?_
          refine g_iload_n dX9_bitsOf_78 (by rfl) ?_
          refine g_bipush (v := 23) dX9_bitsOf_79 (by decide) ?_
          refine g_ishl dX9_bitsOf_81 ?_
          refine g_iload_n dX9_bitsOf_82 (by rfl) ?_
          refine g_ior dX9_bitsOf_83 ?_
          refine g_iret dX9_bitsOf_84 rfl (Nat.le_refl _) (Nat.le_refl _) ?_
          refine Ex.i ?_ rfl
          rw [bitI_n h2 hT]
          exact bits_or h2 hT
        · skip
          have hq3 : E - i + q < 127 := by
            rcases Nat.lt_or_ge (E - i + q) 127 with z | z
            · exact z
            · exact absurd (fc_ge (op := .g) (by omega) (by omega) hT z) c5
          refine g_fload_n dX9_bitsOf_56 (by rfl) ?_
          refine g_fconst2 dX9_bitsOf_57 ?_
          rw [k_two]
          refine g_fmul dX9_bitsOf_58 (by rw [fmul_2 (by omega) (by omega) hT]; exact n32_n (by omega) hT) ?_
          refine g_fstore_n (L1 := [(0, _), (1, _), (2, _), (3, _)]) dX9_bitsOf_59 (by decide) (by rfl) ?_
          refine g_iinc (v := nI (127 + i - (q + 1))) (L1 := [(0, _), (1, _), (2, _), (3, _)]) dX9_bitsOf_60 (by rfl) (by rw [show 127 + i - q = (127 + i - (q + 1)) + 1 by omega]; exact nI_m1) (by decide) (by rfl) ?_
          refine g_iinc (v := nI (q + 1)) (L1 := [(0, _), (1, _), (2, _), (3, _)]) dX9_bitsOf_63 (by rfl) (nI_1 q) (by decide) (by rfl) ?_
          refine g_goto (tgt := 43) dX9_bitsOf_66 (by decide) ?_
          rw [fmul_2 (E := E - i + q) (T := T) (by omega) (by omega) hT, show E - i + q + 1 = E - i + (q + 1) by omega]
          exact ih2 (by omega)
      exact loop43 0 (by omega)
    · skip
      have hlt : 128 ≤ E - i := by
        rcases Nat.lt_or_ge (E - i) 128 with z | z
        · exact absurd (by rw [fc_lt (op := .l) (by omega) hT (by omega) z]; decide) c3
        · exact z
      refine g_fload_n dX9_bitsOf_28 (by rfl) ?_
      refine g_fconst2 dX9_bitsOf_29 ?_
      rw [k_two]
      refine g_fdiv dX9_bitsOf_30 (by rw [fdiv2 (by omega) (by omega) hT]; exact n32_n (by omega) hT) ?_
      refine g_fstore_n (L1 := [(0, _), (1, _), (2, _), (3, _)]) dX9_bitsOf_31 (by decide) (by rfl) ?_
      refine g_iinc (v := nI (127 + i + 1)) (L1 := [(0, _), (1, _), (2, _), (3, _)]) dX9_bitsOf_32 (by rfl) (nI_1 (127 + i)) (by decide) (by rfl) ?_
      refine g_iinc (v := nI (i + 1)) (L1 := [(0, _), (1, _), (2, _), (3, _)]) dX9_bitsOf_35 (by rfl) (nI_1 i) (by decide) (by rfl) ?_
      refine g_goto (tgt := 15) dX9_bitsOf_38 (by decide) ?_
      rw [fdiv2 (E := E - i) (T := T) (by omega) (by omega) hT, show E - i - 1 = E - (i + 1) by omega]
      exact ih (by omega)
  exact loop15 0 (by omega)

theorem ct_X9_bitsOf (X : Cx) {h : Hp} {lo hi : Nat} {x : UInt32} (k : F32 lo hi x) (h1 : 1 ≤ lo) (h2 : hi ≤ 254) : Ct X mX9_bitsOf 0 0 0 [.float x] h (Ex (.int (bitI x)) h) := by
  rcases k with rfl | ⟨E, T, e1, e2, e3, rfl⟩
  · exact ct_bitsOf_0 X
  · exact ct_bitsOf_n X (by omega) (by omega) e3
def flS (r : Nat → Int32) (l d : Nat) : UInt32 := FP.fdiv (FP.i2f (ltx r l (2 + d) + ltx r l (6 + d))) (FP.i2f (ltx r l 1))
theorem flS_f {r : Nat → Int32} {nl l d : Nat} (hO : Ok r) (hl : l < nl) (hnl : nl ≤ 20) (hk : LOk (ltx r l)) (hd : d < 4) : F32 106 148 (flS r l d) := by
  have gv := gsum_ge (r := r) (d := d) (k := 6) hO.vge
  obtain ⟨nv, nl2, no, -, -, -, -, -, -, -, -, -, -, -, -, -, hw⟩ := id hO
  obtain ⟨w0, w1, w2⟩ := hw d hd
  have w3 := w2 l (by omega)
  obtain ⟨-, k1, k2, k3, -⟩ := id hk
  have a1 := k3 (2 + d) (by omega) (by omega)
  have a2 := k3 (6 + d) (by omega) (by omega)
  obtain ⟨g1, b1, e1⟩ := i_sm (x := ltx r l (2 + d)) (n := 1000001) a1 (by omega) (by omega)
  obtain ⟨g2, b2, e2⟩ := i_sm (x := ltx r l (6 + d)) (n := 1000001) a2 (by omega) (by omega)
  obtain ⟨g3, b3, e3⟩ := i_sm (x := ltx r l 1) (n := 5001) (by omega) (by omega) (by omega)
  rw [e1, e2, nI_toInt (by omega), nI_toInt (by omega)] at w3
  rw [e3, nI_toInt (by omega)] at k1
  unfold flS
  rw [e1, e2, e3, nI_add]
  exact shade_f (by omega) (by omega) (by omega)
def Q_shadeBits (r : Nat → Int32) (w k : Int32) : Int32 := cond (okB (r 8) w && rngB 0 3 k) (bitI (flS r (cl w) (cl k))) (-1)
/-- the sum of the shades of the lots that are not sold -/
def msum (r : Nat → Int32) (d : Nat) : Nat → UInt64
  | 0 => 0
  | k + 1 => cond (sold r k) (msum r d k) (FP.dadd (msum r d k) (FP.f2d (flS r k d)))
theorem msum_t {r : Nat → Int32} {d k : Nat} (h : sold r k = true) : msum r d (k + 1) = msum r d k := by
  show cond _ _ _ = _
  rw [h]
  rfl
theorem msum_f {r : Nat → Int32} {d k : Nat} (h : sold r k = false) : msum r d (k + 1) = FP.dadd (msum r d k) (FP.f2d (flS r k d)) := by
  show cond _ _ _ = _
  rw [h]
  rfl
def unsoldN (r : Nat → Int32) : Nat → Nat := cntN (fun l => !sold r l)
theorem unsN_t {r : Nat → Int32} {k : Nat} (h : sold r k = true) : unsoldN r (k + 1) = unsoldN r k := by
  show cond _ _ _ = _
  simp only [h]
  rfl
theorem unsN_f {r : Nat → Int32} {k : Nat} (h : sold r k = false) : unsoldN r (k + 1) = unsoldN r k + 1 := by
  show cond _ _ _ = _
  simp only [h]
  rfl
def meanF (r : Nat → Int32) (d n : Nat) : UInt32 := FP.d2f (FP.ddiv (msum r d n) (FP.i2d (nI (unsoldN r n))))
def Q_meanBits (r : Nat → Int32) (d : Int32) : Int32 := cond (rngB 0 3 d) (cond (decide (unsoldN r (cl (r 8)) = 0)) (-4) (bitI (meanF r (cl d) (cl (r 8))))) (-1)
theorem D64.mono {lo hi hi2 : Nat} {x : UInt64} (k : D64 lo hi x) (h : hi ≤ hi2) : D64 lo hi2 x := by
  rcases k with rfl | ⟨E, T, e1, e2, e3, rfl⟩
  · exact Or.inl rfl
  · exact Or.inr ⟨E, T, e1, by omega, e3, rfl⟩
theorem n0_pos {c : Nat} (hc : c < 2 ^ 31) (h : 0 < nI c) : 0 < c := by
  rw [i_lt, nI_toInt hc, z_toInt] at h
  omega
theorem n0_npos {c : Nat} (hc : c < 2 ^ 31) (h : ¬ 0 < nI c) : c = 0 := by
  rw [i_lt, nI_toInt hc, z_toInt] at h
  omega

set_option maxHeartbeats 4000000 in
set_option maxRecDepth 100000 in
theorem ct_X9_shadeBits (X : Cx) {h : Hp} {A B m : Nat → Nat} {C : Nat → Nat → Nat} {r : Nat → Int32} {n tn : Nat} {rows : Nat → Nat → Int32} {tg : Nat → Int32} {w k : Int32}  (hO : Ok r) (hY : SysAt X h A B m C r n rows tn tg) : Ct X mX9_shadeBits 2 0 0 [.ref (m 0), .int w, .int k] h (Ex (.int (Q_shadeBits r w k)) h) := by
  obtain ⟨y0, hA, -, y1, y2, -, yT, -⟩ := id hY
  have hO0 := hO
  obtain ⟨nv, nl, no, hnv, hnl, hno, e7, e8, e9, hset, hvok, hvz, hlok, hlz, hok, hoz, hw⟩ := hO0
  have hA0 := hA
  obtain ⟨a0, a1, a2, a3, a4, a5, a6, av, al, ao⟩ := hA0
  unfold hobC at a0
  rw [e7, e8, e9] at a0
  refine Ct.ofG vX9_shadeBits.1.2.2.1 (Nat.le_of_ble_eq_true rfl) ?_
  show G X RX9 cX9_shadeBits 4 (some .int) "shadeBits" (Rm 2 0 0) (Fm X (Ex (.int (Q_shadeBits r w k)) h) 0 0) 0 0 0 [(0, .ref (m 0)), (1, .int w), (2, .int k)] [] h
  refine g_aload_n dX9_shadeBits_0 (by rfl) (by first | exact isRf_r | exact isRf_n | exact isRf_o | assumption) ?_
  refine g_getf dX9_shadeBits_1 fX9_10 (by first | assumption | (repeat' (first | assumption | exact hu_same | exact Ne.symm (by assumption) | apply hu_n1))) (by rfl) ?_
  refine g_iload_n dX9_shadeBits_4 (by rfl) ?_
  by_cases hvj : ∃ j, j < nl ∧ w = nI j
  · skip
    obtain ⟨j, hj, rfl⟩ := hvj
    have alj := al j (by omega)
    obtain ⟨l1, l2, l3⟩ := id alj
    unfold lotC at l1
    have lok := hlok j hj
    refine g_cV1x dX9_shadeBits_5 lX9_117 vX1_findLot (ct_findLot X (by omega) a0 a2 hj (laR_j (by omega))) (by first | assumption | (repeat' (first | assumption | exact hu_same | exact Ne.symm (by assumption) | apply hu_n1))) rfl ⟨Nat.le_of_ble_eq_true rfl, Nat.le_of_ble_eq_true rfl⟩ (Nat.le_of_ble_eq_true rfl) ⟨Nat.le_of_ble_eq_true rfl, Nat.le_of_ble_eq_true rfl⟩ ?_
    refine g_astore_n (L1 := [(0, _), (1, _), (2, _), (3, _)]) dX9_shadeBits_8 (by first | exact isRf_r | exact isRf_n | exact isRf_o | assumption) (by decide) (by rfl) ?_
    refine g_aload_n dX9_shadeBits_9 (by rfl) (by first | exact isRf_r | exact isRf_n | exact isRf_o | assumption) ?_
    refine g_ifnull (tgt := 20) dX9_shadeBits_10 (by decide) (by first | exact isRf_r | exact isRf_n | exact isRf_o | assumption) (fun c1 => nomatch c1) (fun c1 => ?_)
    refine g_iload_n dX9_shadeBits_13 (by rfl) ?_
    refine g_cS1x dX9_shadeBits_14 lX9_164 rfl vX9_isDye (ct_X9_isDye X) ⟨Nat.le_of_ble_eq_true rfl, Nat.le_of_ble_eq_true rfl⟩ (Nat.le_of_ble_eq_true rfl) ⟨Nat.le_of_ble_eq_true rfl, Nat.le_of_ble_eq_true rfl⟩ ?_
    refine g_if_ne (tgt := 22) dX9_shadeBits_17 (by decide) (fun c2 => ?_) (fun c2 => ?_)
    · skip
      have hk : rngB 0 3 k = true := by rw [← dye_rng]; exact decide_eq_true (bI_d1 _ c2)
      obtain ⟨d, hd, rfl⟩ := dye_nI hk
      have hF := flS_f hO hj hnl lok hd
      unfold flS at hF
      refine g_aload_n dX9_shadeBits_22 (by rfl) (by first | exact isRf_r | exact isRf_n | exact isRf_o | assumption) ?_
      refine g_iload_n dX9_shadeBits_23 (by rfl) ?_
      refine g_cV1x dX9_shadeBits_24 lX9_171 vX2_floatShade (ct_X2_floatShade X hd lok.pos (F32.num hF (by omega)) alj) (by first | assumption | (repeat' (first | assumption | exact hu_same | exact Ne.symm (by assumption) | apply hu_n1))) rfl ⟨Nat.le_of_ble_eq_true rfl, Nat.le_of_ble_eq_true rfl⟩ (Nat.le_of_ble_eq_true rfl) ⟨Nat.le_of_ble_eq_true rfl, Nat.le_of_ble_eq_true rfl⟩ ?_
      refine g_cS1x dX9_shadeBits_27 lX9_175 rfl vX9_bitsOf (ct_X9_bitsOf X hF (by omega) (by omega)) ⟨Nat.le_of_ble_eq_true rfl, Nat.le_of_ble_eq_true rfl⟩ (Nat.le_of_ble_eq_true rfl) ⟨Nat.le_of_ble_eq_true rfl, Nat.le_of_ble_eq_true rfl⟩ ?_
      refine g_iret dX9_shadeBits_30 rfl (Nat.le_refl _) (Nat.le_refl _) ?_
      refine Ex.i ?_ rfl
      unfold Q_shadeBits
      rw [e8, okB_t hj (by omega), hk, cl_nI (by omega), cl_nI (by omega)]
      rfl
    · skip
      have hk : rngB 0 3 k = false := by rw [← dye_rng]; exact decide_eq_false (bI_d0 _ c2)
      refine g_iconst (v := (-1)) dX9_shadeBits_20 (by decide) ?_
      refine g_iret dX9_shadeBits_21 rfl (Nat.le_refl _) (Nat.le_refl _) ?_
      refine Ex.i ?_ rfl
      unfold Q_shadeBits
      first
        | (rw [e8, okB_f (by omega) hvj]; rfl)
        | (rw [hk, Bool.and_false]; rfl)
  · skip
    refine g_cV1x dX9_shadeBits_5 lX9_117 vX1_findLot (ct_findLotN X (by omega) a0 a2 hvj) (by first | assumption | (repeat' (first | assumption | exact hu_same | exact Ne.symm (by assumption) | apply hu_n1))) rfl ⟨Nat.le_of_ble_eq_true rfl, Nat.le_of_ble_eq_true rfl⟩ (Nat.le_of_ble_eq_true rfl) ⟨Nat.le_of_ble_eq_true rfl, Nat.le_of_ble_eq_true rfl⟩ ?_
    refine g_astore_n (L1 := [(0, _), (1, _), (2, _), (3, _)]) dX9_shadeBits_8 (by first | exact isRf_r | exact isRf_n | exact isRf_o | assumption) (by decide) (by rfl) ?_
    refine g_aload_n dX9_shadeBits_9 (by rfl) (by first | exact isRf_r | exact isRf_n | exact isRf_o | assumption) ?_
    refine g_ifnull (tgt := 20) dX9_shadeBits_10 (by decide) (by first | exact isRf_r | exact isRf_n | exact isRf_o | assumption) (fun c3 => ?_) (fun c3 => absurd rfl c3)
    refine g_iconst (v := (-1)) dX9_shadeBits_20 (by decide) ?_
    refine g_iret dX9_shadeBits_21 rfl (Nat.le_refl _) (Nat.le_refl _) ?_
    refine Ex.i ?_ rfl
    unfold Q_shadeBits
    first
      | (rw [e8, okB_f (by omega) hvj]; rfl)
      | (rw [hk, Bool.and_false]; rfl)

set_option maxHeartbeats 4000000 in
set_option maxRecDepth 100000 in
theorem ct_X9_meanBits (X : Cx) {h : Hp} {A B m : Nat → Nat} {C : Nat → Nat → Nat} {r : Nat → Int32} {n tn : Nat} {rows : Nat → Nat → Int32} {tg : Nat → Int32} {d : Int32}  (hO : Ok r) (hY : SysAt X h A B m C r n rows tn tg) : Ct X mX9_meanBits 2 0 0 [.ref (m 0), .int d] h (Ex (.int (Q_meanBits r d)) h) := by
  obtain ⟨y0, hA, -, y1, y2, -, yT, -⟩ := id hY
  have hO0 := hO
  obtain ⟨nv, nl, no, hnv, hnl, hno, e7, e8, e9, hset, hvok, hvz, hlok, hlz, hok, hoz, hw⟩ := hO0
  have hA0 := hA
  obtain ⟨a0, a1, a2, a3, a4, a5, a6, av, al, ao⟩ := hA0
  unfold hobC at a0
  rw [e7, e8, e9] at a0
  refine Ct.ofG vX9_meanBits.1.2.2.1 (Nat.le_of_ble_eq_true rfl) ?_
  show G X RX9 cX9_meanBits 7 (some .int) "meanBits" (Rm 2 0 0) (Fm X (Ex (.int (Q_meanBits r d)) h) 0 0) 0 0 0 [(0, .ref (m 0)), (1, .int d)] [] h
  refine g_iload_n dX9_meanBits_0 (by rfl) ?_
  refine g_cS1x dX9_meanBits_1 lX9_164 rfl vX9_isDye (ct_X9_isDye X) ⟨Nat.le_of_ble_eq_true rfl, Nat.le_of_ble_eq_true rfl⟩ (Nat.le_of_ble_eq_true rfl) ⟨Nat.le_of_ble_eq_true rfl, Nat.le_of_ble_eq_true rfl⟩ ?_
  refine g_if_ne (tgt := 9) dX9_meanBits_4 (by decide) (fun c1 => ?_) (fun c1 => ?_)
  · skip
    have hk : rngB 0 3 d = true := by rw [← dye_rng]; exact decide_eq_true (bI_d1 _ c1)
    obtain ⟨d, hd, rfl⟩ := dye_nI hk
    refine g_dconst0 dX9_meanBits_9 ?_
    refine g_dstore_n (L1 := [(0, _), (1, _), (2, _)]) dX9_meanBits_10 (by decide) (by rfl) ?_
    refine g_iconst (v := 0) dX9_meanBits_11 (by decide) ?_
    refine g_istore (L1 := [(0, _), (1, _), (2, _), (4, _)]) dX9_meanBits_12 (by decide) (by rfl) ?_
    refine g_iconst (v := 0) dX9_meanBits_14 (by decide) ?_
    refine g_istore (L1 := [(0, _), (1, _), (2, _), (4, _), (5, _)]) dX9_meanBits_15 (by decide) (by rfl) ?_
    have loop17 : ∀ i, i ≤ nl → ∀ (s : UInt64) (c : Nat), s = msum r d i → c = unsoldN r i → D64 1002 (1045 + 2 * i) s → G X RX9 cX9_meanBits 7 (some .int) "meanBits" (Rm 2 0 0) (Fm X (Ex (.int (Q_meanBits r (nI d))) h) 0 0) 0 0 17 [(0, .ref (m 0)), (1, .int (nI d)), (2, .double s), (4, .int (nI c)), (5, .int (nI i))] [] h := by
      refine up_ind nl (fun i hi ih => ?_)
      intro s c es ec hD
      have hcl : c ≤ i := by rw [ec]; exact cnt_le i
      refine g_iload dX9_meanBits_17 (by rfl) ?_
      refine g_aload_n dX9_meanBits_19 (by rfl) (by first | exact isRf_r | exact isRf_n | exact isRf_o | assumption) ?_
      refine g_getf dX9_meanBits_20 fX9_10 (by first | assumption | (repeat' (first | assumption | exact hu_same | exact Ne.symm (by assumption) | apply hu_n1))) (by rfl) ?_
      refine g_getf dX9_meanBits_23 fX9_179 (by first | assumption | (repeat' (first | assumption | exact hu_same | exact Ne.symm (by assumption) | apply hu_n1))) (by rfl) ?_
      refine g_icmp_ge (tgt := 72) dX9_meanBits_26 (by decide) (fun c2 => ?_) (fun c2 => ?_)
      · skip
        have hie : i = nl := Nat.le_antisymm hi (c_ge (by omega) (by omega) c2)
        subst hie
        refine g_iload dX9_meanBits_72 (by rfl) ?_
        refine g_if_gt (tgt := 80) dX9_meanBits_74 (by decide) (fun c3 => ?_) (fun c3 => ?_)
        · skip
          have hc0 := n0_pos (by omega) c3
          refine g_dload_n dX9_meanBits_80 (by rfl) ?_
          refine g_iload dX9_meanBits_81 (by rfl) ?_
          refine g_i2d dX9_meanBits_83 ?_
          refine g_ddiv dX9_meanBits_84 (D64.num (mean_f hD (by omega) hc0 (by omega)) (by omega)) ?_
          refine g_d2f dX9_meanBits_85 (F32.num (flt_f (mean_f hD (by omega) hc0 (by omega))) (by omega)) ?_
          refine g_cS1x dX9_meanBits_86 lX9_175 rfl vX9_bitsOf (ct_X9_bitsOf X (flt_f (mean_f hD (by omega) hc0 (by omega))) (by omega) (by omega)) ⟨Nat.le_of_ble_eq_true rfl, Nat.le_of_ble_eq_true rfl⟩ (Nat.le_of_ble_eq_true rfl) ⟨Nat.le_of_ble_eq_true rfl, Nat.le_of_ble_eq_true rfl⟩ ?_
          refine g_iret dX9_meanBits_89 rfl (Nat.le_refl _) (Nat.le_refl _) ?_
          refine Ex.i ?_ rfl
          unfold Q_meanBits meanF
          rw [hk, e8, cl_nI (by omega), cl_nI (by omega), ← ec, ← es, decide_eq_false (by omega)]
          rfl
        · skip
          have hc0 := n0_npos (by omega) c3
          refine g_bipush (v := (-4)) dX9_meanBits_77 (by decide) ?_
          refine g_iret dX9_meanBits_79 rfl (Nat.le_refl _) (Nat.le_refl _) ?_
          refine Ex.i ?_ rfl
          unfold Q_meanBits
          rw [hk, e8, cl_nI (by omega), ← ec, decide_eq_true hc0]
          rfl
      · skip
        have hlt : i < nl := c_nge (by omega) (by omega) c2
        refine g_aload_n dX9_meanBits_29 (by rfl) (by first | exact isRf_r | exact isRf_n | exact isRf_o | assumption) ?_
        refine g_getf dX9_meanBits_30 fX9_10 (by first | assumption | (repeat' (first | assumption | exact hu_same | exact Ne.symm (by assumption) | apply hu_n1))) (by rfl) ?_
        refine g_iload dX9_meanBits_33 (by rfl) ?_
        refine g_cV1x dX9_meanBits_35 lX9_117 vX1_findLot (ct_findLot X (by omega) a0 a2 hlt (laR_j (by omega))) (by first | assumption | (repeat' (first | assumption | exact hu_same | exact Ne.symm (by assumption) | apply hu_n1))) rfl ⟨Nat.le_of_ble_eq_true rfl, Nat.le_of_ble_eq_true rfl⟩ (Nat.le_of_ble_eq_true rfl) ⟨Nat.le_of_ble_eq_true rfl, Nat.le_of_ble_eq_true rfl⟩ ?_
        have alj := al i (by omega)
        obtain ⟨l1, l2, l3⟩ := id alj
        unfold lotC at l1
        have lok := hlok i hlt
        have hF := flS_f hO hlt hnl lok hd
        unfold flS at hF
        refine g_astore (L1 := [(0, _), (1, _), (2, _), (4, _), (5, _), (6, _)]) dX9_meanBits_38 (by first | exact isRf_r | exact isRf_n | exact isRf_o | assumption) (by decide) (by rfl) ?_
        refine g_aload dX9_meanBits_40 (by rfl) (by first | exact isRf_r | exact isRf_n | exact isRf_o | assumption) ?_
        refine g_ifnull (tgt := 66) dX9_meanBits_42 (by decide) (by first | exact isRf_r | exact isRf_n | exact isRf_o | assumption) (fun c4 => nomatch c4) (fun c4 => ?_)
        refine g_aload dX9_meanBits_45 (by rfl) (by first | exact isRf_r | exact isRf_n | exact isRf_o | assumption) ?_
        refine g_cV0x dX9_meanBits_47 lX9_154 vX2_isSold (ct_X2_isSold X alj) (by first | assumption | (repeat' (first | assumption | exact hu_same | exact Ne.symm (by assumption) | apply hu_n1))) rfl ⟨Nat.le_of_ble_eq_true rfl, Nat.le_of_ble_eq_true rfl⟩ (Nat.le_of_ble_eq_true rfl) ⟨Nat.le_of_ble_eq_true rfl, Nat.le_of_ble_eq_true rfl⟩ ?_
        refine g_if_ne (tgt := 66) dX9_meanBits_50 (by decide) (fun c5 => ?_) (fun c5 => ?_)
        · skip
          have hsd : sold r i = true := decide_eq_true (bI_d1 _ c5)
          refine g_iinc (v := nI (i + 1)) (L1 := [(0, _), (1, _), (2, _), (4, _), (5, _), (6, _)]) dX9_meanBits_66 (by rfl) (nI_1 i) (by decide) (by rfl) ?_
          refine g_goto (tgt := 17) dX9_meanBits_69 (by decide) ?_
          refine g_pick [0, 1, 2, 3, 4] rfl ?_
          first
            | exact ih hlt _ _ (by rw [es]; exact (msum_t hsd).symm) (by rw [ec]; exact (unsN_t hsd).symm) (hD.mono (by omega))
            | exact ih hlt _ _ (by rw [es]; exact (msum_f hsd).symm) (by rw [ec]; exact (unsN_f hsd).symm) (add_f (hi := 1045 + 2 * i) hD (dbl_f hF (by omega) (by omega)) (by omega) (by omega) (by omega))
        · skip
          have hsd : sold r i = false := decide_eq_false (bI_d0 _ c5)
          refine g_dload_n dX9_meanBits_53 (by rfl) ?_
          refine g_aload dX9_meanBits_54 (by rfl) (by first | exact isRf_r | exact isRf_n | exact isRf_o | assumption) ?_
          refine g_iload_n dX9_meanBits_56 (by rfl) ?_
          refine g_cV1x dX9_meanBits_57 lX9_171 vX2_floatShade (ct_X2_floatShade X hd lok.pos (F32.num hF (by omega)) alj) (by first | assumption | (repeat' (first | assumption | exact hu_same | exact Ne.symm (by assumption) | apply hu_n1))) rfl ⟨Nat.le_of_ble_eq_true rfl, Nat.le_of_ble_eq_true rfl⟩ (Nat.le_of_ble_eq_true rfl) ⟨Nat.le_of_ble_eq_true rfl, Nat.le_of_ble_eq_true rfl⟩ ?_
          refine g_f2d dX9_meanBits_60 (D64.num (dbl_f hF (by omega) (by omega)) (by omega)) ?_
          refine g_dadd dX9_meanBits_61 (D64.num (add_f (hi := 1045 + 2 * i) hD (dbl_f hF (by omega) (by omega)) (by omega) (by omega) (by omega)) (by omega)) ?_
          refine g_dstore_n (L1 := [(0, _), (1, _), (2, _), (4, _), (5, _), (6, _)]) dX9_meanBits_62 (by decide) (by rfl) ?_
          refine g_iinc (v := nI (c + 1)) (L1 := [(0, _), (1, _), (2, _), (4, _), (5, _), (6, _)]) dX9_meanBits_63 (by rfl) (nI_1 c) (by decide) (by rfl) ?_
          refine g_iinc (v := nI (i + 1)) (L1 := [(0, _), (1, _), (2, _), (4, _), (5, _), (6, _)]) dX9_meanBits_66 (by rfl) (nI_1 i) (by decide) (by rfl) ?_
          refine g_goto (tgt := 17) dX9_meanBits_69 (by decide) ?_
          refine g_pick [0, 1, 2, 3, 4] rfl ?_
          first
            | exact ih hlt _ _ (by rw [es]; exact (msum_t hsd).symm) (by rw [ec]; exact (unsN_t hsd).symm) (hD.mono (by omega))
            | exact ih hlt _ _ (by rw [es]; exact (msum_f hsd).symm) (by rw [ec]; exact (unsN_f hsd).symm) (add_f (hi := 1045 + 2 * i) hD (dbl_f hF (by omega) (by omega)) (by omega) (by omega) (by omega))
    exact loop17 0 (by omega) 0 0 rfl rfl (Or.inl rfl)
  · skip
    have hk : rngB 0 3 d = false := by rw [← dye_rng]; exact decide_eq_false (bI_d0 _ c1)
    refine g_iconst (v := (-1)) dX9_meanBits_7 (by decide) ?_
    refine g_iret dX9_meanBits_8 rfl (Nat.le_refl _) (Nat.le_refl _) ?_
    refine Ex.i ?_ rfl
    unfold Q_meanBits
    rw [hk]
    rfl
