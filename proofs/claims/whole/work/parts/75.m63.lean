/-- a vat ahead of another one, as the model compares them -/
def stB (r : Nat → Int32) (a b : Nat) : Bool := cond (decide (strF (vt r a) = strF (vt r b))) (cond (decide (vt r a 3 = vt r b 3)) (decide (a < b)) (decide (vt r a 3 < vt r b 3))) (decide (strF (vt r b) < strF (vt r a)))
theorem i_ne_lt {x y : Int32} (h : ¬ x = y) (h2 : ¬ x < y) : y < x := by
  rw [i_lt] at h2 ⊢
  have q : x.toInt ≠ y.toInt := fun z => h (Int32.toInt_inj.mp z)
  omega
theorem stB_av {r : Nat → Int32} {o v : Nat} (h : o ≠ v) : stB r o v = avB r v o := by
  refine Bool.eq_iff_iff.mpr ?_
  unfold stB avB
  rw [decide_eq_false h]
  show _ ↔ cond (decide (o < v)) _ _ = true
  rcases Nat.lt_or_ge o v with c | c
  · rw [decide_eq_true c]
    show _ ↔ aheadB _ _ = true
    rw [aheadB_i]
    unfold ahead
    by_cases e : strF (vt r o) = strF (vt r v)
    · rw [decide_eq_true e]
      by_cases e3 : vt r o 3 = vt r v 3
      · rw [decide_eq_true e3]
        refine ⟨fun _ => Or.inr ⟨e, ?_⟩, fun _ => rfl⟩
        rw [e3]
        exact Int32.le_refl _
      · rw [decide_eq_false e3]
        show decide _ = true ↔ _
        rw [decide_eq_true_iff]
        refine ⟨fun z => Or.inr ⟨e, ?_⟩, fun z => ?_⟩
        · rw [i_le]; rw [i_lt] at z; omega
        · rcases z with z | z
          · exact absurd e z.1
          · have q : (vt r o 3).toInt ≠ (vt r v 3).toInt := fun y => e3 (Int32.toInt_inj.mp y)
            have z2 := z.2
            rw [i_le] at z2
            rw [i_lt]
            omega
    · rw [decide_eq_false e]
      show decide _ = true ↔ _
      rw [decide_eq_true_iff]
      refine ⟨fun z => Or.inl ⟨e, z⟩, fun z => ?_⟩
      rcases z with z | z
      · exact z.2
      · exact absurd z.1 e
  · rw [decide_eq_false (show ¬ o < v by omega)]
    show _ ↔ (!aheadB _ _) = true
    rw [Bool.not_eq_true', ← Bool.not_eq_true, aheadB_i]
    unfold ahead
    by_cases e : strF (vt r o) = strF (vt r v)
    · rw [decide_eq_true e]
      by_cases e3 : vt r o 3 = vt r v 3
      · rw [decide_eq_true e3]
        refine ⟨fun z => absurd z Bool.false_ne_true, fun z => absurd (Or.inr ⟨e.symm, ?_⟩) z⟩
        rw [e3]
        exact Int32.le_refl _
      · rw [decide_eq_false e3]
        show decide _ = true ↔ _
        rw [decide_eq_true_iff]
        refine ⟨fun z y => ?_, fun z => ?_⟩
        · rcases y with y | y
          · exact y.1 e.symm
          · exact i_nle z y.2
        · refine i_ngt (fun y => z (Or.inr ⟨e.symm, y⟩))
    · rw [decide_eq_false e]
      show decide _ = true ↔ _
      rw [decide_eq_true_iff]
      refine ⟨fun z y => ?_, fun z => ?_⟩
      · rcases y with y | y
        · have a := y.2
          rw [i_lt] at z a
          omega
        · exact e y.1.symm
      · refine i_ne_lt e (fun y => z (Or.inl ⟨fun q => e q.symm, y⟩))
theorem fstI_t {p : Nat → Bool} {v c : Nat} (h : p v = true) : fstI p v (c + 1) = nI v := by rw [fstI, h]; rfl
theorem fstI_f {p : Nat → Bool} {v c : Nat} (h : p v = false) : fstI p v (c + 1) = fstI p (v + 1) c := by rw [fstI, h]; rfl

set_option maxHeartbeats 4000000 in
set_option maxRecDepth 100000 in
theorem ct_X10_vatOf (X : Cx) {h : Hp} {a n1 : Nat} {r : Nat → Int32} {w k : Int32}  (hM : MoAt X h a n1 r) (hO : Ok r) : Ct X mX10_vatOf 2 0 0 [.ref a, .int w, .int k] h (Ex (.int (Q_vatOf r w k)) h) := by
  obtain ⟨⟨n2, st, n3, n4, le, n5, at0, lt, n6, fl, n7, m0⟩, m1⟩ := id hM
  unfold mdl at m0
  have dA := hM.ne
  obtain ⟨nv, nl, no, hnv, hnl, hno, e7, e8, e9, hset, hvok, hvz, hlok, hlz, hok, hoz, hw⟩ := id hO
  refine Ct.ofG vX10_vatOf.1.2.2.1 (Nat.le_of_ble_eq_true rfl) ?_
  show G X RX10 cX10_vatOf 3 (some .int) "vatOf" (Rm 2 0 0) (Fm X (Ex (.int (Q_vatOf r w k)) h) 0 0) 0 0 0 [(0, .ref a), (1, .int w), (2, .int k)] [] h
  refine g_aload_n dX10_vatOf_0 (by rfl) (by first | exact isRf_r | exact isRf_n | exact isRf_o | assumption) ?_
  refine g_iload_n dX10_vatOf_1 (by rfl) ?_
  refine g_cV1x dX10_vatOf_2 lX10_53 vX10_isVat (ct_X10_isVat X (n := nv) (by first | exact hM | exact hM.hr) (by omega) e7) (by first | exact m0 | exact hr_a dA m0) rfl ⟨Nat.le_of_ble_eq_true rfl, Nat.le_of_ble_eq_true rfl⟩ (Nat.le_of_ble_eq_true rfl) ⟨Nat.le_of_ble_eq_true rfl, Nat.le_of_ble_eq_true rfl⟩ ?_
  refine g_if_eq (tgt := 17) dX10_vatOf_5 (by decide) (fun c1 => ?_) (fun c1 => ?_)
  · skip
    have eF : Q_vatOf r w k = -1 := by
      unfold Q_vatOf
      rw [e7, show okB (nI nv) w = false from bI_0 c1]
      rfl
    refine g_iconst (v := (-1)) dX10_vatOf_17 (by decide) ?_
    refine g_iret dX10_vatOf_18 rfl (Nat.le_refl _) (Nat.le_refl _) ?_
    refine Ex.i ?_ rfl
    rw [eF]
  · skip
    have hk : okB (nI nv) w = true := bI_1 c1
    obtain ⟨v, hv, rfl⟩ := okB_i (by omega) hk
    have cv : cl (nI v) = v := cl_nI (by omega)
    refine g_iload_n dX10_vatOf_8 (by rfl) ?_
    refine g_iconst (v := 0) dX10_vatOf_9 (by decide) ?_
    refine g_iconst (v := 4) dX10_vatOf_10 (by decide) ?_
    refine g_cS3x dX10_vatOf_11 lX10_31 rfl vX10_in (ct_X10_in X) ⟨Nat.le_of_ble_eq_true rfl, Nat.le_of_ble_eq_true rfl⟩ (Nat.le_of_ble_eq_true rfl) ⟨Nat.le_of_ble_eq_true rfl, Nat.le_of_ble_eq_true rfl⟩ ?_
    refine g_if_ne (tgt := 19) dX10_vatOf_14 (by decide) (fun c2 => ?_) (fun c2 => ?_)
    · skip
      have hg := bI_1 c2
      obtain ⟨j, hj, rfl⟩ := sw_in (m := 4) (by omega) hg
      have cj : cl (nI j) = j := cl_nI (by omega)
      refine g_iload_n dX10_vatOf_19 (by rfl) ?_
      refine g_iconst (v := 4) dX10_vatOf_20 (by decide) ?_
      refine g_icmp_ge (tgt := 33) dX10_vatOf_21 (by decide) (fun c3 => ?_) (fun c3 => ?_)
      · skip
        have hj4 : j = 4 := Nat.le_antisymm hj (c_ge (a := 4) (b := j) (by omega) (by omega) c3)
        subst hj4
        have eF : Q_vatOf r (nI v) (nI 4) = bI (decide (r 2 < vt r v 3)) := by
          unfold Q_vatOf
          rw [e7, hk, hg, cv, cj]
          rfl
        refine g_aload_n dX10_vatOf_33 (by rfl) (by first | exact isRf_r | exact isRf_n | exact isRf_o | assumption) ?_
        refine g_iload_n dX10_vatOf_34 (by rfl) ?_
        refine g_iconst (v := 3) dX10_vatOf_35 (by decide) ?_
        refine g_cV2x dX10_vatOf_36 lX10_57 vX10_vatNumber (ct_X10_vatNumber X (i := v) (k := 3) (by first | exact hM | exact hM.hr) (by omega)) (by first | exact m0 | exact hr_a dA m0) rfl ⟨Nat.le_of_ble_eq_true rfl, Nat.le_of_ble_eq_true rfl⟩ (Nat.le_of_ble_eq_true rfl) ⟨Nat.le_of_ble_eq_true rfl, Nat.le_of_ble_eq_true rfl⟩ ?_
        refine g_aload_n dX10_vatOf_39 (by rfl) (by first | exact isRf_r | exact isRf_n | exact isRf_o | assumption) ?_
        refine g_getf dX10_vatOf_40 fX10_7 (by first | exact m0 | exact hr_a dA m0) (by rfl) ?_
        refine g_iconst (v := 2) dX10_vatOf_43 (by decide) ?_
        refine g_ilM (2) dX10_vatOf_44 (by first | exact m1 | exact hr_n) (by first | rfl | exact lin3 | exact lin3a | exact linA | exact linB) (by omega) ?_
        refine g_icmp_le (tgt := 52) dX10_vatOf_45 (by decide) (fun c4 => ?_) (fun c4 => ?_)
        · skip
          have eb : bI (decide (r 2 < vt r v 3)) = 0 := (bI_f (fun z => i_nle z c4)).symm
          refine g_iconst (v := 0) dX10_vatOf_52 (by decide) ?_
          refine g_iret dX10_vatOf_53 rfl (Nat.le_refl _) (Nat.le_refl _) ?_
          refine Ex.i ?_ rfl
          first
            | rw [eF, eb]
            | rw [eF]
        · skip
          have eb : bI (decide (r 2 < vt r v 3)) = 1 := (bI_t (i_ngt c4)).symm
          refine g_iconst (v := 1) dX10_vatOf_48 (by decide) ?_
          refine g_goto (tgt := 53) dX10_vatOf_49 (by decide) ?_
          refine g_iret dX10_vatOf_53 rfl (Nat.le_refl _) (Nat.le_refl _) ?_
          refine Ex.i ?_ rfl
          first
            | rw [eF, eb]
            | rw [eF]
      · skip
        have hj4 : j < 4 := c_nge (a := 4) (b := j) (by omega) (by omega) c3
        have eF : Q_vatOf r (nI v) (nI j) = r (19 + 4 * v + j) := by
          unfold Q_vatOf
          rw [e7, hk, hg, cv, cj]
          rcases (show j = 0 ∨ j = 1 ∨ j = 2 ∨ j = 3 by omega) with rfl | rfl | rfl | rfl <;> rfl
        refine g_aload_n dX10_vatOf_24 (by rfl) (by first | exact isRf_r | exact isRf_n | exact isRf_o | assumption) ?_
        refine g_iload_n dX10_vatOf_25 (by rfl) ?_
        refine g_iload_n dX10_vatOf_26 (by rfl) ?_
        refine g_cV2x dX10_vatOf_27 lX10_57 vX10_vatNumber (ct_X10_vatNumber X (i := v) (k := j) (by first | exact hM | exact hM.hr) (by omega)) (by first | exact m0 | exact hr_a dA m0) rfl ⟨Nat.le_of_ble_eq_true rfl, Nat.le_of_ble_eq_true rfl⟩ (Nat.le_of_ble_eq_true rfl) ⟨Nat.le_of_ble_eq_true rfl, Nat.le_of_ble_eq_true rfl⟩ ?_
        refine g_goto (tgt := 53) dX10_vatOf_30 (by decide) ?_
        refine g_iret dX10_vatOf_53 rfl (Nat.le_refl _) (Nat.le_refl _) ?_
        refine Ex.i ?_ rfl
        first
          | rw [eF, eb]
          | rw [eF]
    · skip
      have eF : Q_vatOf r (nI v) k = -1 := by
        unfold Q_vatOf
        rw [e7, hk, show rngB 0 4 k = false from bI_0 c2]
        rfl
      refine g_iconst (v := (-1)) dX10_vatOf_17 (by decide) ?_
      refine g_iret dX10_vatOf_18 rfl (Nat.le_refl _) (Nat.le_refl _) ?_
      refine Ex.i ?_ rfl
      rw [eF]

set_option maxHeartbeats 4000000 in
set_option maxRecDepth 100000 in
theorem ct_X10_isStronger (X : Cx) {h : Hp} {a n1 : Nat} {r : Nat → Int32} {i k : Nat}  (hM : MoAt X h a n1 r) (hi : i < 6) (hk : k < 6) (vi : VOk (vt r i)) (vk : VOk (vt r k)) : Ct X mX10_isStronger 1 0 0 [.ref a, .int (nI i), .int (nI k)] h (Ex (.int (bI (stB r i k))) h) := by
  obtain ⟨⟨n2, st, n3, n4, le, n5, at0, lt, n6, fl, n7, m0⟩, m1⟩ := id hM
  unfold mdl at m0
  have dA := hM.ne
  refine Ct.ofG vX10_isStronger.1.2.2.1 (Nat.le_of_ble_eq_true rfl) ?_
  show G X RX10 cX10_isStronger 5 (some .boolean) "isStronger" (Rm 1 0 0) (Fm X (Ex (.int (bI (stB r i k))) h) 0 0) 0 0 0 [(0, .ref a), (1, .int (nI i)), (2, .int (nI k))] [] h
  refine g_aload_n dX10_isStronger_0 (by rfl) (by first | exact isRf_r | exact isRf_n | exact isRf_o | assumption) ?_
  refine g_iload_n dX10_isStronger_1 (by rfl) ?_
  refine g_iconst (v := 2) dX10_isStronger_2 (by decide) ?_
  refine g_cV2x dX10_isStronger_3 lX10_57 vX10_vatNumber (ct_X10_vatNumber X (i := i) (k := 2) (by first | exact hM | exact hM.hr) (by omega)) (by first | exact m0 | exact hr_a dA m0) rfl ⟨Nat.le_of_ble_eq_true rfl, Nat.le_of_ble_eq_true rfl⟩ (Nat.le_of_ble_eq_true rfl) ⟨Nat.le_of_ble_eq_true rfl, Nat.le_of_ble_eq_true rfl⟩ ?_
  refine g_aload_n dX10_isStronger_6 (by rfl) (by first | exact isRf_r | exact isRf_n | exact isRf_o | assumption) ?_
  refine g_iload_n dX10_isStronger_7 (by rfl) ?_
  refine g_iconst (v := 1) dX10_isStronger_8 (by decide) ?_
  refine g_cV2x dX10_isStronger_9 lX10_57 vX10_vatNumber (ct_X10_vatNumber X (i := i) (k := 1) (by first | exact hM | exact hM.hr) (by omega)) (by first | exact m0 | exact hr_a dA m0) rfl ⟨Nat.le_of_ble_eq_true rfl, Nat.le_of_ble_eq_true rfl⟩ (Nat.le_of_ble_eq_true rfl) ⟨Nat.le_of_ble_eq_true rfl, Nat.le_of_ble_eq_true rfl⟩ ?_
  refine g_idiv dX10_isStronger_12 (i_nz vi.pos) ?_
  refine g_istore_n (L1 := [(0, _), (1, _), (2, _), (3, _)]) dX10_isStronger_13 (by decide) (by rfl) ?_
  refine g_aload_n dX10_isStronger_14 (by rfl) (by first | exact isRf_r | exact isRf_n | exact isRf_o | assumption) ?_
  refine g_iload_n dX10_isStronger_15 (by rfl) ?_
  refine g_iconst (v := 2) dX10_isStronger_16 (by decide) ?_
  refine g_cV2x dX10_isStronger_17 lX10_57 vX10_vatNumber (ct_X10_vatNumber X (i := k) (k := 2) (by first | exact hM | exact hM.hr) (by omega)) (by first | exact m0 | exact hr_a dA m0) rfl ⟨Nat.le_of_ble_eq_true rfl, Nat.le_of_ble_eq_true rfl⟩ (Nat.le_of_ble_eq_true rfl) ⟨Nat.le_of_ble_eq_true rfl, Nat.le_of_ble_eq_true rfl⟩ ?_
  refine g_aload_n dX10_isStronger_20 (by rfl) (by first | exact isRf_r | exact isRf_n | exact isRf_o | assumption) ?_
  refine g_iload_n dX10_isStronger_21 (by rfl) ?_
  refine g_iconst (v := 1) dX10_isStronger_22 (by decide) ?_
  refine g_cV2x dX10_isStronger_23 lX10_57 vX10_vatNumber (ct_X10_vatNumber X (i := k) (k := 1) (by first | exact hM | exact hM.hr) (by omega)) (by first | exact m0 | exact hr_a dA m0) rfl ⟨Nat.le_of_ble_eq_true rfl, Nat.le_of_ble_eq_true rfl⟩ (Nat.le_of_ble_eq_true rfl) ⟨Nat.le_of_ble_eq_true rfl, Nat.le_of_ble_eq_true rfl⟩ ?_
  refine g_idiv dX10_isStronger_26 (i_nz vk.pos) ?_
  refine g_istore (L1 := [(0, _), (1, _), (2, _), (3, _), (4, _)]) dX10_isStronger_27 (by decide) (by rfl) ?_
  refine g_iload_n dX10_isStronger_29 (by rfl) ?_
  refine g_iload dX10_isStronger_30 (by rfl) ?_
  refine g_icmp_eq (tgt := 47) dX10_isStronger_32 (by decide) (fun c1 => ?_) (fun c1 => ?_)
  · skip
    have e : strF (vt r i) = strF (vt r k) := c1
    refine g_aload_n dX10_isStronger_47 (by rfl) (by first | exact isRf_r | exact isRf_n | exact isRf_o | assumption) ?_
    refine g_iload_n dX10_isStronger_48 (by rfl) ?_
    refine g_iconst (v := 3) dX10_isStronger_49 (by decide) ?_
    refine g_cV2x dX10_isStronger_50 lX10_57 vX10_vatNumber (ct_X10_vatNumber X (i := i) (k := 3) (by first | exact hM | exact hM.hr) (by omega)) (by first | exact m0 | exact hr_a dA m0) rfl ⟨Nat.le_of_ble_eq_true rfl, Nat.le_of_ble_eq_true rfl⟩ (Nat.le_of_ble_eq_true rfl) ⟨Nat.le_of_ble_eq_true rfl, Nat.le_of_ble_eq_true rfl⟩ ?_
    refine g_aload_n dX10_isStronger_53 (by rfl) (by first | exact isRf_r | exact isRf_n | exact isRf_o | assumption) ?_
    refine g_iload_n dX10_isStronger_54 (by rfl) ?_
    refine g_iconst (v := 3) dX10_isStronger_55 (by decide) ?_
    refine g_cV2x dX10_isStronger_56 lX10_57 vX10_vatNumber (ct_X10_vatNumber X (i := k) (k := 3) (by first | exact hM | exact hM.hr) (by omega)) (by first | exact m0 | exact hr_a dA m0) rfl ⟨Nat.le_of_ble_eq_true rfl, Nat.le_of_ble_eq_true rfl⟩ (Nat.le_of_ble_eq_true rfl) ⟨Nat.le_of_ble_eq_true rfl, Nat.le_of_ble_eq_true rfl⟩ ?_
    refine g_icmp_eq (tgt := 85) dX10_isStronger_59 (by decide) (fun c2 => ?_) (fun c2 => ?_)
    · skip
      have e3 : vt r i 3 = vt r k 3 := c2
      refine g_iload_n dX10_isStronger_85 (by rfl) ?_
      refine g_iload_n dX10_isStronger_86 (by rfl) ?_
      refine g_icmp_ge (tgt := 94) dX10_isStronger_87 (by decide) (fun c3 => ?_) (fun c3 => ?_)
      · skip
        have hkk := c_ge (a := k) (b := i) (by omega) (by omega) c3
        have eb : stB r i k = false := by
          unfold stB
          rw [decide_eq_true e, decide_eq_true e3]
          exact decide_eq_false (by omega)
        refine g_iconst (v := 0) dX10_isStronger_94 (by decide) ?_
        refine g_zret dX10_isStronger_95 rfl (by decide) (Nat.le_refl _) (Nat.le_refl _) ?_
        refine Ex.i ?_ rfl
        rw [eb]
        rfl
      · skip
        have hkk : i < k := c_nge (a := k) (b := i) (by omega) (by omega) c3
        have eb : stB r i k = true := by
          unfold stB
          rw [decide_eq_true e, decide_eq_true e3]
          exact decide_eq_true hkk
        refine g_iconst (v := 1) dX10_isStronger_90 (by decide) ?_
        refine g_goto (tgt := 95) dX10_isStronger_91 (by decide) ?_
        refine g_zret dX10_isStronger_95 rfl (by decide) (Nat.le_refl _) (Nat.le_refl _) ?_
        refine Ex.i ?_ rfl
        rw [eb]
        rfl
    · skip
      have e3 : ¬ vt r i 3 = vt r k 3 := c2
      refine g_aload_n dX10_isStronger_62 (by rfl) (by first | exact isRf_r | exact isRf_n | exact isRf_o | assumption) ?_
      refine g_iload_n dX10_isStronger_63 (by rfl) ?_
      refine g_iconst (v := 3) dX10_isStronger_64 (by decide) ?_
      refine g_cV2x dX10_isStronger_65 lX10_57 vX10_vatNumber (ct_X10_vatNumber X (i := i) (k := 3) (by first | exact hM | exact hM.hr) (by omega)) (by first | exact m0 | exact hr_a dA m0) rfl ⟨Nat.le_of_ble_eq_true rfl, Nat.le_of_ble_eq_true rfl⟩ (Nat.le_of_ble_eq_true rfl) ⟨Nat.le_of_ble_eq_true rfl, Nat.le_of_ble_eq_true rfl⟩ ?_
      refine g_aload_n dX10_isStronger_68 (by rfl) (by first | exact isRf_r | exact isRf_n | exact isRf_o | assumption) ?_
      refine g_iload_n dX10_isStronger_69 (by rfl) ?_
      refine g_iconst (v := 3) dX10_isStronger_70 (by decide) ?_
      refine g_cV2x dX10_isStronger_71 lX10_57 vX10_vatNumber (ct_X10_vatNumber X (i := k) (k := 3) (by first | exact hM | exact hM.hr) (by omega)) (by first | exact m0 | exact hr_a dA m0) rfl ⟨Nat.le_of_ble_eq_true rfl, Nat.le_of_ble_eq_true rfl⟩ (Nat.le_of_ble_eq_true rfl) ⟨Nat.le_of_ble_eq_true rfl, Nat.le_of_ble_eq_true rfl⟩ ?_
      refine g_icmp_ge (tgt := 81) dX10_isStronger_74 (by decide) (fun c4 => ?_) (fun c4 => ?_)
      · skip
        have eb : stB r i k = false := by
          unfold stB
          rw [decide_eq_true e, decide_eq_false e3]
          exact decide_eq_false (fun z => i_nle z c4)
        refine g_iconst (v := 0) dX10_isStronger_81 (by decide) ?_
        refine g_goto (tgt := 95) dX10_isStronger_82 (by decide) ?_
        refine g_zret dX10_isStronger_95 rfl (by decide) (Nat.le_refl _) (Nat.le_refl _) ?_
        refine Ex.i ?_ rfl
        rw [eb]
        rfl
      · skip
        have eb : stB r i k = true := by
          unfold stB
          rw [decide_eq_true e, decide_eq_false e3]
          exact decide_eq_true (i_ngt c4)
        refine g_iconst (v := 1) dX10_isStronger_77 (by decide) ?_
        refine g_goto (tgt := 95) dX10_isStronger_78 (by decide) ?_
        refine g_zret dX10_isStronger_95 rfl (by decide) (Nat.le_refl _) (Nat.le_refl _) ?_
        refine Ex.i ?_ rfl
        rw [eb]
        rfl
  · skip
    have e : ¬ strF (vt r i) = strF (vt r k) := c1
    refine g_iload_n dX10_isStronger_35 (by rfl) ?_
    refine g_iload dX10_isStronger_36 (by rfl) ?_
    refine g_icmp_le (tgt := 45) dX10_isStronger_38 (by decide) (fun c5 => ?_) (fun c5 => ?_)
    · skip
      have eb : stB r i k = false := by
        unfold stB
        rw [decide_eq_false e]
        exact decide_eq_false (fun z => i_nle z c5)
      refine g_iconst (v := 0) dX10_isStronger_45 (by decide) ?_
      refine g_zret dX10_isStronger_46 rfl (by decide) (Nat.le_refl _) (Nat.le_refl _) ?_
      refine Ex.i ?_ rfl
      rw [eb]
      rfl
    · skip
      have eb : stB r i k = true := by
        unfold stB
        rw [decide_eq_false e]
        exact decide_eq_true (i_ngt c5)
      refine g_iconst (v := 1) dX10_isStronger_41 (by decide) ?_
      refine g_goto (tgt := 46) dX10_isStronger_42 (by decide) ?_
      refine g_zret dX10_isStronger_46 rfl (by decide) (Nat.le_refl _) (Nat.le_refl _) ?_
      refine Ex.i ?_ rfl
      rw [eb]
      rfl

set_option maxHeartbeats 4000000 in
set_option maxRecDepth 100000 in
theorem ct_X10_vatAt (X : Cx) {h : Hp} {a n1 : Nat} {r : Nat → Int32} {w : Int32}  (hM : MoAt X h a n1 r) (hO : Ok r) : Ct X mX10_vatAt 2 0 0 [.ref a, .int w] h (Ex (.int (Q_vatAt r w)) h) := by
  obtain ⟨⟨n2, st, n3, n4, le, n5, at0, lt, n6, fl, n7, m0⟩, m1⟩ := id hM
  unfold mdl at m0
  have dA := hM.ne
  obtain ⟨nv, nl, no, hnv, hnl, hno, e7, e8, e9, hset, hvok, hvz, hlok, hlz, hok, hoz, hw⟩ := id hO
  refine Ct.ofG vX10_vatAt.1.2.2.1 (Nat.le_of_ble_eq_true rfl) ?_
  show G X RX10 cX10_vatAt 5 (some .int) "vatAt" (Rm 2 0 0) (Fm X (Ex (.int (Q_vatAt r w)) h) 0 0) 0 0 0 [(0, .ref a), (1, .int w)] [] h
  refine g_iload_n dX10_vatAt_0 (by rfl) ?_
  refine g_if_ge (tgt := 6) dX10_vatAt_1 (by decide) (fun c1 => ?_) (fun c1 => ?_)
  · skip
    have h0 : (0 : Int32) ≤ w := c1
    have eQ0 : Q_vatAt r w = fstI (fun v => decide (nI (cntN (avB r v) nv) = w)) 0 (nv - 0) := by
      unfold Q_vatAt
      rw [decide_eq_true h0, e7, cl_nI (by omega)]
      rfl
    refine g_iconst (v := 0) dX10_vatAt_6 (by decide) ?_
    refine g_istore_n (L1 := [(0, _), (1, _), (2, _)]) dX10_vatAt_7 (by decide) (by rfl) ?_
    have loop8 : ∀ i, i ≤ nv → Q_vatAt r w = fstI (fun v => decide (nI (cntN (avB r v) nv) = w)) i (nv - i) → G X RX10 cX10_vatAt 5 (some .int) "vatAt" (Rm 2 0 0) (Fm X (Ex (.int (Q_vatAt r w)) h) 0 0) 0 0 8 [(0, .ref a), (1, .int w), (2, .int (nI i))] [] h := by
      refine up_ind nv (fun i hi ih => ?_)
      intro eQ
      refine g_iload_n dX10_vatAt_8 (by rfl) ?_
      refine g_aload_n dX10_vatAt_9 (by rfl) (by first | exact isRf_r | exact isRf_n | exact isRf_o | assumption) ?_
      refine g_getf dX10_vatAt_10 fX10_7 (by first | exact m0 | exact hr_a dA m0) (by rfl) ?_
      refine g_bipush (v := 7) dX10_vatAt_13 (by decide) ?_
      refine g_ilM (7) dX10_vatAt_15 (by first | exact m1 | exact hr_n) (by first | rfl | exact lin3 | exact lin3a | exact linA | exact linB) (by omega) ?_
      rw [e7]
      refine g_icmp_ge (tgt := 79) dX10_vatAt_16 (by decide) (fun c2 => ?_) (fun c2 => ?_)
      · skip
        have hie : i = nv := Nat.le_antisymm hi (c_ge (by omega) (by omega) c2)
        subst hie
        rw [show i - i = 0 by omega] at eQ
        refine g_bipush (v := (-4)) dX10_vatAt_79 (by decide) ?_
        refine g_iret dX10_vatAt_81 rfl (Nat.le_refl _) (Nat.le_refl _) ?_
        refine Ex.i ?_ rfl
        rw [eQ]
        rfl
      · skip
        have hlt : i < nv := c_nge (by omega) (by omega) c2
        refine g_iconst (v := 0) dX10_vatAt_19 (by decide) ?_
        refine g_istore_n (L1 := [(0, _), (1, _), (2, _), (3, _)]) dX10_vatAt_20 (by decide) (by rfl) ?_
        refine g_iconst (v := 0) dX10_vatAt_21 (by decide) ?_
        refine g_istore (L1 := [(0, _), (1, _), (2, _), (3, _), (4, _)]) dX10_vatAt_22 (by decide) (by rfl) ?_
        have loop24 : ∀ o, o ≤ nv → ∀ acc, acc = nI (cntN (avB r i) o) → G X RX10 cX10_vatAt 5 (some .int) "vatAt" (Rm 2 0 0) (Fm X (Ex (.int (Q_vatAt r w)) h) 0 0) 0 0 24 [(0, .ref a), (1, .int w), (2, .int (nI i)), (3, .int acc), (4, .int (nI o))] [] h := by
          refine up_ind nv (fun o ho ih2 => ?_)
          intro acc eacc
          refine g_iload dX10_vatAt_24 (by rfl) ?_
          refine g_aload_n dX10_vatAt_26 (by rfl) (by first | exact isRf_r | exact isRf_n | exact isRf_o | assumption) ?_
          refine g_getf dX10_vatAt_27 fX10_7 (by first | exact m0 | exact hr_a dA m0) (by rfl) ?_
          refine g_bipush (v := 7) dX10_vatAt_30 (by decide) ?_
          refine g_ilM (7) dX10_vatAt_32 (by first | exact m1 | exact hr_n) (by first | rfl | exact lin3 | exact lin3a | exact linA | exact linB) (by omega) ?_
          rw [e7]
          refine g_icmp_ge (tgt := 66) dX10_vatAt_33 (by decide) (fun c3 => ?_) (fun c3 => ?_)
          · skip
            have hoe : o = nv := Nat.le_antisymm ho (c_ge (by omega) (by omega) c3)
            rw [hoe] at eacc
            refine g_iload_n dX10_vatAt_66 (by rfl) ?_
            refine g_iload_n dX10_vatAt_67 (by rfl) ?_
            refine g_icmp_ne (tgt := 73) dX10_vatAt_68 (by decide) (fun c4 => ?_) (fun c4 => ?_)
            · skip
              have hne : ¬ acc = w := c4
              refine g_iinc (v := nI (i + 1)) (L1 := [(0, _), (1, _), (2, _), (3, _), (4, _)]) dX10_vatAt_73 (by rfl) (nI_1 i) (by decide) (by rfl) ?_
              refine g_goto (tgt := 8) dX10_vatAt_76 (by decide) ?_
              refine g_pick [0, 1, 2] rfl ?_
              refine ih hlt ?_
              rw [eQ, show nv - i = (nv - (i + 1)) + 1 by omega, fstI_f (decide_eq_false (fun z => hne (eacc.trans z)))]
            · skip
              have heq : acc = w := c4
              refine g_iload_n dX10_vatAt_71 (by rfl) ?_
              refine g_iret dX10_vatAt_72 rfl (Nat.le_refl _) (Nat.le_refl _) ?_
              refine Ex.i ?_ rfl
              rw [eQ, show nv - i = (nv - (i + 1)) + 1 by omega, fstI_t (decide_eq_true (eacc.symm.trans heq))]
          · skip
            have hol : o < nv := c_nge (by omega) (by omega) c3
            refine g_iload_n dX10_vatAt_36 (by rfl) ?_
            refine g_iload dX10_vatAt_37 (by rfl) ?_
            refine g_iload_n dX10_vatAt_39 (by rfl) ?_
            refine g_icmp_eq (tgt := 57) dX10_vatAt_40 (by decide) (fun c5 => ?_) (fun c5 => ?_)
            · skip
              have hoi := c_eq (by omega) (by omega) c5
              have hp : avB r i o = false := by
                unfold avB
                rw [decide_eq_true hoi]
                rfl
              refine g_iconst (v := 0) dX10_vatAt_57 (by decide) ?_
              refine g_iadd dX10_vatAt_58 ?_
              refine g_istore_n (L1 := [(0, _), (1, _), (2, _), (3, _), (4, _)]) dX10_vatAt_59 (by decide) (by rfl) ?_
              refine g_iinc (v := nI (o + 1)) (L1 := [(0, _), (1, _), (2, _), (3, _), (4, _)]) dX10_vatAt_60 (by rfl) (nI_1 o) (by decide) (by rfl) ?_
              refine g_goto (tgt := 24) dX10_vatAt_63 (by decide) ?_
              refine ih2 hol _ ?_
              first
                | (rw [cnt_f hp, eacc]; exact Int32.add_zero _)
                | (rw [cnt_t hp, eacc])
            · skip
              have hoi : o ≠ i := fun z => c5 (by rw [z])
              refine g_aload_n dX10_vatAt_43 (by rfl) (by first | exact isRf_r | exact isRf_n | exact isRf_o | assumption) ?_
              refine g_iload dX10_vatAt_44 (by rfl) ?_
              refine g_iload_n dX10_vatAt_46 (by rfl) ?_
              refine g_cV2x dX10_vatAt_47 lX10_71 vX10_isStronger (ct_X10_isStronger X (i := o) (k := i) hM (by omega) (by omega) (hvok o hol) (hvok i hlt)) (by first | exact m0 | exact hr_a dA m0) rfl ⟨Nat.le_of_ble_eq_true rfl, Nat.le_of_ble_eq_true rfl⟩ (Nat.le_of_ble_eq_true rfl) ⟨Nat.le_of_ble_eq_true rfl, Nat.le_of_ble_eq_true rfl⟩ ?_
              refine g_if_eq (tgt := 57) dX10_vatAt_50 (by decide) (fun c6 => ?_) (fun c6 => ?_)
              · skip
                have hp : avB r i o = false := by
                  rw [← stB_av hoi]
                  exact bI_0 c6
                refine g_iconst (v := 0) dX10_vatAt_57 (by decide) ?_
                refine g_iadd dX10_vatAt_58 ?_
                refine g_istore_n (L1 := [(0, _), (1, _), (2, _), (3, _), (4, _)]) dX10_vatAt_59 (by decide) (by rfl) ?_
                refine g_iinc (v := nI (o + 1)) (L1 := [(0, _), (1, _), (2, _), (3, _), (4, _)]) dX10_vatAt_60 (by rfl) (nI_1 o) (by decide) (by rfl) ?_
                refine g_goto (tgt := 24) dX10_vatAt_63 (by decide) ?_
                refine ih2 hol _ ?_
                first
                  | (rw [cnt_f hp, eacc]; exact Int32.add_zero _)
                  | (rw [cnt_t hp, eacc])
              · skip
                have hp : avB r i o = true := by
                  rw [← stB_av hoi]
                  exact bI_1 c6
                refine g_iconst (v := 1) dX10_vatAt_53 (by decide) ?_
                refine g_goto (tgt := 58) dX10_vatAt_54 (by decide) ?_
                refine g_iadd dX10_vatAt_58 ?_
                refine g_istore_n (L1 := [(0, _), (1, _), (2, _), (3, _), (4, _)]) dX10_vatAt_59 (by decide) (by rfl) ?_
                refine g_iinc (v := nI (o + 1)) (L1 := [(0, _), (1, _), (2, _), (3, _), (4, _)]) dX10_vatAt_60 (by rfl) (nI_1 o) (by decide) (by rfl) ?_
                refine g_goto (tgt := 24) dX10_vatAt_63 (by decide) ?_
                refine ih2 hol _ ?_
                first
                  | (rw [cnt_f hp, eacc]; exact Int32.add_zero _)
                  | (rw [cnt_t hp, eacc])
        exact loop24 0 (by omega) 0 rfl
    exact loop8 0 (by omega) eQ0
  · skip
    have eF : Q_vatAt r w = -1 := by
      unfold Q_vatAt
      rw [decide_eq_false (show ¬ (0 : Int32) ≤ w from c1)]
      rfl
    refine g_iconst (v := (-1)) dX10_vatAt_4 (by decide) ?_
    refine g_iret dX10_vatAt_5 rfl (Nat.le_refl _) (Nat.le_refl _) ?_
    refine Ex.i ?_ rfl
    rw [eF]

set_option maxHeartbeats 4000000 in
set_option maxRecDepth 100000 in
theorem ct_X10_sum (X : Cx) {h : Hp} {a n1 : Nat} {r : Nat → Int32} {l f : Nat}  (hM : MoAt X h a n1 r) (hl : l < 20) (hf : f < 11) : Ct X mX10_sum 1 0 0 [.ref a, .int (nI l), .int (nI f)] h (Ex (.int (ltx r l f + ltx r l (f + 1) + ltx r l (f + 2) + ltx r l (f + 3))) h) := by
  obtain ⟨⟨n2, st, n3, n4, le, n5, at0, lt, n6, fl, n7, m0⟩, m1⟩ := id hM
  unfold mdl at m0
  have dA := hM.ne
  refine Ct.ofG vX10_sum.1.2.2.1 (Nat.le_of_ble_eq_true rfl) ?_
  show G X RX10 cX10_sum 3 (some .int) "sum" (Rm 1 0 0) (Fm X (Ex (.int (ltx r l f + ltx r l (f + 1) + ltx r l (f + 2) + ltx r l (f + 3))) h) 0 0) 0 0 0 [(0, .ref a), (1, .int (nI l)), (2, .int (nI f))] [] h
  refine g_aload_n dX10_sum_0 (by rfl) (by first | exact isRf_r | exact isRf_n | exact isRf_o | assumption) ?_
  refine g_iload_n dX10_sum_1 (by rfl) ?_
  refine g_iload_n dX10_sum_2 (by rfl) ?_
  refine g_cV2x dX10_sum_3 lX10_35 vX10_lotNumber (ct_X10_lotNumber X (i := l) (k := f) (by first | exact hM | exact hM.hr) (by omega)) (by first | exact m0 | exact hr_a dA m0) rfl ⟨Nat.le_of_ble_eq_true rfl, Nat.le_of_ble_eq_true rfl⟩ (Nat.le_of_ble_eq_true rfl) ⟨Nat.le_of_ble_eq_true rfl, Nat.le_of_ble_eq_true rfl⟩ ?_
  refine g_aload_n dX10_sum_6 (by rfl) (by first | exact isRf_r | exact isRf_n | exact isRf_o | assumption) ?_
  refine g_iload_n dX10_sum_7 (by rfl) ?_
  refine g_iload_n dX10_sum_8 (by rfl) ?_
  refine g_iconst (v := 1) dX10_sum_9 (by decide) ?_
  refine g_iadd dX10_sum_10 ?_
  rw [show nI f + 1 = nI (f + 1) from linB]
  refine g_cV2x dX10_sum_11 lX10_35 vX10_lotNumber (ct_X10_lotNumber X (i := l) (k := f + 1) (by first | exact hM | exact hM.hr) (by omega)) (by first | exact m0 | exact hr_a dA m0) rfl ⟨Nat.le_of_ble_eq_true rfl, Nat.le_of_ble_eq_true rfl⟩ (Nat.le_of_ble_eq_true rfl) ⟨Nat.le_of_ble_eq_true rfl, Nat.le_of_ble_eq_true rfl⟩ ?_
  refine g_iadd dX10_sum_14 ?_
  refine g_aload_n dX10_sum_15 (by rfl) (by first | exact isRf_r | exact isRf_n | exact isRf_o | assumption) ?_
  refine g_iload_n dX10_sum_16 (by rfl) ?_
  refine g_iload_n dX10_sum_17 (by rfl) ?_
  refine g_iconst (v := 2) dX10_sum_18 (by decide) ?_
  refine g_iadd dX10_sum_19 ?_
  rw [show nI f + 2 = nI (f + 2) from linB]
  refine g_cV2x dX10_sum_20 lX10_35 vX10_lotNumber (ct_X10_lotNumber X (i := l) (k := f + 2) (by first | exact hM | exact hM.hr) (by omega)) (by first | exact m0 | exact hr_a dA m0) rfl ⟨Nat.le_of_ble_eq_true rfl, Nat.le_of_ble_eq_true rfl⟩ (Nat.le_of_ble_eq_true rfl) ⟨Nat.le_of_ble_eq_true rfl, Nat.le_of_ble_eq_true rfl⟩ ?_
  refine g_iadd dX10_sum_23 ?_
  refine g_aload_n dX10_sum_24 (by rfl) (by first | exact isRf_r | exact isRf_n | exact isRf_o | assumption) ?_
  refine g_iload_n dX10_sum_25 (by rfl) ?_
  refine g_iload_n dX10_sum_26 (by rfl) ?_
  refine g_iconst (v := 3) dX10_sum_27 (by decide) ?_
  refine g_iadd dX10_sum_28 ?_
  rw [show nI f + 3 = nI (f + 3) from linB]
  refine g_cV2x dX10_sum_29 lX10_35 vX10_lotNumber (ct_X10_lotNumber X (i := l) (k := f + 3) (by first | exact hM | exact hM.hr) (by omega)) (by first | exact m0 | exact hr_a dA m0) rfl ⟨Nat.le_of_ble_eq_true rfl, Nat.le_of_ble_eq_true rfl⟩ (Nat.le_of_ble_eq_true rfl) ⟨Nat.le_of_ble_eq_true rfl, Nat.le_of_ble_eq_true rfl⟩ ?_
  refine g_iadd dX10_sum_32 ?_
  refine g_iret dX10_sum_33 rfl (Nat.le_refl _) (Nat.le_refl _) ?_
  exact Ex.i rfl rfl

set_option maxHeartbeats 4000000 in
set_option maxRecDepth 100000 in
theorem ct_X10_lotOf (X : Cx) {h : Hp} {a n1 : Nat} {r : Nat → Int32} {w k : Int32}  (hM : MoAt X h a n1 r) (hO : Ok r) : Ct X mX10_lotOf 3 0 0 [.ref a, .int w, .int k] h (Ex (.int (Q_lotOf r w k)) h) := by
  obtain ⟨⟨n2, st, n3, n4, le, n5, at0, lt, n6, fl, n7, m0⟩, m1⟩ := id hM
  unfold mdl at m0
  have dA := hM.ne
  obtain ⟨nv, nl, no, hnv, hnl, hno, e7, e8, e9, hset, hvok, hvz, hlok, hlz, hok, hoz, hw⟩ := id hO
  refine Ct.ofG vX10_lotOf.1.2.2.1 (Nat.le_of_ble_eq_true rfl) ?_
  show G X RX10 cX10_lotOf 3 (some .int) "lotOf" (Rm 3 0 0) (Fm X (Ex (.int (Q_lotOf r w k)) h) 0 0) 0 0 0 [(0, .ref a), (1, .int w), (2, .int k)] [] h
  refine g_aload_n dX10_lotOf_0 (by rfl) (by first | exact isRf_r | exact isRf_n | exact isRf_o | assumption) ?_
  refine g_iload_n dX10_lotOf_1 (by rfl) ?_
  refine g_cV1x dX10_lotOf_2 lX10_94 vX10_isLot (ct_X10_isLot X (n := nl) (by first | exact hM | exact hM.hr) (by omega) e8) (by first | exact m0 | exact hr_a dA m0) rfl ⟨Nat.le_of_ble_eq_true rfl, Nat.le_of_ble_eq_true rfl⟩ (Nat.le_of_ble_eq_true rfl) ⟨Nat.le_of_ble_eq_true rfl, Nat.le_of_ble_eq_true rfl⟩ ?_
  refine g_if_ne (tgt := 10) dX10_lotOf_5 (by decide) (fun c1 => ?_) (fun c1 => ?_)
  · skip
    have hk : okB (nI nl) w = true := bI_1 c1
    obtain ⟨l, hl, rfl⟩ := okB_i (by omega) hk
    have cj : cl (nI l) = l := cl_nI (by omega)
    have hlo := hlok l hl
    have hl20 : l < 20 := by omega
    refine g_iload_n dX10_lotOf_10 (by rfl) ?_
    by_cases hsw : rngB 0 (nI 9) k = true
    · skip
      obtain ⟨jsw, hjsw, rfl⟩ := sw_in (m := 9) (by omega) hsw
      rcases (show jsw = 0 ∨ jsw = 1 ∨ jsw = 2 ∨ jsw = 3 ∨ jsw = 4 ∨ jsw = 5 ∨ jsw = 6 ∨ jsw = 7 ∨ jsw = 8 ∨ jsw = 9 by omega) with rfl | rfl | rfl | rfl | rfl | rfl | rfl | rfl | rfl | rfl
      · skip
        have eF : Q_lotOf r (nI l) (nI 0) = ltx r l 0 := by
          unfold Q_lotOf
          rw [e8, hk, cj, show rngB 0 9 (nI 0) = true by decide, show cl (nI 0) = 0 from cl_nI (by omega)]
          rfl
        refine g_tableIn (tgt := 64) (off := 53) dX10_lotOf_11 (by decide) (by decide) (by decide) (by decide) ?_
        refine g_aload_n dX10_lotOf_64 (by rfl) (by first | exact isRf_r | exact isRf_n | exact isRf_o | assumption) ?_
        refine g_iload_n dX10_lotOf_65 (by rfl) ?_
        refine g_iload_n dX10_lotOf_66 (by rfl) ?_
        refine g_cV2x dX10_lotOf_67 lX10_35 vX10_lotNumber (ct_X10_lotNumber X (i := l) (k := _) (by first | exact hM | exact hM.hr) (by omega)) (by first | exact m0 | exact hr_a dA m0) rfl ⟨Nat.le_of_ble_eq_true rfl, Nat.le_of_ble_eq_true rfl⟩ (Nat.le_of_ble_eq_true rfl) ⟨Nat.le_of_ble_eq_true rfl, Nat.le_of_ble_eq_true rfl⟩ ?_
        refine g_iret dX10_lotOf_70 rfl (Nat.le_refl _) (Nat.le_refl _) ?_
        refine Ex.i ?_ rfl
        rw [eF]
        first
          | done
          | rfl
          | (rw [es]; rfl)
          | (show _ = (0 : Int32) + _ + _ + _ + _; rw [Int32.zero_add])
      · skip
        have eF : Q_lotOf r (nI l) (nI 1) = ltx r l 1 := by
          unfold Q_lotOf
          rw [e8, hk, cj, show rngB 0 9 (nI 1) = true by decide, show cl (nI 1) = 1 from cl_nI (by omega)]
          rfl
        refine g_tableIn (tgt := 64) (off := 53) dX10_lotOf_11 (by decide) (by decide) (by decide) (by decide) ?_
        refine g_aload_n dX10_lotOf_64 (by rfl) (by first | exact isRf_r | exact isRf_n | exact isRf_o | assumption) ?_
        refine g_iload_n dX10_lotOf_65 (by rfl) ?_
        refine g_iload_n dX10_lotOf_66 (by rfl) ?_
        refine g_cV2x dX10_lotOf_67 lX10_35 vX10_lotNumber (ct_X10_lotNumber X (i := l) (k := _) (by first | exact hM | exact hM.hr) (by omega)) (by first | exact m0 | exact hr_a dA m0) rfl ⟨Nat.le_of_ble_eq_true rfl, Nat.le_of_ble_eq_true rfl⟩ (Nat.le_of_ble_eq_true rfl) ⟨Nat.le_of_ble_eq_true rfl, Nat.le_of_ble_eq_true rfl⟩ ?_
        refine g_iret dX10_lotOf_70 rfl (Nat.le_refl _) (Nat.le_refl _) ?_
        refine Ex.i ?_ rfl
        rw [eF]
        first
          | done
          | rfl
          | (rw [es]; rfl)
          | (show _ = (0 : Int32) + _ + _ + _ + _; rw [Int32.zero_add])
      · skip
        have eF : Q_lotOf r (nI l) (nI 2) = depC (ltx r l) := by
          unfold Q_lotOf
          rw [e8, hk, cj, show rngB 0 9 (nI 2) = true by decide, show cl (nI 2) = 2 from cl_nI (by omega)]
          rfl
        refine g_tableIn (tgt := 71) (off := 60) dX10_lotOf_11 (by decide) (by decide) (by decide) (by decide) ?_
        refine g_aload_n dX10_lotOf_71 (by rfl) (by first | exact isRf_r | exact isRf_n | exact isRf_o | assumption) ?_
        refine g_iload_n dX10_lotOf_72 (by rfl) ?_
        refine g_cV1x dX10_lotOf_73 lX10_88 vX10_depth (ct_X10_depth X hM hl20 hlo.pos (GB_of hO hl20)) (by first | exact m0 | exact hr_a dA m0) rfl ⟨Nat.le_of_ble_eq_true rfl, Nat.le_of_ble_eq_true rfl⟩ (Nat.le_of_ble_eq_true rfl) ⟨Nat.le_of_ble_eq_true rfl, Nat.le_of_ble_eq_true rfl⟩ ?_
        refine g_iret dX10_lotOf_76 rfl (Nat.le_refl _) (Nat.le_refl _) ?_
        refine Ex.i ?_ rfl
        rw [eF]
        first
          | done
          | rfl
          | (rw [es]; rfl)
          | (show _ = (0 : Int32) + _ + _ + _ + _; rw [Int32.zero_add])
      · skip
        have eF : Q_lotOf r (nI l) (nI 3) = sumI (fun j => ltx r l (2 + j)) 4 := by
          unfold Q_lotOf
          rw [e8, hk, cj, show rngB 0 9 (nI 3) = true by decide, show cl (nI 3) = 3 from cl_nI (by omega)]
          rfl
        refine g_tableIn (tgt := 77) (off := 66) dX10_lotOf_11 (by decide) (by decide) (by decide) (by decide) ?_
        refine g_aload_n dX10_lotOf_77 (by rfl) (by first | exact isRf_r | exact isRf_n | exact isRf_o | assumption) ?_
        refine g_iload_n dX10_lotOf_78 (by rfl) ?_
        refine g_iconst (v := 2) dX10_lotOf_79 (by decide) ?_
        refine g_cV2x dX10_lotOf_80 lX10_121 vX10_sum (ct_X10_sum X (l := l) (f := 2) hM hl20 (by omega)) (by first | exact m0 | exact hr_a dA m0) rfl ⟨Nat.le_of_ble_eq_true rfl, Nat.le_of_ble_eq_true rfl⟩ (Nat.le_of_ble_eq_true rfl) ⟨Nat.le_of_ble_eq_true rfl, Nat.le_of_ble_eq_true rfl⟩ ?_
        refine g_iret dX10_lotOf_83 rfl (Nat.le_refl _) (Nat.le_refl _) ?_
        refine Ex.i ?_ rfl
        rw [eF]
        first
          | done
          | rfl
          | (rw [es]; rfl)
          | (show _ = (0 : Int32) + _ + _ + _ + _; rw [Int32.zero_add])
      · skip
        have eF : Q_lotOf r (nI l) (nI 4) = sumI (fun j => ltx r l (6 + j)) 4 := by
          unfold Q_lotOf
          rw [e8, hk, cj, show rngB 0 9 (nI 4) = true by decide, show cl (nI 4) = 4 from cl_nI (by omega)]
          rfl
        refine g_tableIn (tgt := 84) (off := 73) dX10_lotOf_11 (by decide) (by decide) (by decide) (by decide) ?_
        refine g_aload_n dX10_lotOf_84 (by rfl) (by first | exact isRf_r | exact isRf_n | exact isRf_o | assumption) ?_
        refine g_iload_n dX10_lotOf_85 (by rfl) ?_
        refine g_bipush (v := 6) dX10_lotOf_86 (by decide) ?_
        refine g_cV2x dX10_lotOf_88 lX10_121 vX10_sum (ct_X10_sum X (l := l) (f := 6) hM hl20 (by omega)) (by first | exact m0 | exact hr_a dA m0) rfl ⟨Nat.le_of_ble_eq_true rfl, Nat.le_of_ble_eq_true rfl⟩ (Nat.le_of_ble_eq_true rfl) ⟨Nat.le_of_ble_eq_true rfl, Nat.le_of_ble_eq_true rfl⟩ ?_
        refine g_iret dX10_lotOf_91 rfl (Nat.le_refl _) (Nat.le_refl _) ?_
        refine Ex.i ?_ rfl
        rw [eF]
        first
          | done
          | rfl
          | (rw [es]; rfl)
          | (show _ = (0 : Int32) + _ + _ + _ + _; rw [Int32.zero_add])
      · skip
        have eF : Q_lotOf r (nI l) (nI 5) = ltx r l 10 := by
          unfold Q_lotOf
          rw [e8, hk, cj, show rngB 0 9 (nI 5) = true by decide, show cl (nI 5) = 5 from cl_nI (by omega)]
          rfl
        refine g_tableIn (tgt := 92) (off := 81) dX10_lotOf_11 (by decide) (by decide) (by decide) (by decide) ?_
        refine g_aload_n dX10_lotOf_92 (by rfl) (by first | exact isRf_r | exact isRf_n | exact isRf_o | assumption) ?_
        refine g_iload_n dX10_lotOf_93 (by rfl) ?_
        refine g_bipush (v := 10) dX10_lotOf_94 (by decide) ?_
        refine g_iload_n dX10_lotOf_96 (by rfl) ?_
        refine g_iadd dX10_lotOf_97 ?_
        refine g_iconst (v := 5) dX10_lotOf_98 (by decide) ?_
        refine g_isub dX10_lotOf_99 ?_
        first
          | rw [show (10 : Int32) + nI 5 - 5 = nI 10 by decide]
          | rw [show (10 : Int32) + nI 6 - 5 = nI 11 by decide]
          | rw [show (10 : Int32) + nI 7 - 5 = nI 12 by decide]
        refine g_cV2x dX10_lotOf_100 lX10_35 vX10_lotNumber (ct_X10_lotNumber X (i := l) (k := _) (by first | exact hM | exact hM.hr) (by omega)) (by first | exact m0 | exact hr_a dA m0) rfl ⟨Nat.le_of_ble_eq_true rfl, Nat.le_of_ble_eq_true rfl⟩ (Nat.le_of_ble_eq_true rfl) ⟨Nat.le_of_ble_eq_true rfl, Nat.le_of_ble_eq_true rfl⟩ ?_
        refine g_iret dX10_lotOf_103 rfl (Nat.le_refl _) (Nat.le_refl _) ?_
        refine Ex.i ?_ rfl
        rw [eF]
        first
          | done
          | rfl
          | (rw [es]; rfl)
          | (show _ = (0 : Int32) + _ + _ + _ + _; rw [Int32.zero_add])
      · skip
        have eF : Q_lotOf r (nI l) (nI 6) = ltx r l 11 := by
          unfold Q_lotOf
          rw [e8, hk, cj, show rngB 0 9 (nI 6) = true by decide, show cl (nI 6) = 6 from cl_nI (by omega)]
          rfl
        refine g_tableIn (tgt := 92) (off := 81) dX10_lotOf_11 (by decide) (by decide) (by decide) (by decide) ?_
        refine g_aload_n dX10_lotOf_92 (by rfl) (by first | exact isRf_r | exact isRf_n | exact isRf_o | assumption) ?_
        refine g_iload_n dX10_lotOf_93 (by rfl) ?_
        refine g_bipush (v := 10) dX10_lotOf_94 (by decide) ?_
        refine g_iload_n dX10_lotOf_96 (by rfl) ?_
        refine g_iadd dX10_lotOf_97 ?_
        refine g_iconst (v := 5) dX10_lotOf_98 (by decide) ?_
        refine g_isub dX10_lotOf_99 ?_
        first
          | rw [show (10 : Int32) + nI 5 - 5 = nI 10 by decide]
          | rw [show (10 : Int32) + nI 6 - 5 = nI 11 by decide]
          | rw [show (10 : Int32) + nI 7 - 5 = nI 12 by decide]
        refine g_cV2x dX10_lotOf_100 lX10_35 vX10_lotNumber (ct_X10_lotNumber X (i := l) (k := _) (by first | exact hM | exact hM.hr) (by omega)) (by first | exact m0 | exact hr_a dA m0) rfl ⟨Nat.le_of_ble_eq_true rfl, Nat.le_of_ble_eq_true rfl⟩ (Nat.le_of_ble_eq_true rfl) ⟨Nat.le_of_ble_eq_true rfl, Nat.le_of_ble_eq_true rfl⟩ ?_
        refine g_iret dX10_lotOf_103 rfl (Nat.le_refl _) (Nat.le_refl _) ?_
        refine Ex.i ?_ rfl
        rw [eF]
        first
          | done
          | rfl
          | (rw [es]; rfl)
          | (show _ = (0 : Int32) + _ + _ + _ + _; rw [Int32.zero_add])
      · skip
        have eF : Q_lotOf r (nI l) (nI 7) = ltx r l 12 := by
          unfold Q_lotOf
          rw [e8, hk, cj, show rngB 0 9 (nI 7) = true by decide, show cl (nI 7) = 7 from cl_nI (by omega)]
          rfl
        refine g_tableIn (tgt := 92) (off := 81) dX10_lotOf_11 (by decide) (by decide) (by decide) (by decide) ?_
        refine g_aload_n dX10_lotOf_92 (by rfl) (by first | exact isRf_r | exact isRf_n | exact isRf_o | assumption) ?_
        refine g_iload_n dX10_lotOf_93 (by rfl) ?_
        refine g_bipush (v := 10) dX10_lotOf_94 (by decide) ?_
        refine g_iload_n dX10_lotOf_96 (by rfl) ?_
        refine g_iadd dX10_lotOf_97 ?_
        refine g_iconst (v := 5) dX10_lotOf_98 (by decide) ?_
        refine g_isub dX10_lotOf_99 ?_
        first
          | rw [show (10 : Int32) + nI 5 - 5 = nI 10 by decide]
          | rw [show (10 : Int32) + nI 6 - 5 = nI 11 by decide]
          | rw [show (10 : Int32) + nI 7 - 5 = nI 12 by decide]
        refine g_cV2x dX10_lotOf_100 lX10_35 vX10_lotNumber (ct_X10_lotNumber X (i := l) (k := _) (by first | exact hM | exact hM.hr) (by omega)) (by first | exact m0 | exact hr_a dA m0) rfl ⟨Nat.le_of_ble_eq_true rfl, Nat.le_of_ble_eq_true rfl⟩ (Nat.le_of_ble_eq_true rfl) ⟨Nat.le_of_ble_eq_true rfl, Nat.le_of_ble_eq_true rfl⟩ ?_
        refine g_iret dX10_lotOf_103 rfl (Nat.le_refl _) (Nat.le_refl _) ?_
        refine Ex.i ?_ rfl
        rw [eF]
        first
          | done
          | rfl
          | (rw [es]; rfl)
          | (show _ = (0 : Int32) + _ + _ + _ + _; rw [Int32.zero_add])
      · skip
        have eF : Q_lotOf r (nI l) (nI 8) = cond (sold r l) (ltx r l 13 - 1) (-4) := by
          unfold Q_lotOf
          rw [e8, hk, cj, show rngB 0 9 (nI 8) = true by decide, show cl (nI 8) = 8 from cl_nI (by omega)]
          rfl
        refine g_tableIn (tgt := 104) (off := 93) dX10_lotOf_11 (by decide) (by decide) (by decide) (by decide) ?_
        refine g_aload_n dX10_lotOf_104 (by rfl) (by first | exact isRf_r | exact isRf_n | exact isRf_o | assumption) ?_
        refine g_iload_n dX10_lotOf_105 (by rfl) ?_
        refine g_cV1x dX10_lotOf_106 lX10_97 vX10_isSold (ct_X10_isSold X (l := l) hM (by omega) hlo.s13) (by first | exact m0 | exact hr_a dA m0) rfl ⟨Nat.le_of_ble_eq_true rfl, Nat.le_of_ble_eq_true rfl⟩ (Nat.le_of_ble_eq_true rfl) ⟨Nat.le_of_ble_eq_true rfl, Nat.le_of_ble_eq_true rfl⟩ ?_
        refine g_if_eq (tgt := 124) dX10_lotOf_109 (by decide) (fun c2 => ?_) (fun c2 => ?_)
        · skip
          have es : sold r l = false := bI_0 c2
          refine g_bipush (v := (-4)) dX10_lotOf_124 (by decide) ?_
          refine g_iret dX10_lotOf_126 rfl (Nat.le_refl _) (Nat.le_refl _) ?_
          refine Ex.i ?_ rfl
          rw [eF]
          first
            | done
            | rfl
            | (rw [es]; rfl)
            | (show _ = (0 : Int32) + _ + _ + _ + _; rw [Int32.zero_add])
        · skip
          have es : sold r l = true := bI_1 c2
          refine g_aload_n dX10_lotOf_112 (by rfl) (by first | exact isRf_r | exact isRf_n | exact isRf_o | assumption) ?_
          refine g_iload_n dX10_lotOf_113 (by rfl) ?_
          refine g_bipush (v := 13) dX10_lotOf_114 (by decide) ?_
          refine g_cV2x dX10_lotOf_116 lX10_35 vX10_lotNumber (ct_X10_lotNumber X (i := l) (k := 13) (by first | exact hM | exact hM.hr) (by omega)) (by first | exact m0 | exact hr_a dA m0) rfl ⟨Nat.le_of_ble_eq_true rfl, Nat.le_of_ble_eq_true rfl⟩ (Nat.le_of_ble_eq_true rfl) ⟨Nat.le_of_ble_eq_true rfl, Nat.le_of_ble_eq_true rfl⟩ ?_
          refine g_iconst (v := 1) dX10_lotOf_119 (by decide) ?_
          refine g_isub dX10_lotOf_120 ?_
          refine g_goto (tgt := 126) dX10_lotOf_121 (by decide) ?_
          refine g_iret dX10_lotOf_126 rfl (Nat.le_refl _) (Nat.le_refl _) ?_
          refine Ex.i ?_ rfl
          rw [eF]
          first
            | done
            | rfl
            | (rw [es]; rfl)
            | (show _ = (0 : Int32) + _ + _ + _ + _; rw [Int32.zero_add])
      · skip
        have eF : Q_lotOf r (nI l) (nI 9) = ltx r l 14 := by
          unfold Q_lotOf
          rw [e8, hk, cj, show rngB 0 9 (nI 9) = true by decide, show cl (nI 9) = 9 from cl_nI (by omega)]
          rfl
        refine g_tableIn (tgt := 127) (off := 116) dX10_lotOf_11 (by decide) (by decide) (by decide) (by decide) ?_
        refine g_aload_n dX10_lotOf_127 (by rfl) (by first | exact isRf_r | exact isRf_n | exact isRf_o | assumption) ?_
        refine g_iload_n dX10_lotOf_128 (by rfl) ?_
        refine g_bipush (v := 14) dX10_lotOf_129 (by decide) ?_
        refine g_cV2x dX10_lotOf_131 lX10_35 vX10_lotNumber (ct_X10_lotNumber X (i := l) (k := 14) (by first | exact hM | exact hM.hr) (by omega)) (by first | exact m0 | exact hr_a dA m0) rfl ⟨Nat.le_of_ble_eq_true rfl, Nat.le_of_ble_eq_true rfl⟩ (Nat.le_of_ble_eq_true rfl) ⟨Nat.le_of_ble_eq_true rfl, Nat.le_of_ble_eq_true rfl⟩ ?_
        refine g_iret dX10_lotOf_134 rfl (Nat.le_refl _) (Nat.le_refl _) ?_
        refine Ex.i ?_ rfl
        rw [eF]
        first
          | done
          | rfl
          | (rw [es]; rfl)
          | (show _ = (0 : Int32) + _ + _ + _ + _; rw [Int32.zero_add])
    · skip
      have eF : Q_lotOf r (nI l) k = -1 := by
        unfold Q_lotOf
        rw [e8, hk, show rngB 0 9 k = false from (Bool.not_eq_true _).mp hsw]
        rfl
      refine g_tableOut (tgt := 135) dX10_lotOf_11 (sw_out (m := 9) (by omega) hsw) (by decide) ?_
      refine g_iconst (v := (-1)) dX10_lotOf_135 (by decide) ?_
      refine g_iret dX10_lotOf_136 rfl (Nat.le_refl _) (Nat.le_refl _) ?_
      refine Ex.i ?_ rfl
      rw [eF]
      first
        | done
        | rfl
        | (rw [es]; rfl)
        | (show _ = (0 : Int32) + _ + _ + _ + _; rw [Int32.zero_add])
  · skip
    have eF : Q_lotOf r w k = -1 := by
      unfold Q_lotOf
      rw [e8, show okB (nI nl) w = false from bI_0 c1]
      rfl
    refine g_iconst (v := (-1)) dX10_lotOf_8 (by decide) ?_
    refine g_iret dX10_lotOf_9 rfl (Nat.le_refl _) (Nat.le_refl _) ?_
    refine Ex.i ?_ rfl
    rw [eF]
    first
      | done
      | rfl
      | (rw [es]; rfl)
      | (show _ = (0 : Int32) + _ + _ + _ + _; rw [Int32.zero_add])

set_option maxHeartbeats 4000000 in
set_option maxRecDepth 100000 in
theorem ct_X10_shade (X : Cx) {h : Hp} {a n1 : Nat} {r : Nat → Int32} {w k : Int32}  (hM : MoAt X h a n1 r) (hO : Ok r) : Ct X mX10_shade 3 0 0 [.ref a, .int w, .int k] h (Ex (.int (Q_shade r w k)) h) := by
  obtain ⟨⟨n2, st, n3, n4, le, n5, at0, lt, n6, fl, n7, m0⟩, m1⟩ := id hM
  unfold mdl at m0
  have dA := hM.ne
  obtain ⟨nv, nl, no, hnv, hnl, hno, e7, e8, e9, hset, hvok, hvz, hlok, hlz, hok, hoz, hw⟩ := id hO
  refine Ct.ofG vX10_shade.1.2.2.1 (Nat.le_of_ble_eq_true rfl) ?_
  show G X RX10 cX10_shade 3 (some .int) "shade" (Rm 3 0 0) (Fm X (Ex (.int (Q_shade r w k)) h) 0 0) 0 0 0 [(0, .ref a), (1, .int w), (2, .int k)] [] h
  refine g_aload_n dX10_shade_0 (by rfl) (by first | exact isRf_r | exact isRf_n | exact isRf_o | assumption) ?_
  refine g_iload_n dX10_shade_1 (by rfl) ?_
  refine g_cV1x dX10_shade_2 lX10_94 vX10_isLot (ct_X10_isLot X (n := nl) (by first | exact hM | exact hM.hr) (by omega) e8) (by first | exact m0 | exact hr_a dA m0) rfl ⟨Nat.le_of_ble_eq_true rfl, Nat.le_of_ble_eq_true rfl⟩ (Nat.le_of_ble_eq_true rfl) ⟨Nat.le_of_ble_eq_true rfl, Nat.le_of_ble_eq_true rfl⟩ ?_
  refine g_if_eq (tgt := 24) dX10_shade_5 (by decide) (fun c1 => ?_) (fun c1 => ?_)
  · skip
    have eF : Q_shade r w k = -1 := by
      unfold Q_shade
      rw [e8, show okB (nI nl) w = false from bI_0 c1]
      rfl
    refine g_iconst (v := (-1)) dX10_shade_24 (by decide) ?_
    refine g_iret dX10_shade_25 rfl (Nat.le_refl _) (Nat.le_refl _) ?_
    refine Ex.i ?_ rfl
    rw [eF]
  · skip
    have hk : okB (nI nl) w = true := bI_1 c1
    obtain ⟨l, hl, rfl⟩ := okB_i (by omega) hk
    have cj : cl (nI l) = l := cl_nI (by omega)
    have hlo := hlok l hl
    have hl20 : l < 20 := by omega
    refine g_iload_n dX10_shade_8 (by rfl) ?_
    refine g_cS1x dX10_shade_9 lX10_49 rfl vX10_isDye (ct_X10_isDye X) ⟨Nat.le_of_ble_eq_true rfl, Nat.le_of_ble_eq_true rfl⟩ (Nat.le_of_ble_eq_true rfl) ⟨Nat.le_of_ble_eq_true rfl, Nat.le_of_ble_eq_true rfl⟩ ?_
    refine g_if_eq (tgt := 24) dX10_shade_12 (by decide) (fun c2 => ?_) (fun c2 => ?_)
    · skip
      have eF : Q_shade r (nI l) k = -1 := by
        unfold Q_shade
        rw [e8, hk, show rngB 0 3 k = false from bI_0 c2]
        rfl
      refine g_iconst (v := (-1)) dX10_shade_24 (by decide) ?_
      refine g_iret dX10_shade_25 rfl (Nat.le_refl _) (Nat.le_refl _) ?_
      refine Ex.i ?_ rfl
      rw [eF]
    · skip
      have hg := bI_1 c2
      obtain ⟨d, hd, rfl⟩ := dye_nI hg
      have hF := flS_f hO hl hnl hlo hd
      have eF : Q_shade r (nI l) (nI d) = shF (ltx r l) d := by
        unfold Q_shade
        rw [e8, hk, hg, cj, show cl (nI d) = d from cl_nI (by omega)]
        rfl
      refine g_aload_n dX10_shade_15 (by rfl) (by first | exact isRf_r | exact isRf_n | exact isRf_o | assumption) ?_
      refine g_iload_n dX10_shade_16 (by rfl) ?_
      refine g_iload_n dX10_shade_17 (by rfl) ?_
      refine g_cV2x dX10_shade_18 lX10_91 vX10_shadeOf (ct_X10_shadeOf X hM hl20 hd hlo.pos) (by first | exact m0 | exact hr_a dA m0) rfl ⟨Nat.le_of_ble_eq_true rfl, Nat.le_of_ble_eq_true rfl⟩ (Nat.le_of_ble_eq_true rfl) ⟨Nat.le_of_ble_eq_true rfl, Nat.le_of_ble_eq_true rfl⟩ ?_
      refine g_goto (tgt := 25) dX10_shade_21 (by decide) ?_
      refine g_iret dX10_shade_25 rfl (Nat.le_refl _) (Nat.le_refl _) ?_
      refine Ex.i ?_ rfl
      rw [eF]

set_option maxHeartbeats 4000000 in
set_option maxRecDepth 100000 in
theorem ct_X10_shadeBits (X : Cx) {h : Hp} {a n1 : Nat} {r : Nat → Int32} {w k : Int32}  (hM : MoAt X h a n1 r) (hO : Ok r) : Ct X mX10_shadeBits 3 0 0 [.ref a, .int w, .int k] h (Ex (.int (Q_shadeBits r w k)) h) := by
  obtain ⟨⟨n2, st, n3, n4, le, n5, at0, lt, n6, fl, n7, m0⟩, m1⟩ := id hM
  unfold mdl at m0
  have dA := hM.ne
  obtain ⟨nv, nl, no, hnv, hnl, hno, e7, e8, e9, hset, hvok, hvz, hlok, hlz, hok, hoz, hw⟩ := id hO
  refine Ct.ofG vX10_shadeBits.1.2.2.1 (Nat.le_of_ble_eq_true rfl) ?_
  show G X RX10 cX10_shadeBits 3 (some .int) "shadeBits" (Rm 3 0 0) (Fm X (Ex (.int (Q_shadeBits r w k)) h) 0 0) 0 0 0 [(0, .ref a), (1, .int w), (2, .int k)] [] h
  refine g_aload_n dX10_shadeBits_0 (by rfl) (by first | exact isRf_r | exact isRf_n | exact isRf_o | assumption) ?_
  refine g_iload_n dX10_shadeBits_1 (by rfl) ?_
  refine g_cV1x dX10_shadeBits_2 lX10_94 vX10_isLot (ct_X10_isLot X (n := nl) (by first | exact hM | exact hM.hr) (by omega) e8) (by first | exact m0 | exact hr_a dA m0) rfl ⟨Nat.le_of_ble_eq_true rfl, Nat.le_of_ble_eq_true rfl⟩ (Nat.le_of_ble_eq_true rfl) ⟨Nat.le_of_ble_eq_true rfl, Nat.le_of_ble_eq_true rfl⟩ ?_
  refine g_if_eq (tgt := 27) dX10_shadeBits_5 (by decide) (fun c1 => ?_) (fun c1 => ?_)
  · skip
    have eF : Q_shadeBits r w k = -1 := by
      unfold Q_shadeBits
      rw [e8, show okB (nI nl) w = false from bI_0 c1]
      rfl
    refine g_iconst (v := (-1)) dX10_shadeBits_27 (by decide) ?_
    refine g_iret dX10_shadeBits_28 rfl (Nat.le_refl _) (Nat.le_refl _) ?_
    refine Ex.i ?_ rfl
    rw [eF]
  · skip
    have hk : okB (nI nl) w = true := bI_1 c1
    obtain ⟨l, hl, rfl⟩ := okB_i (by omega) hk
    have cj : cl (nI l) = l := cl_nI (by omega)
    have hlo := hlok l hl
    have hl20 : l < 20 := by omega
    refine g_iload_n dX10_shadeBits_8 (by rfl) ?_
    refine g_cS1x dX10_shadeBits_9 lX10_49 rfl vX10_isDye (ct_X10_isDye X) ⟨Nat.le_of_ble_eq_true rfl, Nat.le_of_ble_eq_true rfl⟩ (Nat.le_of_ble_eq_true rfl) ⟨Nat.le_of_ble_eq_true rfl, Nat.le_of_ble_eq_true rfl⟩ ?_
    refine g_if_eq (tgt := 27) dX10_shadeBits_12 (by decide) (fun c2 => ?_) (fun c2 => ?_)
    · skip
      have eF : Q_shadeBits r (nI l) k = -1 := by
        unfold Q_shadeBits
        rw [e8, hk, show rngB 0 3 k = false from bI_0 c2]
        rfl
      refine g_iconst (v := (-1)) dX10_shadeBits_27 (by decide) ?_
      refine g_iret dX10_shadeBits_28 rfl (Nat.le_refl _) (Nat.le_refl _) ?_
      refine Ex.i ?_ rfl
      rw [eF]
    · skip
      have hg := bI_1 c2
      obtain ⟨d, hd, rfl⟩ := dye_nI hg
      have hF := flS_f hO hl hnl hlo hd
      have eF : Q_shadeBits r (nI l) (nI d) = bitI (flS r l d) := by
        unfold Q_shadeBits
        rw [e8, hk, hg, cj, show cl (nI d) = d from cl_nI (by omega)]
        rfl
      refine g_aload_n dX10_shadeBits_15 (by rfl) (by first | exact isRf_r | exact isRf_n | exact isRf_o | assumption) ?_
      refine g_iload_n dX10_shadeBits_16 (by rfl) ?_
      refine g_iload_n dX10_shadeBits_17 (by rfl) ?_
      refine g_cV2x dX10_shadeBits_18 lX10_124 vX10_exact (ct_X10_exact X hM hl20 hd (hF.num (by omega))) (by first | exact m0 | exact hr_a dA m0) rfl ⟨Nat.le_of_ble_eq_true rfl, Nat.le_of_ble_eq_true rfl⟩ (Nat.le_of_ble_eq_true rfl) ⟨Nat.le_of_ble_eq_true rfl, Nat.le_of_ble_eq_true rfl⟩ ?_
      refine g_cF1x dX10_shadeBits_21 lX10_128 vFI (ct_floatBits X hF (by omega) (by omega)) ⟨Nat.le_of_ble_eq_true rfl, Nat.le_of_ble_eq_true rfl⟩ (Nat.le_of_ble_eq_true rfl) ⟨Nat.le_of_ble_eq_true rfl, Nat.le_of_ble_eq_true rfl⟩ ?_
      refine g_goto (tgt := 28) dX10_shadeBits_24 (by decide) ?_
      refine g_iret dX10_shadeBits_28 rfl (Nat.le_refl _) (Nat.le_refl _) ?_
      refine Ex.i ?_ rfl
      rw [eF]
