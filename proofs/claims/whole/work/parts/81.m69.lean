theorem nI_dif {p k : Nat} : nI (p + k) - nI p = nI k := by rw [← nI_add, Int32.add_comm, Int32.add_sub_cancel]
theorem dg_r {c : Int32} (h : rngB 48 57 c = true) : 0 ≤ (dg c).toInt ∧ (dg c).toInt ≤ 9 := by
  have h2 := rng_b h
  have q1 : (48 : Int32).toInt = 48 := by decide
  have q2 : (57 : Int32).toInt = 57 := by decide
  rw [(dg_t h).1, Int32.toInt_sub, q1, Int.bmod_eq_of_le (by omega) (by omega)]
  omega
theorem numV_pos {n p k : Nat} {g : Nat → Int32} (hk : k ≤ 2) (k0 : 0 < k) (h : ∀ i, i < k → rngB 48 57 (sg n g (p + i)) = true) : 0 ≤ numV n g p k := by
  rw [i_le, z_toInt]
  rcases (show k = 1 ∨ k = 2 by omega) with rfl | rfl
  · exact (dg_r (h 0 (by omega))).1
  · have a := dg_r (h 0 (by omega))
    have b := dg_r (h 1 (by omega))
    show 0 ≤ (dg (sg n g (p + 0)) * 10 + dg (sg n g (p + 1))).toInt
    have q : (10 : Int32).toInt = 10 := by decide
    have m : (dg (sg n g (p + 0)) * 10).toInt = (dg (sg n g (p + 0))).toInt * 10 := by
      rw [Int32.toInt_mul, q]
      exact Int.bmod_eq_of_le (by omega) (by omega)
    rw [i_add (by omega) (by omega)]
    omega
theorem rdN_k {n p k : Nat} {g : Nat → Int32} (hk : k ≤ 2) (h : ∀ i, i < k → rngB 48 57 (sg n g (p + i)) = true) (e : k = 2 ∨ rngB 48 57 (sg n g (p + k)) = false) : rdN n g p = (cond (decide (k = 0)) (-1) (numV n g p k), p + k) := by
  unfold rdN
  rcases (show k = 0 ∨ k = 1 ∨ k = 2 by omega) with rfl | rfl | rfl
  · have z := e.resolve_left (by omega)
    rw [decide_eq_false (dg_f (c := sg n g p) z)]
    rfl
  · have z := e.resolve_left (by omega)
    have a := h 0 (by omega)
    rw [decide_eq_true (dg_t (c := sg n g p) a).2, decide_eq_false (dg_f z)]
    rfl
  · have a := h 0 (by omega)
    have b := h 1 (by omega)
    rw [decide_eq_true (dg_t (c := sg n g p) a).2, decide_eq_true (dg_t b).2]
    rfl

set_option maxHeartbeats 4000000 in
set_option maxRecDepth 100000 in
theorem ct_number_f (X : Cx) {h : Hp} {M : Nat → Nat} {n tn p : Nat} {lt : Int32} {tg : Nat → Int32}  (htn : tn ≤ 60) (hp : p < 900) (n40 : M 4 ≠ M 0) (m0 : h (M 0) = some (md M n tn (nI p) lt (bI false))) (m4 : h (M 4) = some (oI X 60 (nr 60 tg))) : Ct X mX10_number 1 0 0 [.ref (M 0)] h (fun u h1 => ∃ V, u = some (.int V) ∧ ((false && decide (0 ≤ (rdN tn tg p).1)) = true → V = (rdN tn tg p).1) ∧ h1 = hu h (M 0) (md M n tn (nI (cond false (rdN tn tg p).2 p)) lt (bI (false && decide (0 ≤ (rdN tn tg p).1))))) := by
  have m0z := m0
  unfold md mdl at m0
  refine Ct.ofG vX10_number.1.2.2.1 (Nat.le_of_ble_eq_true rfl) ?_
  show G X RX10 cX10_number 3 (some .int) "number" (Rm 1 0 0) (Fm X (fun u h1 => ∃ V, u = some (.int V) ∧ ((false && decide (0 ≤ (rdN tn tg p).1)) = true → V = (rdN tn tg p).1) ∧ h1 = hu h (M 0) (md M n tn (nI (cond false (rdN tn tg p).2 p)) lt (bI (false && decide (0 ≤ (rdN tn tg p).1))))) 0 0) 0 0 0 [(0, .ref (M 0))] [] h
  refine g_iconst (v := 0) dX10_number_0 (by decide) ?_
  refine g_istore_n (L1 := [(0, _), (1, _)]) dX10_number_1 (by decide) (by rfl) ?_
  refine g_aload_n dX10_number_2 (by rfl) (by first | exact isRf_r | exact isRf_n | exact isRf_o | assumption) ?_
  refine g_getf dX10_number_3 fX10_185 (by first | exact m0 | exact m4 | exact hu_same) (by rfl) ?_
  refine g_istore_n (L1 := [(0, _), (1, _), (2, _)]) dX10_number_6 (by decide) (by rfl) ?_
  refine g_aload_n dX10_number_7 (by rfl) (by first | exact isRf_r | exact isRf_n | exact isRf_o | assumption) ?_
  refine g_getf dX10_number_8 fX10_188 (by first | exact m0 | exact m4 | exact hu_same) (by rfl) ?_
  refine g_if_eq (tgt := 64) dX10_number_11 (by decide) (fun c1 => ?_) (fun c1 => absurd rfl c1)
  refine g_aload_n dX10_number_64 (by rfl) (by first | exact isRf_r | exact isRf_n | exact isRf_o | assumption) ?_
  refine g_aload_n dX10_number_65 (by rfl) (by first | exact isRf_r | exact isRf_n | exact isRf_o | assumption) ?_
  refine g_getf dX10_number_66 fX10_188 (by first | exact m0 | exact m4 | exact hu_same) (by rfl) ?_
  refine g_if_eq (tgt := 84) dX10_number_69 (by decide) (fun c2 => ?_) (fun c2 => absurd rfl c2)
  refine g_iconst (v := 0) dX10_number_84 (by decide) ?_
  refine g_putf (ty := .boolean) dX10_number_85 fX10_188 (by decide +kernel) (by first | rfl | decide) (by first | rfl | decide) (by first | exact m0 | exact m4 | exact hu_same) (by exact Nat.le_of_ble_eq_true rfl) ?_
  refine g_iload_n dX10_number_88 (by rfl) ?_
  refine g_iret dX10_number_89 rfl (Nat.le_refl _) (Nat.le_refl _) ?_
  exact ⟨0, rfl, fun z => absurd z Bool.false_ne_true, rfl⟩

set_option maxHeartbeats 4000000 in
set_option maxRecDepth 100000 in
theorem ct_number_t (X : Cx) {h : Hp} {M : Nat → Nat} {n tn p : Nat} {lt : Int32} {tg : Nat → Int32}  (htn : tn ≤ 60) (hp : p < 900) (n40 : M 4 ≠ M 0) (m0 : h (M 0) = some (md M n tn (nI p) lt (bI true))) (m4 : h (M 4) = some (oI X 60 (nr 60 tg))) : Ct X mX10_number 1 0 0 [.ref (M 0)] h (fun u h1 => ∃ V, u = some (.int V) ∧ ((true && decide (0 ≤ (rdN tn tg p).1)) = true → V = (rdN tn tg p).1) ∧ h1 = hu h (M 0) (md M n tn (nI (cond true (rdN tn tg p).2 p)) lt (bI (true && decide (0 ≤ (rdN tn tg p).1))))) := by
  have m0z := m0
  unfold md mdl at m0
  refine Ct.ofG vX10_number.1.2.2.1 (Nat.le_of_ble_eq_true rfl) ?_
  show G X RX10 cX10_number 3 (some .int) "number" (Rm 1 0 0) (Fm X (fun u h1 => ∃ V, u = some (.int V) ∧ ((true && decide (0 ≤ (rdN tn tg p).1)) = true → V = (rdN tn tg p).1) ∧ h1 = hu h (M 0) (md M n tn (nI (cond true (rdN tn tg p).2 p)) lt (bI (true && decide (0 ≤ (rdN tn tg p).1))))) 0 0) 0 0 0 [(0, .ref (M 0))] [] h
  refine g_iconst (v := 0) dX10_number_0 (by decide) ?_
  refine g_istore_n (L1 := [(0, _), (1, _)]) dX10_number_1 (by decide) (by rfl) ?_
  refine g_aload_n dX10_number_2 (by rfl) (by first | exact isRf_r | exact isRf_n | exact isRf_o | assumption) ?_
  refine g_getf dX10_number_3 fX10_185 (by first | exact m0 | exact m4 | exact hu_same) (by rfl) ?_
  refine g_istore_n (L1 := [(0, _), (1, _), (2, _)]) dX10_number_6 (by decide) (by rfl) ?_
  have loop7 : ∀ k, k ≤ 2 → ∀ v, v = numV tn tg p k → (∀ i, i < k → rngB 48 57 (sg tn tg (p + i)) = true) → G X RX10 cX10_number 3 (some .int) "number" (Rm 1 0 0) (Fm X (fun u h1 => ∃ V, u = some (.int V) ∧ ((true && decide (0 ≤ (rdN tn tg p).1)) = true → V = (rdN tn tg p).1) ∧ h1 = hu h (M 0) (md M n tn (nI (cond true (rdN tn tg p).2 p)) lt (bI (true && decide (0 ≤ (rdN tn tg p).1))))) 0 0) 0 0 7 [(0, .ref (M 0)), (1, .int v), (2, .int (nI p))] [] (hu h (M 0) (md M n tn (nI (p + k)) lt (bI true))) := by
    refine up_ind 2 (fun k hk ih => ?_)
    intro v ev hdig
    refine g_aload_n dX10_number_7 (by rfl) (by first | exact isRf_r | exact isRf_n | exact isRf_o | assumption) ?_
    refine g_getf dX10_number_8 fX10_188 (by first | exact m0 | exact m4 | exact hu_same) (by rfl) ?_
    refine g_if_eq (tgt := 64) dX10_number_11 (by decide) (fun c1 => absurd c1 (by decide)) (fun c1 => ?_)
    refine g_aload_n dX10_number_14 (by rfl) (by first | exact isRf_r | exact isRf_n | exact isRf_o | assumption) ?_
    refine g_getf dX10_number_15 fX10_185 (by first | exact m0 | exact m4 | exact hu_same) (by rfl) ?_
    refine g_iload_n dX10_number_18 (by rfl) ?_
    refine g_isub dX10_number_19 ?_
    rw [nI_dif]
    refine g_iconst (v := 2) dX10_number_20 (by decide) ?_
    refine g_icmp_ge (tgt := 64) dX10_number_21 (by decide) (fun c2 => ?_) (fun c2 => ?_)
    · skip
      have hk2 : k = 2 := Nat.le_antisymm hk (c_ge (a := 2) (b := k) (by omega) (by omega) c2)
      have eR := rdN_k hk hdig (Or.inl hk2)
      refine g_aload_n dX10_number_64 (by rfl) (by first | exact isRf_r | exact isRf_n | exact isRf_o | assumption) ?_
      refine g_aload_n dX10_number_65 (by rfl) (by first | exact isRf_r | exact isRf_n | exact isRf_o | assumption) ?_
      refine g_getf dX10_number_66 fX10_188 (by first | exact m0 | exact m4 | exact hu_same) (by rfl) ?_
      refine g_if_eq (tgt := 84) dX10_number_69 (by decide) (fun c3 => absurd c3 (by decide)) (fun c3 => ?_)
      refine g_aload_n dX10_number_72 (by rfl) (by first | exact isRf_r | exact isRf_n | exact isRf_o | assumption) ?_
      refine g_getf dX10_number_73 fX10_185 (by first | exact m0 | exact m4 | exact hu_same) (by rfl) ?_
      refine g_iload_n dX10_number_76 (by rfl) ?_
      refine g_icmp_le (tgt := 84) dX10_number_77 (by decide) (fun c4 => ?_) (fun c4 => ?_)
      · skip
        have k0 : k = 0 := by
          have z := c_ge (a := p + k) (b := p) (by omega) (by omega) c4
          omega
        refine g_iconst (v := 0) dX10_number_84 (by decide) ?_
        refine g_putf (ty := .boolean) dX10_number_85 fX10_188 (by decide +kernel) (by first | rfl | decide) (by first | rfl | decide) (by first | exact m0 | exact m4 | exact hu_same) (by exact Nat.le_of_ble_eq_true rfl) ?_
        refine g_iload_n dX10_number_88 (by rfl) ?_
        refine g_iret dX10_number_89 rfl (Nat.le_refl _) (Nat.le_refl _) ?_
        rw [eR]
        first
          | (rw [decide_eq_true k0]
             refine ⟨v, rfl, fun z => absurd z (by show ¬ (true && decide ((0 : Int32) ≤ -1)) = true; decide), ?_⟩
             rw [hu_hu]
             show _ = hu h (M 0) (md M n tn (nI (p + k)) lt (bI (true && decide ((0 : Int32) ≤ -1))))
             rw [show decide ((0 : Int32) ≤ -1) = false by decide]
             rfl)
          | (have kz : ¬ k = 0 := by omega
             have hpos := numV_pos hk (by omega) hdig
             rw [decide_eq_false kz]
             refine ⟨v, rfl, fun z => ev, ?_⟩
             rw [hu_hu]
             show _ = hu h (M 0) (md M n tn (nI (p + k)) lt (bI (true && decide (0 ≤ numV tn tg p k))))
             rw [decide_eq_true hpos]
             rfl)
      · skip
        have k0 : p < p + k := c_nge (a := p + k) (b := p) (by omega) (by omega) c4
        refine g_iconst (v := 1) dX10_number_80 (by decide) ?_
        refine g_goto (tgt := 85) dX10_number_81 (by decide) ?_
        refine g_putf (ty := .boolean) dX10_number_85 fX10_188 (by decide +kernel) (by first | rfl | decide) (by first | rfl | decide) (by first | exact m0 | exact m4 | exact hu_same) (by exact Nat.le_of_ble_eq_true rfl) ?_
        refine g_iload_n dX10_number_88 (by rfl) ?_
        refine g_iret dX10_number_89 rfl (Nat.le_refl _) (Nat.le_refl _) ?_
        rw [eR]
        first
          | (rw [decide_eq_true k0]
             refine ⟨v, rfl, fun z => absurd z (by show ¬ (true && decide ((0 : Int32) ≤ -1)) = true; decide), ?_⟩
             rw [hu_hu]
             show _ = hu h (M 0) (md M n tn (nI (p + k)) lt (bI (true && decide ((0 : Int32) ≤ -1))))
             rw [show decide ((0 : Int32) ≤ -1) = false by decide]
             rfl)
          | (have kz : ¬ k = 0 := by omega
             have hpos := numV_pos hk (by omega) hdig
             rw [decide_eq_false kz]
             refine ⟨v, rfl, fun z => ev, ?_⟩
             rw [hu_hu]
             show _ = hu h (M 0) (md M n tn (nI (p + k)) lt (bI (true && decide (0 ≤ numV tn tg p k))))
             rw [decide_eq_true hpos]
             rfl)
    · skip
      have hk2 : k < 2 := c_nge (a := 2) (b := k) (by omega) (by omega) c2
      refine g_aload_n dX10_number_24 (by rfl) (by first | exact isRf_r | exact isRf_n | exact isRf_o | assumption) ?_
      refine g_cV0x dX10_number_25 lX10_192 vX10_here (ct_X10_here X (p := p + k) (lt := lt) (fl := bI true) htn (by omega) hu_same (hu_n1 n40 m4)) (by first | exact m0 | exact m4 | exact hu_same) rfl ⟨Nat.le_of_ble_eq_true rfl, Nat.le_of_ble_eq_true rfl⟩ (Nat.le_of_ble_eq_true rfl) ⟨Nat.le_of_ble_eq_true rfl, Nat.le_of_ble_eq_true rfl⟩ ?_
      refine g_bipush (v := 48) dX10_number_28 (by decide) ?_
      refine g_bipush (v := 57) dX10_number_30 (by decide) ?_
      refine g_cS3x dX10_number_32 lX10_31 rfl vX10_in (ct_X10_in X) ⟨Nat.le_of_ble_eq_true rfl, Nat.le_of_ble_eq_true rfl⟩ (Nat.le_of_ble_eq_true rfl) ⟨Nat.le_of_ble_eq_true rfl, Nat.le_of_ble_eq_true rfl⟩ ?_
      refine g_if_eq (tgt := 64) dX10_number_35 (by decide) (fun c5 => ?_) (fun c5 => ?_)
      · skip
        have eR := rdN_k hk hdig (Or.inr (bI_0 c5))
        refine g_aload_n dX10_number_64 (by rfl) (by first | exact isRf_r | exact isRf_n | exact isRf_o | assumption) ?_
        refine g_aload_n dX10_number_65 (by rfl) (by first | exact isRf_r | exact isRf_n | exact isRf_o | assumption) ?_
        refine g_getf dX10_number_66 fX10_188 (by first | exact m0 | exact m4 | exact hu_same) (by rfl) ?_
        refine g_if_eq (tgt := 84) dX10_number_69 (by decide) (fun c6 => absurd c6 (by decide)) (fun c6 => ?_)
        refine g_aload_n dX10_number_72 (by rfl) (by first | exact isRf_r | exact isRf_n | exact isRf_o | assumption) ?_
        refine g_getf dX10_number_73 fX10_185 (by first | exact m0 | exact m4 | exact hu_same) (by rfl) ?_
        refine g_iload_n dX10_number_76 (by rfl) ?_
        refine g_icmp_le (tgt := 84) dX10_number_77 (by decide) (fun c7 => ?_) (fun c7 => ?_)
        · skip
          have k0 : k = 0 := by
            have z := c_ge (a := p + k) (b := p) (by omega) (by omega) c7
            omega
          refine g_iconst (v := 0) dX10_number_84 (by decide) ?_
          refine g_putf (ty := .boolean) dX10_number_85 fX10_188 (by decide +kernel) (by first | rfl | decide) (by first | rfl | decide) (by first | exact m0 | exact m4 | exact hu_same) (by exact Nat.le_of_ble_eq_true rfl) ?_
          refine g_iload_n dX10_number_88 (by rfl) ?_
          refine g_iret dX10_number_89 rfl (Nat.le_refl _) (Nat.le_refl _) ?_
          rw [eR]
          first
            | (rw [decide_eq_true k0]
               refine ⟨v, rfl, fun z => absurd z (by show ¬ (true && decide ((0 : Int32) ≤ -1)) = true; decide), ?_⟩
               rw [hu_hu]
               show _ = hu h (M 0) (md M n tn (nI (p + k)) lt (bI (true && decide ((0 : Int32) ≤ -1))))
               rw [show decide ((0 : Int32) ≤ -1) = false by decide]
               rfl)
            | (have kz : ¬ k = 0 := by omega
               have hpos := numV_pos hk (by omega) hdig
               rw [decide_eq_false kz]
               refine ⟨v, rfl, fun z => ev, ?_⟩
               rw [hu_hu]
               show _ = hu h (M 0) (md M n tn (nI (p + k)) lt (bI (true && decide (0 ≤ numV tn tg p k))))
               rw [decide_eq_true hpos]
               rfl)
        · skip
          have k0 : p < p + k := c_nge (a := p + k) (b := p) (by omega) (by omega) c7
          refine g_iconst (v := 1) dX10_number_80 (by decide) ?_
          refine g_goto (tgt := 85) dX10_number_81 (by decide) ?_
          refine g_putf (ty := .boolean) dX10_number_85 fX10_188 (by decide +kernel) (by first | rfl | decide) (by first | rfl | decide) (by first | exact m0 | exact m4 | exact hu_same) (by exact Nat.le_of_ble_eq_true rfl) ?_
          refine g_iload_n dX10_number_88 (by rfl) ?_
          refine g_iret dX10_number_89 rfl (Nat.le_refl _) (Nat.le_refl _) ?_
          rw [eR]
          first
            | (rw [decide_eq_true k0]
               refine ⟨v, rfl, fun z => absurd z (by show ¬ (true && decide ((0 : Int32) ≤ -1)) = true; decide), ?_⟩
               rw [hu_hu]
               show _ = hu h (M 0) (md M n tn (nI (p + k)) lt (bI (true && decide ((0 : Int32) ≤ -1))))
               rw [show decide ((0 : Int32) ≤ -1) = false by decide]
               rfl)
            | (have kz : ¬ k = 0 := by omega
               have hpos := numV_pos hk (by omega) hdig
               rw [decide_eq_false kz]
               refine ⟨v, rfl, fun z => ev, ?_⟩
               rw [hu_hu]
               show _ = hu h (M 0) (md M n tn (nI (p + k)) lt (bI (true && decide (0 ≤ numV tn tg p k))))
               rw [decide_eq_true hpos]
               rfl)
      · skip
        have hd : rngB 48 57 (sg tn tg (p + k)) = true := bI_1 c5
        refine g_bipush (v := 10) dX10_number_38 (by decide) ?_
        refine g_iload_n dX10_number_40 (by rfl) ?_
        refine g_imul dX10_number_41 ?_
        refine g_aload_n dX10_number_42 (by rfl) (by first | exact isRf_r | exact isRf_n | exact isRf_o | assumption) ?_
        refine g_cV0x dX10_number_43 lX10_192 vX10_here (ct_X10_here X (p := p + k) (lt := lt) (fl := bI true) htn (by omega) hu_same (hu_n1 n40 m4)) (by first | exact m0 | exact m4 | exact hu_same) rfl ⟨Nat.le_of_ble_eq_true rfl, Nat.le_of_ble_eq_true rfl⟩ (Nat.le_of_ble_eq_true rfl) ⟨Nat.le_of_ble_eq_true rfl, Nat.le_of_ble_eq_true rfl⟩ ?_
        refine g_iadd dX10_number_46 ?_
        refine g_bipush (v := 48) dX10_number_47 (by decide) ?_
        refine g_isub dX10_number_49 ?_
        refine g_istore_n (L1 := [(0, _), (1, _), (2, _)]) dX10_number_50 (by decide) (by rfl) ?_
        refine g_aload_n dX10_number_51 (by rfl) (by first | exact isRf_r | exact isRf_n | exact isRf_o | assumption) ?_
        refine g_dup dX10_number_52 (by rfl) ?_
        refine g_getf dX10_number_53 fX10_185 (by first | exact m0 | exact m4 | exact hu_same) (by rfl) ?_
        refine g_iconst (v := 1) dX10_number_56 (by decide) ?_
        refine g_iadd dX10_number_57 ?_
        rw [nI_1]
        refine g_putf (ty := .int) dX10_number_58 fX10_185 (by decide +kernel) (by rfl) (by rfl) (by first | exact m0 | exact m4 | exact hu_same) (by exact Nat.le_of_ble_eq_true rfl) ?_
        refine g_goto (tgt := 7) dX10_number_61 (by decide) ?_
        rw [hu_hu]
        refine ih hk2 _ ?_ ?_
        · rcases (show k = 0 ∨ k = 1 by omega) with e0 | e0
          · subst e0
            rw [ev]
            exact numV_1 hd
          · subst e0
            rw [ev]
            exact numV_2 hd
        · intro i hi
          by_cases e : i = k
          · rw [e]; exact hd
          · exact hdig i (by omega)
  have l7 := loop7 0 (by omega) 0 rfl (fun i hi => absurd hi (by omega))
  rw [show p + 0 = p from rfl, hu_id m0z] at l7
  exact l7

theorem ct_number (X : Cx) {h : Hp} {M : Nat → Nat} {n tn p : Nat} {lt : Int32} {tg : Nat → Int32} {b : Bool} (htn : tn ≤ 60) (hp : p < 900) (n40 : M 4 ≠ M 0) (m0 : h (M 0) = some (md M n tn (nI p) lt (bI b))) (m4 : h (M 4) = some (oI X 60 (nr 60 tg))) : Ct X mX10_number 1 0 0 [.ref (M 0)] h (fun u h1 => ∃ V, u = some (.int V) ∧ ((b && decide (0 ≤ (rdN tn tg p).1)) = true → V = (rdN tn tg p).1) ∧ h1 = hu h (M 0) (md M n tn (nI (cond b (rdN tn tg p).2 p)) lt (bI (b && decide (0 ≤ (rdN tn tg p).1))))) := by
  cases b with
  | false => exact ct_number_f X htn hp n40 m0 m4
  | true => exact ct_number_t X htn hp n40 m0 m4
theorem tw_out {c : Int32} (h : c.toInt < 100 ∨ 116 < c.toInt) : twoB c = false ∧ oneB c = false := by
  have ne : ∀ x : Int32, 100 ≤ x.toInt → x.toInt ≤ 116 → decide (c = x) = false := fun x a b => decide_eq_false (fun e => by rw [e] at h; omega)
  unfold twoB oneB
  rw [ne 100 (by decide) (by decide), ne 104 (by decide) (by decide), ne 115 (by decide) (by decide), ne 114 (by decide) (by decide), ne 116 (by decide) (by decide), ne 101 (by decide) (by decide)]
  exact ⟨rfl, rfl⟩
def numC (c : Int32) : Nat := cond (twoB c) 2 (cond (oneB c) 1 0)

set_option maxHeartbeats 4000000 in
set_option maxRecDepth 100000 in
theorem ct_X10_numbers (X : Cx) {h : Hp} {c : Int32}  : Ct X mX10_numbers 0 0 0 [.int c] h (Ex (.int (nI (numC c))) h) := by
  refine Ct.ofG vX10_numbers.1.2.2.1 (Nat.le_of_ble_eq_true rfl) ?_
  show G X RX10 cX10_numbers 1 (some .int) "numbers" (Rm 0 0 0) (Fm X (Ex (.int (nI (numC c))) h) 0 0) 0 0 0 [(0, .int c)] [] h
  refine g_iload_n dX10_numbers_0 (by rfl) ?_
  by_cases hin : 100 ≤ c.toInt ∧ c.toInt ≤ 116
  · skip
    obtain ⟨j, hj, rfl⟩ := i_sm (x := c) (n := 117) (by omega) (by omega) (by omega)
    rw [nI_toInt (by omega)] at hin
    rcases (show j = 100 ∨ j = 101 ∨ j = 102 ∨ j = 103 ∨ j = 104 ∨ j = 105 ∨ j = 106 ∨ j = 107 ∨ j = 108 ∨ j = 109 ∨ j = 110 ∨ j = 111 ∨ j = 112 ∨ j = 113 ∨ j = 114 ∨ j = 115 ∨ j = 116 by omega) with rfl | rfl | rfl | rfl | rfl | rfl | rfl | rfl | rfl | rfl | rfl | rfl | rfl | rfl | rfl | rfl | rfl
    · skip
      refine g_tableIn (tgt := 84) (off := 83) dX10_numbers_1 (by decide) (by decide) (by decide) (by decide) ?_
      refine g_iconst (v := 2) dX10_numbers_84 (by decide) ?_
      refine g_iret dX10_numbers_85 rfl (Nat.le_refl _) (Nat.le_refl _) ?_
      first
        | exact Ex.i (by decide) rfl
        | (refine Ex.i ?_ rfl; unfold numC; rw [e2, e1]; rfl)
    · skip
      refine g_tableIn (tgt := 86) (off := 85) dX10_numbers_1 (by decide) (by decide) (by decide) (by decide) ?_
      refine g_iconst (v := 1) dX10_numbers_86 (by decide) ?_
      refine g_iret dX10_numbers_87 rfl (Nat.le_refl _) (Nat.le_refl _) ?_
      first
        | exact Ex.i (by decide) rfl
        | (refine Ex.i ?_ rfl; unfold numC; rw [e2, e1]; rfl)
    · skip
      refine g_tableIn (tgt := 88) (off := 87) dX10_numbers_1 (by decide) (by decide) (by decide) (by decide) ?_
      refine g_iconst (v := 0) dX10_numbers_88 (by decide) ?_
      refine g_iret dX10_numbers_89 rfl (Nat.le_refl _) (Nat.le_refl _) ?_
      first
        | exact Ex.i (by decide) rfl
        | (refine Ex.i ?_ rfl; unfold numC; rw [e2, e1]; rfl)
    · skip
      refine g_tableIn (tgt := 88) (off := 87) dX10_numbers_1 (by decide) (by decide) (by decide) (by decide) ?_
      refine g_iconst (v := 0) dX10_numbers_88 (by decide) ?_
      refine g_iret dX10_numbers_89 rfl (Nat.le_refl _) (Nat.le_refl _) ?_
      first
        | exact Ex.i (by decide) rfl
        | (refine Ex.i ?_ rfl; unfold numC; rw [e2, e1]; rfl)
    · skip
      refine g_tableIn (tgt := 84) (off := 83) dX10_numbers_1 (by decide) (by decide) (by decide) (by decide) ?_
      refine g_iconst (v := 2) dX10_numbers_84 (by decide) ?_
      refine g_iret dX10_numbers_85 rfl (Nat.le_refl _) (Nat.le_refl _) ?_
      first
        | exact Ex.i (by decide) rfl
        | (refine Ex.i ?_ rfl; unfold numC; rw [e2, e1]; rfl)
    · skip
      refine g_tableIn (tgt := 88) (off := 87) dX10_numbers_1 (by decide) (by decide) (by decide) (by decide) ?_
      refine g_iconst (v := 0) dX10_numbers_88 (by decide) ?_
      refine g_iret dX10_numbers_89 rfl (Nat.le_refl _) (Nat.le_refl _) ?_
      first
        | exact Ex.i (by decide) rfl
        | (refine Ex.i ?_ rfl; unfold numC; rw [e2, e1]; rfl)
    · skip
      refine g_tableIn (tgt := 88) (off := 87) dX10_numbers_1 (by decide) (by decide) (by decide) (by decide) ?_
      refine g_iconst (v := 0) dX10_numbers_88 (by decide) ?_
      refine g_iret dX10_numbers_89 rfl (Nat.le_refl _) (Nat.le_refl _) ?_
      first
        | exact Ex.i (by decide) rfl
        | (refine Ex.i ?_ rfl; unfold numC; rw [e2, e1]; rfl)
    · skip
      refine g_tableIn (tgt := 88) (off := 87) dX10_numbers_1 (by decide) (by decide) (by decide) (by decide) ?_
      refine g_iconst (v := 0) dX10_numbers_88 (by decide) ?_
      refine g_iret dX10_numbers_89 rfl (Nat.le_refl _) (Nat.le_refl _) ?_
      first
        | exact Ex.i (by decide) rfl
        | (refine Ex.i ?_ rfl; unfold numC; rw [e2, e1]; rfl)
    · skip
      refine g_tableIn (tgt := 88) (off := 87) dX10_numbers_1 (by decide) (by decide) (by decide) (by decide) ?_
      refine g_iconst (v := 0) dX10_numbers_88 (by decide) ?_
      refine g_iret dX10_numbers_89 rfl (Nat.le_refl _) (Nat.le_refl _) ?_
      first
        | exact Ex.i (by decide) rfl
        | (refine Ex.i ?_ rfl; unfold numC; rw [e2, e1]; rfl)
    · skip
      refine g_tableIn (tgt := 88) (off := 87) dX10_numbers_1 (by decide) (by decide) (by decide) (by decide) ?_
      refine g_iconst (v := 0) dX10_numbers_88 (by decide) ?_
      refine g_iret dX10_numbers_89 rfl (Nat.le_refl _) (Nat.le_refl _) ?_
      first
        | exact Ex.i (by decide) rfl
        | (refine Ex.i ?_ rfl; unfold numC; rw [e2, e1]; rfl)
    · skip
      refine g_tableIn (tgt := 88) (off := 87) dX10_numbers_1 (by decide) (by decide) (by decide) (by decide) ?_
      refine g_iconst (v := 0) dX10_numbers_88 (by decide) ?_
      refine g_iret dX10_numbers_89 rfl (Nat.le_refl _) (Nat.le_refl _) ?_
      first
        | exact Ex.i (by decide) rfl
        | (refine Ex.i ?_ rfl; unfold numC; rw [e2, e1]; rfl)
    · skip
      refine g_tableIn (tgt := 88) (off := 87) dX10_numbers_1 (by decide) (by decide) (by decide) (by decide) ?_
      refine g_iconst (v := 0) dX10_numbers_88 (by decide) ?_
      refine g_iret dX10_numbers_89 rfl (Nat.le_refl _) (Nat.le_refl _) ?_
      first
        | exact Ex.i (by decide) rfl
        | (refine Ex.i ?_ rfl; unfold numC; rw [e2, e1]; rfl)
    · skip
      refine g_tableIn (tgt := 88) (off := 87) dX10_numbers_1 (by decide) (by decide) (by decide) (by decide) ?_
      refine g_iconst (v := 0) dX10_numbers_88 (by decide) ?_
      refine g_iret dX10_numbers_89 rfl (Nat.le_refl _) (Nat.le_refl _) ?_
      first
        | exact Ex.i (by decide) rfl
        | (refine Ex.i ?_ rfl; unfold numC; rw [e2, e1]; rfl)
    · skip
      refine g_tableIn (tgt := 88) (off := 87) dX10_numbers_1 (by decide) (by decide) (by decide) (by decide) ?_
      refine g_iconst (v := 0) dX10_numbers_88 (by decide) ?_
      refine g_iret dX10_numbers_89 rfl (Nat.le_refl _) (Nat.le_refl _) ?_
      first
        | exact Ex.i (by decide) rfl
        | (refine Ex.i ?_ rfl; unfold numC; rw [e2, e1]; rfl)
    · skip
      refine g_tableIn (tgt := 86) (off := 85) dX10_numbers_1 (by decide) (by decide) (by decide) (by decide) ?_
      refine g_iconst (v := 1) dX10_numbers_86 (by decide) ?_
      refine g_iret dX10_numbers_87 rfl (Nat.le_refl _) (Nat.le_refl _) ?_
      first
        | exact Ex.i (by decide) rfl
        | (refine Ex.i ?_ rfl; unfold numC; rw [e2, e1]; rfl)
    · skip
      refine g_tableIn (tgt := 84) (off := 83) dX10_numbers_1 (by decide) (by decide) (by decide) (by decide) ?_
      refine g_iconst (v := 2) dX10_numbers_84 (by decide) ?_
      refine g_iret dX10_numbers_85 rfl (Nat.le_refl _) (Nat.le_refl _) ?_
      first
        | exact Ex.i (by decide) rfl
        | (refine Ex.i ?_ rfl; unfold numC; rw [e2, e1]; rfl)
    · skip
      refine g_tableIn (tgt := 86) (off := 85) dX10_numbers_1 (by decide) (by decide) (by decide) (by decide) ?_
      refine g_iconst (v := 1) dX10_numbers_86 (by decide) ?_
      refine g_iret dX10_numbers_87 rfl (Nat.le_refl _) (Nat.le_refl _) ?_
      first
        | exact Ex.i (by decide) rfl
        | (refine Ex.i ?_ rfl; unfold numC; rw [e2, e1]; rfl)
  · skip
    have hout : c.toInt < 100 ∨ 116 < c.toInt := by omega
    obtain ⟨e2, e1⟩ := tw_out hout
    refine g_tableOut (tgt := 88) dX10_numbers_1 hout (by decide) ?_
    refine g_iconst (v := 0) dX10_numbers_88 (by decide) ?_
    refine g_iret dX10_numbers_89 rfl (Nat.le_refl _) (Nat.le_refl _) ?_
    first
      | exact Ex.i (by decide) rfl
      | (refine Ex.i ?_ rfl; unfold numC; rw [e2, e1]; rfl)
