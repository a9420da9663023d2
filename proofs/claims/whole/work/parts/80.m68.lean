set_option maxHeartbeats 4000000 in
set_option maxRecDepth 100000 in
theorem ct_X10_type (X : Cx) {h : Hp} {M : Nat → Nat} {r : Nat → Int32} {n tn : Nat} {rows : Nat → Nat → Int32} {tg : Nat → Int32} {c : Int32}  (hk : TOk tn tg) (hD : MdAt X h M r n rows tn tg) : Ct X mX10_type 1 0 0 [.ref (M 0), .int c] h (fun u h1 => u = some (.int (F_type tn c)) ∧ MdTo X h h1 M r n rows (typN tn c) (typG tn tg c)) := by
  obtain ⟨s0, hS⟩ := id hD
  obtain ⟨-, ⟨at0, lt, fl, m0⟩, m1, -, -, m4, -⟩ := id hS
  unfold mdl at m0
  have n04 := hS.ne (i := 0) (j := 4) (by omega) (by omega) (by omega)
  have htn := hk.1
  refine Ct.ofG vX10_type.1.2.2.1 (Nat.le_of_ble_eq_true rfl) ?_
  show G X RX10 cX10_type 2 (some .int) "type" (Rm 1 0 0) (Fm X (fun u h1 => u = some (.int (F_type tn c)) ∧ MdTo X h h1 M r n rows (typN tn c) (typG tn tg c)) 0 0) 0 0 0 [(0, .ref (M 0)), (1, .int c)] [] h
  refine g_iload_n dX10_type_0 (by rfl) ?_
  refine g_bipush (v := 32) dX10_type_1 (by decide) ?_
  refine g_bipush (v := 126) dX10_type_3 (by decide) ?_
  refine g_cS3x dX10_type_5 lX10_31 rfl vX10_in (ct_X10_in X) ⟨Nat.le_of_ble_eq_true rfl, Nat.le_of_ble_eq_true rfl⟩ (Nat.le_of_ble_eq_true rfl) ⟨Nat.le_of_ble_eq_true rfl, Nat.le_of_ble_eq_true rfl⟩ ?_
  refine g_if_ne (tgt := 13) dX10_type_8 (by decide) (fun c1 => ?_) (fun c1 => ?_)
  · skip
    have hg := bI_1 c1
    refine g_aload_n dX10_type_13 (by rfl) (by first | exact isRf_r | exact isRf_n | exact isRf_o | assumption) ?_
    refine g_getf dX10_type_14 fX10_179 (by first | exact m0 | exact m4 | exact hu_n1 n04 m0 | exact hu_same) (by rfl) ?_
    refine g_bipush (v := 60) dX10_type_17 (by decide) ?_
    refine g_icmp_ne (tgt := 25) dX10_type_19 (by decide) (fun c2 => ?_) (fun c2 => ?_)
    · skip
      have hlt : tn < 60 := by
        have q : tn ≠ 60 := fun z => c2 (by rw [z]; rfl)
        omega
      have ht : typOk tn c = true := by
        unfold typOk
        rw [hg, decide_eq_true hlt]
        rfl
      refine g_aload_n dX10_type_25 (by rfl) (by first | exact isRf_r | exact isRf_n | exact isRf_o | assumption) ?_
      refine g_getf dX10_type_26 fX10_19 (by first | exact m0 | exact m4 | exact hu_n1 n04 m0 | exact hu_same) (by rfl) ?_
      refine g_aload_n dX10_type_29 (by rfl) (by first | exact isRf_r | exact isRf_n | exact isRf_o | assumption) ?_
      refine g_getf dX10_type_30 fX10_179 (by first | exact m0 | exact m4 | exact hu_n1 n04 m0 | exact hu_same) (by rfl) ?_
      refine g_iload_n dX10_type_33 (by rfl) ?_
      refine g_isN dX10_type_34 (by first | exact m0 | exact m4 | exact hu_n1 n04 m0 | exact hu_same) hlt (by omega) ?_
      rw [nr_up hlt]
      refine g_aload_n dX10_type_35 (by rfl) (by first | exact isRf_r | exact isRf_n | exact isRf_o | assumption) ?_
      refine g_dup dX10_type_36 (by rfl) ?_
      refine g_getf dX10_type_37 fX10_179 (by first | exact m0 | exact m4 | exact hu_n1 n04 m0 | exact hu_same) (by rfl) ?_
      refine g_iconst (v := 1) dX10_type_40 (by decide) ?_
      refine g_iadd dX10_type_41 ?_
      refine g_putf (ty := .int) dX10_type_42 fX10_179 (by decide +kernel) (by rfl) (by rfl) (by first | exact m0 | exact m4 | exact hu_n1 n04 m0 | exact hu_same) (by exact Nat.le_of_ble_eq_true rfl) ?_
      refine g_aload_n dX10_type_45 (by rfl) (by first | exact isRf_r | exact isRf_n | exact isRf_o | assumption) ?_
      refine g_getf dX10_type_46 fX10_179 (by first | exact m0 | exact m4 | exact hu_n1 n04 m0 | exact hu_same) (by rfl) ?_
      refine g_iret dX10_type_49 rfl (Nat.le_refl _) (Nat.le_refl _) ?_
      rw [show F_type tn c = nI (tn + 1) from by unfold F_type; rw [hg, decide_eq_true hlt]; rfl, show typN tn c = tn + 1 from by unfold typN; rw [ht]; rfl, show typG tn tg c = upd tg tn c from by unfold typG; rw [ht]; rfl]
      rw [nI_1]
      exact ⟨rfl, ⟨s0, hS.txt ⟨at0, lt, fl, hu_same⟩ (hu_n1 (Ne.symm n04) hu_same) (fun i hi i0 i4 => (hu_ne (hS.ne hi (by omega) i0)).trans (hu_ne (hS.ne hi (by omega) i4)))⟩, fun q hq => (hu_ne (hq 0 (by omega))).trans (hu_ne (hq 4 (by omega)))⟩
    · skip
      have h60 := c_eq (b := 60) (by omega) (by omega) c2
      have ht : typOk tn c = false := by
        unfold typOk
        rw [hg, decide_eq_false (by omega)]
        rfl
      refine g_bipush (v := (-3)) dX10_type_22 (by decide) ?_
      refine g_iret dX10_type_24 rfl (Nat.le_refl _) (Nat.le_refl _) ?_
      rw [show F_type tn c = -3 from by unfold F_type; rw [hg, decide_eq_false (by omega)]; rfl, show typN tn c = tn from by unfold typN; rw [ht]; rfl, show typG tn tg c = tg from by unfold typG; rw [ht]; rfl]
      exact ⟨rfl, hD, fun q _ => rfl⟩
  · skip
    have hg : rngB 32 126 c = false := bI_0 c1
    have ht : typOk tn c = false := by
      unfold typOk
      rw [hg]
      rfl
    refine g_iconst (v := (-1)) dX10_type_11 (by decide) ?_
    refine g_iret dX10_type_12 rfl (Nat.le_refl _) (Nat.le_refl _) ?_
    rw [show F_type tn c = -1 from by unfold F_type; rw [hg]; rfl, show typN tn c = tn from by unfold typN; rw [ht]; rfl, show typG tn tg c = tg from by unfold typG; rw [ht]; rfl]
    exact ⟨rfl, hD, fun q _ => rfl⟩

set_option maxHeartbeats 4000000 in
set_option maxRecDepth 100000 in
theorem ct_X10_clearText (X : Cx) {h : Hp} {M : Nat → Nat} {r : Nat → Int32} {n tn : Nat} {rows : Nat → Nat → Int32} {tg : Nat → Int32}  (hD : MdAt X h M r n rows tn tg) : Ct X mX10_clearText 0 0 0 [.ref (M 0)] h (fun u h1 => u = some (.int (nI tn)) ∧ MdTo X h h1 M r n rows 0 tg) := by
  obtain ⟨s0, hS⟩ := id hD
  obtain ⟨-, ⟨at0, lt, fl, m0⟩, m1, -, -, m4, -⟩ := id hS
  unfold mdl at m0
  have n04 := hS.ne (i := 0) (j := 4) (by omega) (by omega) (by omega)
  refine Ct.ofG vX10_clearText.1.2.2.1 (Nat.le_of_ble_eq_true rfl) ?_
  show G X RX10 cX10_clearText 2 (some .int) "clearText" (Rm 0 0 0) (Fm X (fun u h1 => u = some (.int (nI tn)) ∧ MdTo X h h1 M r n rows 0 tg) 0 0) 0 0 0 [(0, .ref (M 0))] [] h
  refine g_aload_n dX10_clearText_0 (by rfl) (by first | exact isRf_r | exact isRf_n | exact isRf_o | assumption) ?_
  refine g_getf dX10_clearText_1 fX10_179 (by first | exact m0 | exact m4 | exact hu_n1 n04 m0 | exact hu_same) (by rfl) ?_
  refine g_istore_n (L1 := [(0, _), (1, _)]) dX10_clearText_4 (by decide) (by rfl) ?_
  refine g_aload_n dX10_clearText_5 (by rfl) (by first | exact isRf_r | exact isRf_n | exact isRf_o | assumption) ?_
  refine g_iconst (v := 0) dX10_clearText_6 (by decide) ?_
  refine g_putf (ty := .int) dX10_clearText_7 fX10_179 (by decide +kernel) (by rfl) (by rfl) (by first | exact m0 | exact m4 | exact hu_n1 n04 m0 | exact hu_same) (by exact Nat.le_of_ble_eq_true rfl) ?_
  refine g_iload_n dX10_clearText_10 (by rfl) ?_
  refine g_iret dX10_clearText_11 rfl (Nat.le_refl _) (Nat.le_refl _) ?_
  exact ⟨rfl, ⟨s0, hS.txt ⟨at0, lt, fl, hu_same⟩ (hu_n1 (Ne.symm n04) m4) (fun i hi i0 i4 => hu_ne (hS.ne hi (by omega) i0))⟩, fun q hq => hu_ne (hq 0 (by omega))⟩

theorem ct_mUndo0 (X : Cx) {h : Hp} {M : Nat → Nat} {r : Nat → Int32} {tn : Nat} {rows : Nat → Nat → Int32} {tg : Nat → Int32} (k : MdAt X h M r 0 rows tn tg) : Ct X mX10_undo 0 0 0 [.ref (M 0)] h (Ex (.int (-2)) h) := by
  obtain ⟨s, kd, ⟨at0, lt, fl, k0⟩, -⟩ := k
  exact ct_X10_undo0 X (st := 0) (r := r) (s := r) k0
theorem ct_mUndoS (X : Cx) {h : Hp} {M : Nat → Nat} {r : Nat → Int32} {n tn : Nat} {rows : Nat → Nat → Int32} {tg : Nat → Int32} (hn : n + 1 ≤ 4) (k : MdAt X h M r (n + 1) rows tn tg) : Ct X mX10_undo 0 0 0 [.ref (M 0)] h (fun u h1 => u = some (.int (nI n)) ∧ MdTo X h h1 M (rows n) n rows tn tg) := by
  obtain ⟨s, kd, ⟨at0, lt, fl, k0⟩, k1, ⟨g, k2, k2b⟩, k3, k4, ⟨w5, k5⟩, ⟨w6, k6⟩, w7, k7⟩ := k
  have ne : ∀ i j, i < 8 → j < 8 → i ≠ j → M i ≠ M j := fun i j hi hj n e => n (kd i j hi hj e)
  refine Ct.mono (ct_X10_undoS X (st := 0) (s := r) (q := rows n) (k := n) k0 k1 k2 (by omega) (fun j hj => k2b n j (by omega) hj) (ne 0 1 (by omega) (by omega) (by omega)) (ne 1 2 (by omega) (by omega) (by omega)) (ne 0 2 (by omega) (by omega) (by omega))) ?_
  rintro v h1 ⟨e, rfl⟩
  have fr : ∀ i, i < 8 → i ≠ 0 → i ≠ 1 → ∀ (e1 e2 : va_E), hu (hu h (M 0) e1) (M 1) e2 (M i) = h (M i) := fun i hi i0 i1 e1 e2 => (hu_ne (ne i 1 hi (by omega) i1)).trans (hu_ne (ne i 0 hi (by omega) i0))
  exact ⟨e, ⟨s, kd, ⟨at0, lt, fl, hu_n1 (ne 0 1 (by omega) (by omega) (by omega)) hu_same⟩, hu_same, ⟨g, (fr 2 (by omega) (by omega) (by omega) _ _).trans k2, fun i j hi hj => k2b i j (by omega) hj⟩, (fr 3 (by omega) (by omega) (by omega) _ _).trans k3, (fr 4 (by omega) (by omega) (by omega) _ _).trans k4, ⟨w5, (fr 5 (by omega) (by omega) (by omega) _ _).trans k5⟩, ⟨w6, (fr 6 (by omega) (by omega) (by omega) _ _).trans k6⟩, w7, (fr 7 (by omega) (by omega) (by omega) _ _).trans k7⟩, fun q hq => (hu_ne (hq 1 (by omega))).trans (hu_ne (hq 0 (by omega)))⟩
/-- the model's object with this place, letter and form -/
def md (M : Nat → Nat) (n tn : Nat) (p lt fl : Int32) : va_E := ob 10 (mdl (M 1) (M 2) (nI n) (M 3) (M 4) (nI tn) (M 5) p lt (M 6) fl (M 7))
theorem dg_t {c : Int32} (h : rngB 48 57 c = true) : dg c = c - 48 ∧ 0 ≤ dg c := by
  have e : dg c = c - 48 := by
    unfold dg
    rw [h]
    rfl
  refine ⟨e, ?_⟩
  have h2 := rng_b h
  have q1 : (48 : Int32).toInt = 48 := by decide
  have q2 : (57 : Int32).toInt = 57 := by decide
  rw [e, i_le, z_toInt, Int32.toInt_sub, q1, Int.bmod_eq_of_le (by omega) (by omega)]
  omega
theorem dg_f {c : Int32} (h : rngB 48 57 c = false) : ¬ 0 ≤ dg c := by
  unfold dg
  rw [h]
  show ¬ (0 : Int32) ≤ -1
  decide
/-- the number that k digits make -/
def numV (n : Nat) (g : Nat → Int32) (p : Nat) : Nat → Int32
  | 0 => 0
  | 1 => dg (sg n g p)
  | _ => dg (sg n g p) * 10 + dg (sg n g (p + 1))
theorem numV_1 {n p : Nat} {g : Nat → Int32} (h : rngB 48 57 (sg n g p) = true) : 10 * 0 + sg n g p - 48 = numV n g p 1 := by
  show _ = dg (sg n g p)
  rw [(dg_t h).1, Int32.mul_zero, Int32.zero_add]
theorem numV_2 {n p : Nat} {g : Nat → Int32} (h : rngB 48 57 (sg n g (p + 1)) = true) : 10 * numV n g p 1 + sg n g (p + 1) - 48 = numV n g p 2 := by
  show 10 * dg (sg n g p) + _ - _ = dg (sg n g p) * 10 + dg (sg n g (p + 1))
  rw [(dg_t h).1, Int32.mul_comm, Int32.sub_eq_add_neg, Int32.sub_eq_add_neg, Int32.add_assoc]

set_option maxHeartbeats 4000000 in
set_option maxRecDepth 100000 in
theorem ct_X10_here (X : Cx) {h : Hp} {M : Nat → Nat} {n tn p : Nat} {lt fl : Int32} {tg : Nat → Int32}  (htn : tn ≤ 60) (hp : p < 1000) (m0 : h (M 0) = some (md M n tn (nI p) lt fl)) (m4 : h (M 4) = some (oI X 60 (nr 60 tg))) : Ct X mX10_here 0 0 0 [.ref (M 0)] h (Ex (.int (sg tn tg p)) h) := by
  unfold md mdl at m0
  refine Ct.ofG vX10_here.1.2.2.1 (Nat.le_of_ble_eq_true rfl) ?_
  show G X RX10 cX10_here 1 (some .int) "here" (Rm 0 0 0) (Fm X (Ex (.int (sg tn tg p)) h) 0 0) 0 0 0 [(0, .ref (M 0))] [] h
  refine g_aload_n dX10_here_0 (by rfl) (by first | exact isRf_r | exact isRf_n | exact isRf_o | assumption) ?_
  refine g_getf dX10_here_1 fX10_185 (by first | exact m0 | exact m4) (by rfl) ?_
  refine g_aload_n dX10_here_4 (by rfl) (by first | exact isRf_r | exact isRf_n | exact isRf_o | assumption) ?_
  refine g_getf dX10_here_5 fX10_179 (by first | exact m0 | exact m4) (by rfl) ?_
  refine g_icmp_ge (tgt := 23) dX10_here_8 (by decide) (fun c1 => ?_) (fun c1 => ?_)
  · skip
    have hge := c_ge (a := tn) (b := p) (by omega) (by omega) c1
    refine g_iconst (v := 0) dX10_here_23 (by decide) ?_
    refine g_iret dX10_here_24 rfl (Nat.le_refl _) (Nat.le_refl _) ?_
    refine Ex.i ?_ rfl
    first
      | (rw [sg_in hlt]; exact nr_lt (by omega))
      | (rw [sg_out (by omega)])
  · skip
    have hlt : p < tn := c_nge (a := tn) (b := p) (by omega) (by omega) c1
    refine g_aload_n dX10_here_11 (by rfl) (by first | exact isRf_r | exact isRf_n | exact isRf_o | assumption) ?_
    refine g_getf dX10_here_12 fX10_19 (by first | exact m0 | exact m4) (by rfl) ?_
    refine g_aload_n dX10_here_15 (by rfl) (by first | exact isRf_r | exact isRf_n | exact isRf_o | assumption) ?_
    refine g_getf dX10_here_16 fX10_185 (by first | exact m0 | exact m4) (by rfl) ?_
    refine g_iaN dX10_here_19 (by first | exact m0 | exact m4) (by omega) (by omega) (by rfl) ?_
    refine g_goto (tgt := 24) dX10_here_20 (by decide) ?_
    refine g_iret dX10_here_24 rfl (Nat.le_refl _) (Nat.le_refl _) ?_
    refine Ex.i ?_ rfl
    first
      | (rw [sg_in hlt]; exact nr_lt (by omega))
      | (rw [sg_out (by omega)])

set_option maxHeartbeats 4000000 in
set_option maxRecDepth 100000 in
theorem ct_X10_sign (X : Cx) {h : Hp} {M : Nat → Nat} {n tn p : Nat} {lt c : Int32} {b : Bool} {tg : Nat → Int32}  (htn : tn ≤ 60) (hp : p < 1000) (m0 : h (M 0) = some (md M n tn (nI p) lt (bI b))) (m4 : h (M 4) = some (oI X 60 (nr 60 tg))) : Ct X mX10_sign 1 0 0 [.ref (M 0), .int c] h (Ev (hu h (M 0) (md M n tn (nI (cond (b && decide (sg tn tg p = c)) (p + 1) p)) lt (bI (b && decide (sg tn tg p = c)))))) := by
  have m0z := m0
  unfold md mdl at m0
  refine Ct.ofG vX10_sign.1.2.2.1 (Nat.le_of_ble_eq_true rfl) ?_
  show G X RX10 cX10_sign 2 none "sign" (Rm 1 0 0) (Fm X (Ev (hu h (M 0) (md M n tn (nI (cond (b && decide (sg tn tg p = c)) (p + 1) p)) lt (bI (b && decide (sg tn tg p = c)))))) 0 0) 0 0 0 [(0, .ref (M 0)), (1, .int c)] [] h
  refine g_aload_n dX10_sign_0 (by rfl) (by first | exact isRf_r | exact isRf_n | exact isRf_o | assumption) ?_
  refine g_aload_n dX10_sign_1 (by rfl) (by first | exact isRf_r | exact isRf_n | exact isRf_o | assumption) ?_
  refine g_getf dX10_sign_2 fX10_188 (by first | exact m0 | exact hu_same) (by rfl) ?_
  refine g_if_eq (tgt := 20) dX10_sign_5 (by decide) (fun c1 => ?_) (fun c1 => ?_)
  · skip
    have hz : (b && decide (sg tn tg p = c)) = false := by
      rw [bI_0 c1]
      rfl
    refine g_iconst (v := 0) dX10_sign_20 (by decide) ?_
    refine g_putf (ty := .boolean) dX10_sign_21 fX10_188 (by decide +kernel) (by first | rfl | decide) (by first | rfl | decide) (by first | exact m0 | exact hu_same) (by exact Nat.le_of_ble_eq_true rfl) ?_
    refine g_aload_n dX10_sign_24 (by rfl) (by first | exact isRf_r | exact isRf_n | exact isRf_o | assumption) ?_
    refine g_dup dX10_sign_25 (by rfl) ?_
    refine g_getf dX10_sign_26 fX10_185 (by first | exact m0 | exact hu_same) (by rfl) ?_
    refine g_aload_n dX10_sign_29 (by rfl) (by first | exact isRf_r | exact isRf_n | exact isRf_o | assumption) ?_
    refine g_getf dX10_sign_30 fX10_188 (by first | exact m0 | exact hu_same) (by rfl) ?_
    refine g_if_eq (tgt := 40) dX10_sign_33 (by decide) (fun c2 => ?_) (fun c2 => ?_)
    · skip
      refine g_iconst (v := 0) dX10_sign_40 (by decide) ?_
      refine g_iadd dX10_sign_41 ?_
      first
        | rw [nI_1]
        | rw [Int32.add_zero]
      refine g_putf (ty := .int) dX10_sign_42 fX10_185 (by decide +kernel) (by rfl) (by rfl) (by first | exact m0 | exact hu_same) (by exact Nat.le_of_ble_eq_true rfl) ?_
      refine g_vret dX10_sign_45 rfl (Nat.le_refl _) (Nat.le_refl _) ?_
      first
        | exact absurd rfl (by assumption : ¬ (0 : Int32) = 0)
        | exact absurd (by assumption : (1 : Int32) = 0) (by decide)
        | (rw [hz]; refine ⟨rfl, ?_⟩; rw [hu_hu]; rfl)
    · skip
      refine g_iconst (v := 1) dX10_sign_36 (by decide) ?_
      refine g_goto (tgt := 41) dX10_sign_37 (by decide) ?_
      refine g_iadd dX10_sign_41 ?_
      first
        | rw [nI_1]
        | rw [Int32.add_zero]
      refine g_putf (ty := .int) dX10_sign_42 fX10_185 (by decide +kernel) (by rfl) (by rfl) (by first | exact m0 | exact hu_same) (by exact Nat.le_of_ble_eq_true rfl) ?_
      refine g_vret dX10_sign_45 rfl (Nat.le_refl _) (Nat.le_refl _) ?_
      first
        | exact absurd rfl (by assumption : ¬ (0 : Int32) = 0)
        | exact absurd (by assumption : (1 : Int32) = 0) (by decide)
        | (rw [hz]; refine ⟨rfl, ?_⟩; rw [hu_hu]; rfl)
  · skip
    have hb := bI_1 c1
    refine g_aload_n dX10_sign_8 (by rfl) (by first | exact isRf_r | exact isRf_n | exact isRf_o | assumption) ?_
    refine g_cV0x dX10_sign_9 lX10_192 vX10_here (ct_X10_here X (lt := lt) (fl := bI b) htn hp m0z m4) (by first | exact m0 | exact hu_same) rfl ⟨Nat.le_of_ble_eq_true rfl, Nat.le_of_ble_eq_true rfl⟩ (Nat.le_of_ble_eq_true rfl) ⟨Nat.le_of_ble_eq_true rfl, Nat.le_of_ble_eq_true rfl⟩ ?_
    refine g_iload_n dX10_sign_12 (by rfl) ?_
    refine g_icmp_ne (tgt := 20) dX10_sign_13 (by decide) (fun c3 => ?_) (fun c3 => ?_)
    · skip
      have hz : (b && decide (sg tn tg p = c)) = false := by
        rw [decide_eq_false (show ¬ sg tn tg p = c from c3), Bool.and_false]
      refine g_iconst (v := 0) dX10_sign_20 (by decide) ?_
      refine g_putf (ty := .boolean) dX10_sign_21 fX10_188 (by decide +kernel) (by first | rfl | decide) (by first | rfl | decide) (by first | exact m0 | exact hu_same) (by exact Nat.le_of_ble_eq_true rfl) ?_
      refine g_aload_n dX10_sign_24 (by rfl) (by first | exact isRf_r | exact isRf_n | exact isRf_o | assumption) ?_
      refine g_dup dX10_sign_25 (by rfl) ?_
      refine g_getf dX10_sign_26 fX10_185 (by first | exact m0 | exact hu_same) (by rfl) ?_
      refine g_aload_n dX10_sign_29 (by rfl) (by first | exact isRf_r | exact isRf_n | exact isRf_o | assumption) ?_
      refine g_getf dX10_sign_30 fX10_188 (by first | exact m0 | exact hu_same) (by rfl) ?_
      refine g_if_eq (tgt := 40) dX10_sign_33 (by decide) (fun c4 => ?_) (fun c4 => ?_)
      · skip
        refine g_iconst (v := 0) dX10_sign_40 (by decide) ?_
        refine g_iadd dX10_sign_41 ?_
        first
          | rw [nI_1]
          | rw [Int32.add_zero]
        refine g_putf (ty := .int) dX10_sign_42 fX10_185 (by decide +kernel) (by rfl) (by rfl) (by first | exact m0 | exact hu_same) (by exact Nat.le_of_ble_eq_true rfl) ?_
        refine g_vret dX10_sign_45 rfl (Nat.le_refl _) (Nat.le_refl _) ?_
        first
          | exact absurd rfl (by assumption : ¬ (0 : Int32) = 0)
          | exact absurd (by assumption : (1 : Int32) = 0) (by decide)
          | (rw [hz]; refine ⟨rfl, ?_⟩; rw [hu_hu]; rfl)
      · skip
        refine g_iconst (v := 1) dX10_sign_36 (by decide) ?_
        refine g_goto (tgt := 41) dX10_sign_37 (by decide) ?_
        refine g_iadd dX10_sign_41 ?_
        first
          | rw [nI_1]
          | rw [Int32.add_zero]
        refine g_putf (ty := .int) dX10_sign_42 fX10_185 (by decide +kernel) (by rfl) (by rfl) (by first | exact m0 | exact hu_same) (by exact Nat.le_of_ble_eq_true rfl) ?_
        refine g_vret dX10_sign_45 rfl (Nat.le_refl _) (Nat.le_refl _) ?_
        first
          | exact absurd rfl (by assumption : ¬ (0 : Int32) = 0)
          | exact absurd (by assumption : (1 : Int32) = 0) (by decide)
          | (rw [hz]; refine ⟨rfl, ?_⟩; rw [hu_hu]; rfl)
    · skip
      have hz : (b && decide (sg tn tg p = c)) = true := by
        rw [hb, decide_eq_true (show sg tn tg p = c from c3)]
        rfl
      refine g_iconst (v := 1) dX10_sign_16 (by decide) ?_
      refine g_goto (tgt := 21) dX10_sign_17 (by decide) ?_
      refine g_putf (ty := .boolean) dX10_sign_21 fX10_188 (by decide +kernel) (by first | rfl | decide) (by first | rfl | decide) (by first | exact m0 | exact hu_same) (by exact Nat.le_of_ble_eq_true rfl) ?_
      refine g_aload_n dX10_sign_24 (by rfl) (by first | exact isRf_r | exact isRf_n | exact isRf_o | assumption) ?_
      refine g_dup dX10_sign_25 (by rfl) ?_
      refine g_getf dX10_sign_26 fX10_185 (by first | exact m0 | exact hu_same) (by rfl) ?_
      refine g_aload_n dX10_sign_29 (by rfl) (by first | exact isRf_r | exact isRf_n | exact isRf_o | assumption) ?_
      refine g_getf dX10_sign_30 fX10_188 (by first | exact m0 | exact hu_same) (by rfl) ?_
      refine g_if_eq (tgt := 40) dX10_sign_33 (by decide) (fun c5 => ?_) (fun c5 => ?_)
      · skip
        refine g_iconst (v := 0) dX10_sign_40 (by decide) ?_
        refine g_iadd dX10_sign_41 ?_
        first
          | rw [nI_1]
          | rw [Int32.add_zero]
        refine g_putf (ty := .int) dX10_sign_42 fX10_185 (by decide +kernel) (by rfl) (by rfl) (by first | exact m0 | exact hu_same) (by exact Nat.le_of_ble_eq_true rfl) ?_
        refine g_vret dX10_sign_45 rfl (Nat.le_refl _) (Nat.le_refl _) ?_
        first
          | exact absurd rfl (by assumption : ¬ (0 : Int32) = 0)
          | exact absurd (by assumption : (1 : Int32) = 0) (by decide)
          | (rw [hz]; refine ⟨rfl, ?_⟩; rw [hu_hu]; rfl)
      · skip
        refine g_iconst (v := 1) dX10_sign_36 (by decide) ?_
        refine g_goto (tgt := 41) dX10_sign_37 (by decide) ?_
        refine g_iadd dX10_sign_41 ?_
        first
          | rw [nI_1]
          | rw [Int32.add_zero]
        refine g_putf (ty := .int) dX10_sign_42 fX10_185 (by decide +kernel) (by rfl) (by rfl) (by first | exact m0 | exact hu_same) (by exact Nat.le_of_ble_eq_true rfl) ?_
        refine g_vret dX10_sign_45 rfl (Nat.le_refl _) (Nat.le_refl _) ?_
        first
          | exact absurd rfl (by assumption : ¬ (0 : Int32) = 0)
          | exact absurd (by assumption : (1 : Int32) = 0) (by decide)
          | (rw [hz]; refine ⟨rfl, ?_⟩; rw [hu_hu]; rfl)
