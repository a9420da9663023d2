/-- the m-th state of the kept ones becomes r, its first i numbers of it -/
def put1 (g r : Nat → Int32) (m i : Nat) : Nat → Int32 := fun p => if 643 * m ≤ p ∧ p < 643 * m + i then r (p - 643 * m) else g p
theorem put1_0 {g r : Nat → Int32} {m : Nat} : put1 g r m 0 = g := funext (fun p => if_neg (by omega))
theorem put1_up {g r : Nat → Int32} {m i : Nat} : upd (put1 g r m i) (643 * m + i) (r i) = put1 g r m (i + 1) := by
  funext p
  by_cases e : p = 643 * m + i
  · subst e
    rw [upd_s]
    show _ = if _ then _ else _
    rw [if_pos (by omega), show 643 * m + i - 643 * m = i by omega]
  · rw [upd_n e]
    show (if _ then _ else _) = if _ then _ else _
    by_cases z : 643 * m ≤ p ∧ p < 643 * m + i
    · rw [if_pos z, if_pos (by omega)]
    · rw [if_neg z, if_neg (by omega)]
/-- the oldest state goes -/
def shf (g : Nat → Int32) (i : Nat) : Nat → Int32 := fun p => if p + 643 < i then g (p + 643) else g p
theorem shf_0 {g : Nat → Int32} : shf g 643 = g := funext (fun p => if_neg (by omega))
theorem shf_at {g : Nat → Int32} {i : Nat} : shf g i i = g i := if_neg (by omega)
theorem shf_up {g : Nat → Int32} {i : Nat} (h : 643 ≤ i) : upd (shf g i) (i - 643) (g i) = shf g (i + 1) := by
  funext p
  by_cases e : p = i - 643
  · rw [e, upd_s]
    unfold shf
    rw [if_pos (by omega), show i - 643 + 643 = i by omega]
  · rw [upd_n e]
    show (if _ then _ else _) = if _ then _ else _
    by_cases z : p + 643 < i
    · rw [if_pos z, if_pos (by omega)]
    · rw [if_neg z, if_neg (by omega)]
theorem nI_m643 {i : Nat} (h : 643 ≤ i) : nI i - 643 = nI (i - 643) := by
  have e : nI i = nI (i - 643) + nI 643 := by rw [nI_add, show i - 643 + 643 = i by omega]
  rw [e]
  show nI (i - 643) + nI 643 - nI 643 = _
  exact Int32.add_sub_cancel _ _

set_option maxHeartbeats 4000000 in
set_option maxRecDepth 100000 in
theorem ct_notes_lo (X : Cx) {h : Hp} {a n1 n2 n3 n4 n5 n6 n7 : Nat} {st le at0 lt fl : Int32} {r s : Nat → Int32} {g : Nat → Int32} {n : Nat}  (h0 : h a = some (ob 10 (mdl n1 n2 (nI n) n3 n4 le n5 at0 lt n6 fl n7))) (h1 : h n1 = some (oI X 643 (nr 643 r))) (h2 : h n2 = some (oI X 2572 g)) (d0 : a ≠ n1) (d1 : n1 ≠ n2) (d2 : a ≠ n2) (hn : n < 4) : Ct X mX10_notes 0 0 0 [.ref a] h (fun u h1 => u = none ∧ h1 a = some (ob 10 (mdl n1 n2 (nI (n + 1)) n3 n4 le n5 at0 lt n6 fl n7)) ∧ h1 n2 = some (oI X 2572 (put1 g (nr 643 r) n 643)) ∧ ∀ q, q ≠ a → q ≠ n2 → h1 q = h q) := by
  unfold mdl at h0
  refine Ct.ofG vX10_notes.1.2.2.1 (Nat.le_of_ble_eq_true rfl) ?_
  show G X RX10 cX10_notes 2 none "notes" (Rm 0 0 0) (Fm X (fun u h1 => u = none ∧ h1 a = some (ob 10 (mdl n1 n2 (nI (n + 1)) n3 n4 le n5 at0 lt n6 fl n7)) ∧ h1 n2 = some (oI X 2572 (put1 g (nr 643 r) n 643)) ∧ ∀ q, q ≠ a → q ≠ n2 → h1 q = h q) 0 0) 0 0 0 [(0, .ref a)] [] h
  refine g_aload_n dX10_notes_0 (by rfl) (by first | exact isRf_r | exact isRf_n | exact isRf_o | assumption) ?_
  refine g_getf dX10_notes_1 fX10_39 (by first | assumption | (repeat' (first | assumption | exact hu_same | exact Ne.symm (by assumption) | apply hu_n1))) (by rfl) ?_
  refine g_iconst (v := 4) dX10_notes_4 (by decide) ?_
  refine g_icmp_ne (tgt := 46) dX10_notes_5 (by decide) (fun c1 => ?_) (fun c1 => absurd (by first | exact c1 | exact Classical.byContradiction c1) (show ¬ nI n = 4 from fun z => by have y := congrArg Int32.toInt z; rw [nI_toInt (by omega), show (4 : Int32).toInt = 4 by decide] at y; omega))
  refine g_iconst (v := 0) dX10_notes_46 (by decide) ?_
  refine g_istore_n (L1 := [(0, _), (1, _)]) dX10_notes_47 (by decide) (by rfl) ?_
  have loop48 : ∀ i, i ≤ 643 → G X RX10 cX10_notes 2 none "notes" (Rm 0 0 0) (Fm X (fun u h1 => u = none ∧ h1 a = some (ob 10 (mdl n1 n2 (nI (n + 1)) n3 n4 le n5 at0 lt n6 fl n7)) ∧ h1 n2 = some (oI X 2572 (put1 g (nr 643 r) n 643)) ∧ ∀ q, q ≠ a → q ≠ n2 → h1 q = h q) 0 0) 0 0 48 [(0, .ref a), (1, .int (nI i))] [] (hu h n2 (oI X 2572 (put1 g (nr 643 r) n i))) := by
    refine up_ind 643 (fun i hi ih => ?_)
    refine g_iload_n dX10_notes_48 (by rfl) ?_
    refine g_sipush (v := 643) dX10_notes_49 (by decide) ?_
    refine g_icmp_ge (tgt := 82) dX10_notes_52 (by decide) (fun c2 => ?_) (fun c2 => ?_)
    · skip
      have hie : i = 643 := Nat.le_antisymm hi (c_ge (a := 643) (by omega) (by omega) c2)
      subst hie
      refine g_aload_n dX10_notes_82 (by rfl) (by first | exact isRf_r | exact isRf_n | exact isRf_o | assumption) ?_
      refine g_dup dX10_notes_83 (by rfl) ?_
      refine g_getf dX10_notes_84 fX10_39 (by first | assumption | (repeat' (first | assumption | exact hu_same | exact Ne.symm (by assumption) | apply hu_n1))) (by rfl) ?_
      refine g_iconst (v := 1) dX10_notes_87 (by decide) ?_
      refine g_iadd dX10_notes_88 ?_
      rw [nI_1]
      refine g_putf (ty := .int) dX10_notes_89 fX10_39 (by decide +kernel) (by rfl) (by rfl) (by first | assumption | (repeat' (first | assumption | exact hu_same | exact Ne.symm (by assumption) | apply hu_n1))) (by exact Nat.le_of_ble_eq_true rfl) ?_
      refine g_vret dX10_notes_92 rfl (Nat.le_refl _) (Nat.le_refl _) ?_
      exact ⟨rfl, hu_same, hu_n1 (Ne.symm d2) hu_same, fun q q1 q2 => (hu_ne q1).trans (hu_ne q2)⟩
    · skip
      have hlt : i < 643 := c_nge (a := 643) (b := i) (by omega) (by omega) c2
      refine g_aload_n dX10_notes_55 (by rfl) (by first | exact isRf_r | exact isRf_n | exact isRf_o | assumption) ?_
      refine g_getf dX10_notes_56 fX10_13 (by first | assumption | (repeat' (first | assumption | exact hu_same | exact Ne.symm (by assumption) | apply hu_n1))) (by rfl) ?_
      refine g_sipush (v := 643) dX10_notes_59 (by decide) ?_
      refine g_aload_n dX10_notes_62 (by rfl) (by first | exact isRf_r | exact isRf_n | exact isRf_o | assumption) ?_
      refine g_getf dX10_notes_63 fX10_39 (by first | assumption | (repeat' (first | assumption | exact hu_same | exact Ne.symm (by assumption) | apply hu_n1))) (by rfl) ?_
      refine g_imul dX10_notes_66 ?_
      refine g_iload_n dX10_notes_67 (by rfl) ?_
      refine g_iadd dX10_notes_68 ?_
      refine g_aload_n dX10_notes_69 (by rfl) (by first | exact isRf_r | exact isRf_n | exact isRf_o | assumption) ?_
      refine g_getf dX10_notes_70 fX10_7 (by first | assumption | (repeat' (first | assumption | exact hu_same | exact Ne.symm (by assumption) | apply hu_n1))) (by rfl) ?_
      refine g_iload_n dX10_notes_73 (by rfl) ?_
      refine g_iaN dX10_notes_74 (by first | assumption | (repeat' (first | assumption | exact hu_same | exact Ne.symm (by assumption) | apply hu_n1))) (by omega) (by omega) (by rfl) ?_
      rw [show (643 : Int32) * nI n + nI i = nI (643 * n + i) from lin2]
      refine g_isN dX10_notes_75 (by first | assumption | (repeat' (first | assumption | exact hu_same | exact Ne.symm (by assumption) | apply hu_n1))) (by omega) (by omega) ?_
      refine g_iinc (v := nI (i + 1)) (L1 := [(0, _), (1, _)]) dX10_notes_76 (by rfl) (nI_1 i) (by decide) (by rfl) ?_
      refine g_goto (tgt := 48) dX10_notes_79 (by decide) ?_
      rw [hu_hu, put1_up]
      exact ih (by omega)
  have l2 := loop48 0 (by omega)
  rw [put1_0, hu_id h2] at l2
  exact l2

set_option maxHeartbeats 4000000 in
set_option maxRecDepth 100000 in
theorem ct_notes_hi (X : Cx) {h : Hp} {a n1 n2 n3 n4 n5 n6 n7 : Nat} {st le at0 lt fl : Int32} {r s : Nat → Int32} {g : Nat → Int32}  (h0 : h a = some (ob 10 (mdl n1 n2 (nI 4) n3 n4 le n5 at0 lt n6 fl n7))) (h1 : h n1 = some (oI X 643 (nr 643 r))) (h2 : h n2 = some (oI X 2572 g)) (d0 : a ≠ n1) (d1 : n1 ≠ n2) (d2 : a ≠ n2) : Ct X mX10_notes 0 0 0 [.ref a] h (fun u h1 => u = none ∧ h1 a = some (ob 10 (mdl n1 n2 (nI (3 + 1)) n3 n4 le n5 at0 lt n6 fl n7)) ∧ h1 n2 = some (oI X 2572 (put1 (shf g 2572) (nr 643 r) 3 643)) ∧ ∀ q, q ≠ a → q ≠ n2 → h1 q = h q) := by
  unfold mdl at h0
  have d3 := Ne.symm d2
  refine Ct.ofG vX10_notes.1.2.2.1 (Nat.le_of_ble_eq_true rfl) ?_
  show G X RX10 cX10_notes 2 none "notes" (Rm 0 0 0) (Fm X (fun u h1 => u = none ∧ h1 a = some (ob 10 (mdl n1 n2 (nI (3 + 1)) n3 n4 le n5 at0 lt n6 fl n7)) ∧ h1 n2 = some (oI X 2572 (put1 (shf g 2572) (nr 643 r) 3 643)) ∧ ∀ q, q ≠ a → q ≠ n2 → h1 q = h q) 0 0) 0 0 0 [(0, .ref a)] [] h
  refine g_aload_n dX10_notes_0 (by rfl) (by first | exact isRf_r | exact isRf_n | exact isRf_o | assumption) ?_
  refine g_getf dX10_notes_1 fX10_39 (by first | assumption | (repeat' (first | assumption | exact hu_same | exact Ne.symm (by assumption) | apply hu_n1))) (by rfl) ?_
  refine g_iconst (v := 4) dX10_notes_4 (by decide) ?_
  refine g_icmp_ne (tgt := 46) dX10_notes_5 (by decide) (fun c1 => absurd (show nI 4 = 4 from rfl) c1) (fun c1 => ?_)
  refine g_sipush (v := 643) dX10_notes_8 (by decide) ?_
  refine g_istore_n (L1 := [(0, _), (1, _)]) dX10_notes_11 (by decide) (by rfl) ?_
  have loop12 : ∀ i, i ≤ 2572 → 643 ≤ i → G X RX10 cX10_notes 2 none "notes" (Rm 0 0 0) (Fm X (fun u h1 => u = none ∧ h1 a = some (ob 10 (mdl n1 n2 (nI (3 + 1)) n3 n4 le n5 at0 lt n6 fl n7)) ∧ h1 n2 = some (oI X 2572 (put1 (shf g 2572) (nr 643 r) 3 643)) ∧ ∀ q, q ≠ a → q ≠ n2 → h1 q = h q) 0 0) 0 0 12 [(0, .ref a), (1, .int (nI i))] [] (hu h n2 (oI X 2572 (shf g i))) := by
    refine up_ind 2572 (fun i hi ih => ?_)
    intro h643
    refine g_iload_n dX10_notes_12 (by rfl) ?_
    refine g_sipush (v := 2572) dX10_notes_13 (by decide) ?_
    refine g_icmp_ge (tgt := 41) dX10_notes_16 (by decide) (fun c2 => ?_) (fun c2 => ?_)
    · skip
      have hie : i = 2572 := Nat.le_antisymm hi (c_ge (a := 2572) (by omega) (by omega) c2)
      subst hie
      refine g_aload_n dX10_notes_41 (by rfl) (by first | exact isRf_r | exact isRf_n | exact isRf_o | assumption) ?_
      refine g_iconst (v := 3) dX10_notes_42 (by decide) ?_
      refine g_putf (ty := .int) dX10_notes_43 fX10_39 (by decide +kernel) (by rfl) (by rfl) (by first | assumption | (repeat' (first | assumption | exact hu_same | exact Ne.symm (by assumption) | apply hu_n1))) (by exact Nat.le_of_ble_eq_true rfl) ?_
      refine g_iconst (v := 0) dX10_notes_46 (by decide) ?_
      refine g_istore_n (L1 := [(0, _), (1, _)]) dX10_notes_47 (by decide) (by rfl) ?_
      have loop48 : ∀ i, i ≤ 643 → G X RX10 cX10_notes 2 none "notes" (Rm 0 0 0) (Fm X (fun u h1 => u = none ∧ h1 a = some (ob 10 (mdl n1 n2 (nI (3 + 1)) n3 n4 le n5 at0 lt n6 fl n7)) ∧ h1 n2 = some (oI X 2572 (put1 (shf g 2572) (nr 643 r) 3 643)) ∧ ∀ q, q ≠ a → q ≠ n2 → h1 q = h q) 0 0) 0 0 48 [(0, .ref a), (1, .int (nI i))] [] (hu (hu (hu h n2 (oI X 2572 (shf g 2572))) a (ob 10 [.ref n1, .ref n2, .int (3), .ref n3, .ref n4, .int le, .ref n5, .int at0, .int lt, .ref n6, .int fl, .ref n7])) n2 (oI X 2572 (put1 (shf g 2572) (nr 643 r) 3 i))) := by
        refine up_ind 643 (fun i hi ih => ?_)
        refine g_iload_n dX10_notes_48 (by rfl) ?_
        refine g_sipush (v := 643) dX10_notes_49 (by decide) ?_
        refine g_icmp_ge (tgt := 82) dX10_notes_52 (by decide) (fun c3 => ?_) (fun c3 => ?_)
        · skip
          have hie : i = 643 := Nat.le_antisymm hi (c_ge (a := 643) (by omega) (by omega) c3)
          subst hie
          refine g_aload_n dX10_notes_82 (by rfl) (by first | exact isRf_r | exact isRf_n | exact isRf_o | assumption) ?_
          refine g_dup dX10_notes_83 (by rfl) ?_
          refine g_getf dX10_notes_84 fX10_39 (by first | assumption | (repeat' (first | assumption | exact hu_same | exact Ne.symm (by assumption) | apply hu_n1))) (by rfl) ?_
          refine g_iconst (v := 1) dX10_notes_87 (by decide) ?_
          refine g_iadd dX10_notes_88 ?_
          refine g_putf (ty := .int) dX10_notes_89 fX10_39 (by decide +kernel) (by rfl) (by rfl) (by first | assumption | (repeat' (first | assumption | exact hu_same | exact Ne.symm (by assumption) | apply hu_n1))) (by exact Nat.le_of_ble_eq_true rfl) ?_
          refine g_vret dX10_notes_92 rfl (Nat.le_refl _) (Nat.le_refl _) ?_
          exact ⟨rfl, hu_same, hu_n1 d3 hu_same, fun q q1 q2 => (hu_ne q1).trans ((hu_ne q2).trans ((hu_ne q1).trans (hu_ne q2)))⟩
        · skip
          have hlt : i < 643 := c_nge (a := 643) (b := i) (by omega) (by omega) c3
          refine g_aload_n dX10_notes_55 (by rfl) (by first | exact isRf_r | exact isRf_n | exact isRf_o | assumption) ?_
          refine g_getf dX10_notes_56 fX10_13 (by first | assumption | (repeat' (first | assumption | exact hu_same | exact Ne.symm (by assumption) | apply hu_n1))) (by rfl) ?_
          refine g_sipush (v := 643) dX10_notes_59 (by decide) ?_
          refine g_aload_n dX10_notes_62 (by rfl) (by first | exact isRf_r | exact isRf_n | exact isRf_o | assumption) ?_
          refine g_getf dX10_notes_63 fX10_39 (by first | assumption | (repeat' (first | assumption | exact hu_same | exact Ne.symm (by assumption) | apply hu_n1))) (by rfl) ?_
          refine g_imul dX10_notes_66 ?_
          refine g_iload_n dX10_notes_67 (by rfl) ?_
          refine g_iadd dX10_notes_68 ?_
          refine g_aload_n dX10_notes_69 (by rfl) (by first | exact isRf_r | exact isRf_n | exact isRf_o | assumption) ?_
          refine g_getf dX10_notes_70 fX10_7 (by first | assumption | (repeat' (first | assumption | exact hu_same | exact Ne.symm (by assumption) | apply hu_n1))) (by rfl) ?_
          refine g_iload_n dX10_notes_73 (by rfl) ?_
          refine g_iaN dX10_notes_74 (by first | assumption | (repeat' (first | assumption | exact hu_same | exact Ne.symm (by assumption) | apply hu_n1))) (by omega) (by omega) (by rfl) ?_
          rw [show (643 : Int32) * 3 + nI i = nI (643 * 3 + i) from lin2 (i := 3)]
          refine g_isN dX10_notes_75 (by first | assumption | (repeat' (first | assumption | exact hu_same | exact Ne.symm (by assumption) | apply hu_n1))) (by omega) (by omega) ?_
          refine g_iinc (v := nI (i + 1)) (L1 := [(0, _), (1, _)]) dX10_notes_76 (by rfl) (nI_1 i) (by decide) (by rfl) ?_
          refine g_goto (tgt := 48) dX10_notes_79 (by decide) ?_
          rw [hu_hu, put1_up]
          exact ih (by omega)
      have l2 := loop48 0 (by omega)
      rw [put1_0, hu_id (hu_n1 d3 hu_same)] at l2
      exact l2
    · skip
      have hlt : i < 2572 := c_nge (a := 2572) (b := i) (by omega) (by omega) c2
      refine g_aload_n dX10_notes_19 (by rfl) (by first | exact isRf_r | exact isRf_n | exact isRf_o | assumption) ?_
      refine g_getf dX10_notes_20 fX10_13 (by first | assumption | (repeat' (first | assumption | exact hu_same | exact Ne.symm (by assumption) | apply hu_n1))) (by rfl) ?_
      refine g_iload_n dX10_notes_23 (by rfl) ?_
      refine g_sipush (v := 643) dX10_notes_24 (by decide) ?_
      refine g_isub dX10_notes_27 ?_
      rw [nI_m643 h643]
      refine g_aload_n dX10_notes_28 (by rfl) (by first | exact isRf_r | exact isRf_n | exact isRf_o | assumption) ?_
      refine g_getf dX10_notes_29 fX10_13 (by first | assumption | (repeat' (first | assumption | exact hu_same | exact Ne.symm (by assumption) | apply hu_n1))) (by rfl) ?_
      refine g_iload_n dX10_notes_32 (by rfl) ?_
      refine g_iaN dX10_notes_33 (by first | assumption | (repeat' (first | assumption | exact hu_same | exact Ne.symm (by assumption) | apply hu_n1))) (by omega) (by omega) (by rfl) ?_
      refine g_isN dX10_notes_34 (by first | assumption | (repeat' (first | assumption | exact hu_same | exact Ne.symm (by assumption) | apply hu_n1))) (by omega) (by omega) ?_
      refine g_iinc (v := nI (i + 1)) (L1 := [(0, _), (1, _)]) dX10_notes_35 (by rfl) (nI_1 i) (by decide) (by rfl) ?_
      refine g_goto (tgt := 12) dX10_notes_38 (by decide) ?_
      rw [hu_hu, shf_at, shf_up h643]
      exact ih (by omega) (by omega)
  have l1 := loop12 643 (by omega) (Nat.le_refl _)
  rw [shf_0, hu_id h2] at l1
  exact l1
