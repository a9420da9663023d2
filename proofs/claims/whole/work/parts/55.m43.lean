/-- the first i cells of g over f -/
def cpy (f g : Nat → Int32) (i : Nat) : Nat → Int32 := fun j => if j < i then g j else f j
theorem cpy_0 {f g : Nat → Int32} : cpy f g 0 = f := funext (fun j => if_neg (by omega))
theorem cpy_up {f g : Nat → Int32} {i : Nat} : upd (cpy f g i) i (g i) = cpy f g (i + 1) := by
  funext j
  by_cases e : j = i
  · subst e
    rw [upd_s]
    exact (if_pos (by omega)).symm
  · rw [upd_n e]
    show (if _ then _ else _) = if _ then _ else _
    by_cases z : j < i
    · rw [if_pos z, if_pos (by omega)]
    · rw [if_neg z, if_neg (by omega)]
theorem cpy_all {n : Nat} {r s : Nat → Int32} : cpy (nr n s) (nr n r) n = nr n r := by
  funext j
  show (if _ then _ else _) = _
  by_cases z : j < n
  · rw [if_pos z]
  · rw [if_neg z]
    unfold nr
    rw [if_neg z, if_neg z]

set_option maxHeartbeats 4000000 in
set_option maxRecDepth 100000 in
theorem ct_X10_asides (X : Cx) {h : Hp} {a n1 n2 n3 n4 n5 n6 n7 : Nat} {st le at0 lt fl : Int32} {r s : Nat → Int32}  (h0 : h a = some (ob 10 (mdl n1 n2 st n3 n4 le n5 at0 lt n6 fl n7))) (h1 : h n1 = some (oI X 643 (nr 643 r))) (h3 : h n3 = some (oI X 643 (nr 643 s))) (d1 : n1 ≠ n3) (d0 : a ≠ n3) : Ct X mX10_asides 0 0 0 [.ref a] h (Ev (hu h n3 (oI X 643 (nr 643 r)))) := by
  unfold mdl at h0
  refine Ct.ofG vX10_asides.1.2.2.1 (Nat.le_of_ble_eq_true rfl) ?_
  show G X RX10 cX10_asides 2 none "asides" (Rm 0 0 0) (Fm X (Ev (hu h n3 (oI X 643 (nr 643 r)))) 0 0) 0 0 0 [(0, .ref a)] [] h
  refine g_iconst (v := 0) dX10_asides_0 (by decide) ?_
  refine g_istore_n (L1 := [(0, _), (1, _)]) dX10_asides_1 (by decide) (by rfl) ?_
  have loop2 : ∀ i, i ≤ 643 → G X RX10 cX10_asides 2 none "asides" (Rm 0 0 0) (Fm X (Ev (hu h n3 (oI X 643 (nr 643 r)))) 0 0) 0 0 2 [(0, .ref a), (1, .int (nI i))] [] (hu h n3 (oI X 643 (cpy (nr 643 s) (nr 643 r) i))) := by
    refine up_ind 643 (fun i hi ih => ?_)
    refine g_iload_n dX10_asides_2 (by rfl) ?_
    refine g_sipush (v := 643) dX10_asides_3 (by decide) ?_
    refine g_icmp_ge (tgt := 27) dX10_asides_6 (by decide) (fun c1 => ?_) (fun c1 => ?_)
    · skip
      have hie : i = 643 := Nat.le_antisymm hi (c_ge (a := 643) (by omega) (by omega) c1)
      subst hie
      refine g_vret dX10_asides_27 rfl (Nat.le_refl _) (Nat.le_refl _) ?_
      rw [cpy_all]
      exact ⟨rfl, rfl⟩
    · skip
      have hlt : i < 643 := c_nge (a := 643) (b := i) (by omega) (by omega) c1
      refine g_aload_n dX10_asides_9 (by rfl) (by first | exact isRf_r | exact isRf_n | exact isRf_o | assumption) ?_
      refine g_getf dX10_asides_10 fX10_16 (by first | assumption | (repeat' (first | assumption | exact hu_same | exact Ne.symm (by assumption) | apply hu_n1))) (by rfl) ?_
      refine g_iload_n dX10_asides_13 (by rfl) ?_
      refine g_aload_n dX10_asides_14 (by rfl) (by first | exact isRf_r | exact isRf_n | exact isRf_o | assumption) ?_
      refine g_getf dX10_asides_15 fX10_7 (by first | assumption | (repeat' (first | assumption | exact hu_same | exact Ne.symm (by assumption) | apply hu_n1))) (by rfl) ?_
      refine g_iload_n dX10_asides_18 (by rfl) ?_
      refine g_iaN dX10_asides_19 (by first | assumption | (repeat' (first | assumption | exact hu_same | exact Ne.symm (by assumption) | apply hu_n1))) (by omega) (by omega) (by rfl) ?_
      refine g_isN dX10_asides_20 (by first | assumption | (repeat' (first | assumption | exact hu_same | exact Ne.symm (by assumption) | apply hu_n1))) (by omega) (by omega) ?_
      refine g_iinc (v := nI (i + 1)) (L1 := [(0, _), (1, _)]) dX10_asides_21 (by rfl) (nI_1 i) (by decide) (by rfl) ?_
      refine g_goto (tgt := 2) dX10_asides_24 (by decide) ?_
      rw [hu_hu, cpy_up]
      exact ih (by omega)
  have l2 := loop2 0 (by omega)
  rw [cpy_0, hu_id h3] at l2
  exact l2

set_option maxHeartbeats 4000000 in
set_option maxRecDepth 100000 in
theorem ct_X10_backs (X : Cx) {h : Hp} {a n1 n2 n3 n4 n5 n6 n7 : Nat} {st le at0 lt fl : Int32} {r s : Nat → Int32}  (h0 : h a = some (ob 10 (mdl n1 n2 st n3 n4 le n5 at0 lt n6 fl n7))) (h1 : h n1 = some (oI X 643 (nr 643 r))) (h3 : h n3 = some (oI X 643 (nr 643 s))) (d1 : n1 ≠ n3) (d0 : a ≠ n1) : Ct X mX10_backs 0 0 0 [.ref a] h (Ev (hu h n1 (oI X 643 (nr 643 s)))) := by
  unfold mdl at h0
  refine Ct.ofG vX10_backs.1.2.2.1 (Nat.le_of_ble_eq_true rfl) ?_
  show G X RX10 cX10_backs 2 none "backs" (Rm 0 0 0) (Fm X (Ev (hu h n1 (oI X 643 (nr 643 s)))) 0 0) 0 0 0 [(0, .ref a)] [] h
  refine g_iconst (v := 0) dX10_backs_0 (by decide) ?_
  refine g_istore_n (L1 := [(0, _), (1, _)]) dX10_backs_1 (by decide) (by rfl) ?_
  have loop2 : ∀ i, i ≤ 643 → G X RX10 cX10_backs 2 none "backs" (Rm 0 0 0) (Fm X (Ev (hu h n1 (oI X 643 (nr 643 s)))) 0 0) 0 0 2 [(0, .ref a), (1, .int (nI i))] [] (hu h n1 (oI X 643 (cpy (nr 643 r) (nr 643 s) i))) := by
    refine up_ind 643 (fun i hi ih => ?_)
    refine g_iload_n dX10_backs_2 (by rfl) ?_
    refine g_sipush (v := 643) dX10_backs_3 (by decide) ?_
    refine g_icmp_ge (tgt := 27) dX10_backs_6 (by decide) (fun c1 => ?_) (fun c1 => ?_)
    · skip
      have hie : i = 643 := Nat.le_antisymm hi (c_ge (a := 643) (by omega) (by omega) c1)
      subst hie
      refine g_vret dX10_backs_27 rfl (Nat.le_refl _) (Nat.le_refl _) ?_
      rw [cpy_all]
      exact ⟨rfl, rfl⟩
    · skip
      have hlt : i < 643 := c_nge (a := 643) (b := i) (by omega) (by omega) c1
      refine g_aload_n dX10_backs_9 (by rfl) (by first | exact isRf_r | exact isRf_n | exact isRf_o | assumption) ?_
      refine g_getf dX10_backs_10 fX10_7 (by first | assumption | (repeat' (first | assumption | exact hu_same | exact Ne.symm (by assumption) | apply hu_n1))) (by rfl) ?_
      refine g_iload_n dX10_backs_13 (by rfl) ?_
      refine g_aload_n dX10_backs_14 (by rfl) (by first | exact isRf_r | exact isRf_n | exact isRf_o | assumption) ?_
      refine g_getf dX10_backs_15 fX10_16 (by first | assumption | (repeat' (first | assumption | exact hu_same | exact Ne.symm (by assumption) | apply hu_n1))) (by rfl) ?_
      refine g_iload_n dX10_backs_18 (by rfl) ?_
      refine g_iaN dX10_backs_19 (by first | assumption | (repeat' (first | assumption | exact hu_same | exact Ne.symm (by assumption) | apply hu_n1))) (by omega) (by omega) (by rfl) ?_
      refine g_isN dX10_backs_20 (by first | assumption | (repeat' (first | assumption | exact hu_same | exact Ne.symm (by assumption) | apply hu_n1))) (by omega) (by omega) ?_
      refine g_iinc (v := nI (i + 1)) (L1 := [(0, _), (1, _)]) dX10_backs_21 (by rfl) (nI_1 i) (by decide) (by rfl) ?_
      refine g_goto (tgt := 2) dX10_backs_24 (by decide) ?_
      rw [hu_hu, cpy_up]
      exact ih (by omega)
  have l2 := loop2 0 (by omega)
  rw [cpy_0, hu_id h1] at l2
  exact l2
