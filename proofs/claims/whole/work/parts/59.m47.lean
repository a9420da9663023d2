theorem cpy_at {f g : Nat → Int32} {i : Nat} : cpy f g i i = f i := if_neg (by omega)

set_option maxHeartbeats 4000000 in
set_option maxRecDepth 100000 in
theorem ct_X10_doneN (X : Cx) {h : Hp} {a : Nat} {x : Int32}  (hx : x < 0) : Ct X mX10_done 1 0 0 [.ref a, .int x] h (Ex (.int x) h) := by
  refine Ct.ofG vX10_done.1.2.2.1 (Nat.le_of_ble_eq_true rfl) ?_
  show G X RX10 cX10_done 4 (some .int) "done" (Rm 1 0 0) (Fm X (Ex (.int x) h) 0 0) 0 0 0 [(0, .ref a), (1, .int x)] [] h
  refine g_iload_n dX10_done_0 (by rfl) ?_
  refine g_if_lt (tgt := 53) dX10_done_1 (by decide) (fun c1 => ?_) (fun c1 => absurd hx c1)
  refine g_iload_n dX10_done_53 (by rfl) ?_
  refine g_iret dX10_done_54 rfl (Nat.le_refl _) (Nat.le_refl _) ?_
  exact Ex.i rfl rfl

set_option maxHeartbeats 4000000 in
set_option maxRecDepth 100000 in
theorem ct_done_lo (X : Cx) {h : Hp} {a n1 n2 n3 n4 n5 n6 n7 : Nat} {st le at0 lt fl : Int32} {r s : Nat → Int32} {g : Nat → Int32} {x : Int32} {n : Nat}  (h0 : h a = some (ob 10 (mdl n1 n2 (nI n) n3 n4 le n5 at0 lt n6 fl n7))) (h1 : h n1 = some (oI X 643 (nr 643 r))) (h2 : h n2 = some (oI X 2572 g)) (d0 : a ≠ n1) (d1 : n1 ≠ n2) (d2 : a ≠ n2) (h3 : h n3 = some (oI X 643 (nr 643 s))) (e0 : a ≠ n3) (e1 : n1 ≠ n3) (e2 : n2 ≠ n3) (hx : ¬ x < 0) (hn : n < 4) : Ct X mX10_done 1 0 0 [.ref a, .int x] h (fun u h1 => u = some (.int x) ∧ h1 a = some (ob 10 (mdl n1 n2 (nI (n + 1)) n3 n4 le n5 at0 lt n6 fl n7)) ∧ h1 n2 = some (oI X 2572 (put1 g (nr 643 s) n 643)) ∧ h1 n1 = some (oI X 643 (nr 643 r)) ∧ h1 n3 = some (oI X 643 (nr 643 r)) ∧ ∀ q, q ≠ a → q ≠ n1 → q ≠ n2 → q ≠ n3 → h1 q = h q) := by
  have h00 := h0
  unfold mdl at h00
  refine Ct.ofG vX10_done.1.2.2.1 (Nat.le_of_ble_eq_true rfl) ?_
  show G X RX10 cX10_done 4 (some .int) "done" (Rm 1 0 0) (Fm X (fun u h1 => u = some (.int x) ∧ h1 a = some (ob 10 (mdl n1 n2 (nI (n + 1)) n3 n4 le n5 at0 lt n6 fl n7)) ∧ h1 n2 = some (oI X 2572 (put1 g (nr 643 s) n 643)) ∧ h1 n1 = some (oI X 643 (nr 643 r)) ∧ h1 n3 = some (oI X 643 (nr 643 r)) ∧ ∀ q, q ≠ a → q ≠ n1 → q ≠ n2 → q ≠ n3 → h1 q = h q) 0 0) 0 0 0 [(0, .ref a), (1, .int x)] [] h
  refine g_iload_n dX10_done_0 (by rfl) ?_
  refine g_if_lt (tgt := 53) dX10_done_1 (by decide) (fun c1 => absurd c1 hx) (fun c1 => ?_)
  refine g_iconst (v := 0) dX10_done_4 (by decide) ?_
  refine g_istore_n (L1 := [(0, _), (1, _), (2, _)]) dX10_done_5 (by decide) (by rfl) ?_
  have loop6 : ∀ i, i ≤ 643 → ∀ h1x : Hp, h1x n1 = some (oI X 643 (cpy (nr 643 r) (nr 643 s) i)) → h1x n3 = some (oI X 643 (cpy (nr 643 s) (nr 643 r) i)) → (∀ q, q ≠ n1 → q ≠ n3 → h1x q = h q) → G X RX10 cX10_done 4 (some .int) "done" (Rm 1 0 0) (Fm X (fun u h1 => u = some (.int x) ∧ h1 a = some (ob 10 (mdl n1 n2 (nI (n + 1)) n3 n4 le n5 at0 lt n6 fl n7)) ∧ h1 n2 = some (oI X 2572 (put1 g (nr 643 s) n 643)) ∧ h1 n1 = some (oI X 643 (nr 643 r)) ∧ h1 n3 = some (oI X 643 (nr 643 r)) ∧ ∀ q, q ≠ a → q ≠ n1 → q ≠ n2 → q ≠ n3 → h1 q = h q) 0 0) 0 0 6 [(0, .ref a), (1, .int x), (2, .int (nI i))] [] h1x := by
    refine up_ind 643 (fun i hi ih => ?_)
    intro h1x k1 k3 kf
    have k0 := (kf a d0 e0).trans h0
    have k00 := (kf a d0 e0).trans h00
    have k2 := (kf n2 (Ne.symm d1) e2).trans h2
    refine g_iload_n dX10_done_6 (by rfl) ?_
    refine g_sipush (v := 643) dX10_done_7 (by decide) ?_
    refine g_icmp_ge (tgt := 45) dX10_done_10 (by decide) (fun c2 => ?_) (fun c2 => ?_)
    · skip
      have hie : i = 643 := Nat.le_antisymm hi (c_ge (a := 643) (by omega) (by omega) c2)
      subst hie
      refine g_aload_n dX10_done_45 (by rfl) (by first | exact isRf_r | exact isRf_n | exact isRf_o | assumption) ?_
      rw [cpy_all] at k1 k3
      refine g_cV0 dX10_done_46 lX10_43 vX10_notes (ct_notes_lo X (s := r) (st := 0) k0 k1 k2 d0 d1 d2 hn) (by first | assumption | (repeat' (first | assumption | exact hu_same | exact Ne.symm (by assumption) | apply hu_n1))) rfl ⟨Nat.le_of_ble_eq_true rfl, Nat.le_of_ble_eq_true rfl⟩ (Nat.le_of_ble_eq_true rfl) ⟨Nat.le_of_ble_eq_true rfl, Nat.le_of_ble_eq_true rfl⟩ ?_
      rintro _ h2 ⟨rfl, w0, w2, w3⟩
      have w1 := (w3 n1 (Ne.symm d0) d1).trans k1
      have w4 := (w3 n3 (Ne.symm e0) (Ne.symm e2)).trans k3
      refine g_aload_n dX10_done_49 (by rfl) (by first | exact isRf_r | exact isRf_n | exact isRf_o | assumption) ?_
      have w00 := w0
      unfold mdl at w00
      refine g_cV0v dX10_done_50 lX10_46 vX10_backs (ct_X10_backs X w0 w1 w4 e1 d0) (by first | assumption | (repeat' (first | assumption | exact hu_same | exact Ne.symm (by assumption) | apply hu_n1))) rfl ⟨Nat.le_of_ble_eq_true rfl, Nat.le_of_ble_eq_true rfl⟩ (Nat.le_of_ble_eq_true rfl) ⟨Nat.le_of_ble_eq_true rfl, Nat.le_of_ble_eq_true rfl⟩ ?_
      refine g_iload_n dX10_done_53 (by rfl) ?_
      refine g_iret dX10_done_54 rfl (Nat.le_refl _) (Nat.le_refl _) ?_
      exact ⟨rfl, hu_n1 d0 w0, hu_n1 (Ne.symm d1) w2, hu_same, hu_n1 (Ne.symm e1) w4, fun q q1 q2 q3 q4 => (hu_ne q2).trans ((w3 q q1 q3).trans (kf q q2 q4))⟩
    · skip
      have hlt : i < 643 := c_nge (a := 643) (b := i) (by omega) (by omega) c2
      refine g_aload_n dX10_done_13 (by rfl) (by first | exact isRf_r | exact isRf_n | exact isRf_o | assumption) ?_
      refine g_getf dX10_done_14 fX10_7 (by first | assumption | (repeat' (first | assumption | exact hu_same | exact Ne.symm (by assumption) | apply hu_n1))) (by rfl) ?_
      refine g_iload_n dX10_done_17 (by rfl) ?_
      refine g_iaN dX10_done_18 (by first | assumption | (repeat' (first | assumption | exact hu_same | exact Ne.symm (by assumption) | apply hu_n1))) (by omega) (by omega) (by rfl) ?_
      refine g_istore_n (L1 := [(0, _), (1, _), (2, _), (3, _)]) dX10_done_19 (by decide) (by rfl) ?_
      refine g_aload_n dX10_done_20 (by rfl) (by first | exact isRf_r | exact isRf_n | exact isRf_o | assumption) ?_
      refine g_getf dX10_done_21 fX10_7 (by first | assumption | (repeat' (first | assumption | exact hu_same | exact Ne.symm (by assumption) | apply hu_n1))) (by rfl) ?_
      refine g_iload_n dX10_done_24 (by rfl) ?_
      refine g_aload_n dX10_done_25 (by rfl) (by first | exact isRf_r | exact isRf_n | exact isRf_o | assumption) ?_
      refine g_getf dX10_done_26 fX10_16 (by first | assumption | (repeat' (first | assumption | exact hu_same | exact Ne.symm (by assumption) | apply hu_n1))) (by rfl) ?_
      refine g_iload_n dX10_done_29 (by rfl) ?_
      refine g_iaN dX10_done_30 (by first | assumption | (repeat' (first | assumption | exact hu_same | exact Ne.symm (by assumption) | apply hu_n1))) (by omega) (by omega) (by rfl) ?_
      refine g_isN dX10_done_31 (by first | assumption | (repeat' (first | assumption | exact hu_same | exact Ne.symm (by assumption) | apply hu_n1))) (by omega) (by omega) ?_
      refine g_aload_n dX10_done_32 (by rfl) (by first | exact isRf_r | exact isRf_n | exact isRf_o | assumption) ?_
      refine g_getf dX10_done_33 fX10_16 (by first | assumption | (repeat' (first | assumption | exact hu_same | exact Ne.symm (by assumption) | apply hu_n1))) (by rfl) ?_
      refine g_iload_n dX10_done_36 (by rfl) ?_
      refine g_iload_n dX10_done_37 (by rfl) ?_
      refine g_isN dX10_done_38 (by first | assumption | (repeat' (first | assumption | exact hu_same | exact Ne.symm (by assumption) | apply hu_n1))) (by omega) (by omega) ?_
      refine g_iinc (v := nI (i + 1)) (L1 := [(0, _), (1, _), (2, _), (3, _)]) dX10_done_39 (by rfl) (nI_1 i) (by decide) (by rfl) ?_
      refine g_goto (tgt := 6) dX10_done_42 (by decide) ?_
      refine g_pick [0, 1, 2] rfl ?_
      refine ih (by omega) _ (hu_n1 e1 ?_) ?_ (fun q q1 q2 => (hu_ne q2).trans ((hu_ne q1).trans (kf q q1 q2)))
      · rw [hu_same, cpy_at, cpy_up]
      · rw [hu_same, cpy_at, cpy_up]
  exact loop6 0 (by omega) h (by rw [cpy_0]; exact h1) (by rw [cpy_0]; exact h3) (fun q _ _ => rfl)

set_option maxHeartbeats 4000000 in
set_option maxRecDepth 100000 in
theorem ct_done_hi (X : Cx) {h : Hp} {a n1 n2 n3 n4 n5 n6 n7 : Nat} {st le at0 lt fl : Int32} {r s : Nat → Int32} {g : Nat → Int32} {x : Int32}  (h0 : h a = some (ob 10 (mdl n1 n2 (nI 4) n3 n4 le n5 at0 lt n6 fl n7))) (h1 : h n1 = some (oI X 643 (nr 643 r))) (h2 : h n2 = some (oI X 2572 g)) (d0 : a ≠ n1) (d1 : n1 ≠ n2) (d2 : a ≠ n2) (h3 : h n3 = some (oI X 643 (nr 643 s))) (e0 : a ≠ n3) (e1 : n1 ≠ n3) (e2 : n2 ≠ n3) (hx : ¬ x < 0) : Ct X mX10_done 1 0 0 [.ref a, .int x] h (fun u h1 => u = some (.int x) ∧ h1 a = some (ob 10 (mdl n1 n2 (nI (3 + 1)) n3 n4 le n5 at0 lt n6 fl n7)) ∧ h1 n2 = some (oI X 2572 (put1 (shf g 2572) (nr 643 s) 3 643)) ∧ h1 n1 = some (oI X 643 (nr 643 r)) ∧ h1 n3 = some (oI X 643 (nr 643 r)) ∧ ∀ q, q ≠ a → q ≠ n1 → q ≠ n2 → q ≠ n3 → h1 q = h q) := by
  have h00 := h0
  unfold mdl at h00
  refine Ct.ofG vX10_done.1.2.2.1 (Nat.le_of_ble_eq_true rfl) ?_
  show G X RX10 cX10_done 4 (some .int) "done" (Rm 1 0 0) (Fm X (fun u h1 => u = some (.int x) ∧ h1 a = some (ob 10 (mdl n1 n2 (nI (3 + 1)) n3 n4 le n5 at0 lt n6 fl n7)) ∧ h1 n2 = some (oI X 2572 (put1 (shf g 2572) (nr 643 s) 3 643)) ∧ h1 n1 = some (oI X 643 (nr 643 r)) ∧ h1 n3 = some (oI X 643 (nr 643 r)) ∧ ∀ q, q ≠ a → q ≠ n1 → q ≠ n2 → q ≠ n3 → h1 q = h q) 0 0) 0 0 0 [(0, .ref a), (1, .int x)] [] h
  refine g_iload_n dX10_done_0 (by rfl) ?_
  refine g_if_lt (tgt := 53) dX10_done_1 (by decide) (fun c1 => absurd c1 hx) (fun c1 => ?_)
  refine g_iconst (v := 0) dX10_done_4 (by decide) ?_
  refine g_istore_n (L1 := [(0, _), (1, _), (2, _)]) dX10_done_5 (by decide) (by rfl) ?_
  have loop6 : ∀ i, i ≤ 643 → ∀ h1x : Hp, h1x n1 = some (oI X 643 (cpy (nr 643 r) (nr 643 s) i)) → h1x n3 = some (oI X 643 (cpy (nr 643 s) (nr 643 r) i)) → (∀ q, q ≠ n1 → q ≠ n3 → h1x q = h q) → G X RX10 cX10_done 4 (some .int) "done" (Rm 1 0 0) (Fm X (fun u h1 => u = some (.int x) ∧ h1 a = some (ob 10 (mdl n1 n2 (nI (3 + 1)) n3 n4 le n5 at0 lt n6 fl n7)) ∧ h1 n2 = some (oI X 2572 (put1 (shf g 2572) (nr 643 s) 3 643)) ∧ h1 n1 = some (oI X 643 (nr 643 r)) ∧ h1 n3 = some (oI X 643 (nr 643 r)) ∧ ∀ q, q ≠ a → q ≠ n1 → q ≠ n2 → q ≠ n3 → h1 q = h q) 0 0) 0 0 6 [(0, .ref a), (1, .int x), (2, .int (nI i))] [] h1x := by
    refine up_ind 643 (fun i hi ih => ?_)
    intro h1x k1 k3 kf
    have k0 := (kf a d0 e0).trans h0
    have k00 := (kf a d0 e0).trans h00
    have k2 := (kf n2 (Ne.symm d1) e2).trans h2
    refine g_iload_n dX10_done_6 (by rfl) ?_
    refine g_sipush (v := 643) dX10_done_7 (by decide) ?_
    refine g_icmp_ge (tgt := 45) dX10_done_10 (by decide) (fun c2 => ?_) (fun c2 => ?_)
    · skip
      have hie : i = 643 := Nat.le_antisymm hi (c_ge (a := 643) (by omega) (by omega) c2)
      subst hie
      refine g_aload_n dX10_done_45 (by rfl) (by first | exact isRf_r | exact isRf_n | exact isRf_o | assumption) ?_
      rw [cpy_all] at k1 k3
      refine g_cV0 dX10_done_46 lX10_43 vX10_notes (ct_notes_hi X (s := r) (st := 0) k0 k1 k2 d0 d1 d2) (by first | assumption | (repeat' (first | assumption | exact hu_same | exact Ne.symm (by assumption) | apply hu_n1))) rfl ⟨Nat.le_of_ble_eq_true rfl, Nat.le_of_ble_eq_true rfl⟩ (Nat.le_of_ble_eq_true rfl) ⟨Nat.le_of_ble_eq_true rfl, Nat.le_of_ble_eq_true rfl⟩ ?_
      rintro _ h2 ⟨rfl, w0, w2, w3⟩
      have w1 := (w3 n1 (Ne.symm d0) d1).trans k1
      have w4 := (w3 n3 (Ne.symm e0) (Ne.symm e2)).trans k3
      refine g_aload_n dX10_done_49 (by rfl) (by first | exact isRf_r | exact isRf_n | exact isRf_o | assumption) ?_
      have w00 := w0
      unfold mdl at w00
      refine g_cV0v dX10_done_50 lX10_46 vX10_backs (ct_X10_backs X w0 w1 w4 e1 d0) (by first | assumption | (repeat' (first | assumption | exact hu_same | exact Ne.symm (by assumption) | apply hu_n1))) rfl ⟨Nat.le_of_ble_eq_true rfl, Nat.le_of_ble_eq_true rfl⟩ (Nat.le_of_ble_eq_true rfl) ⟨Nat.le_of_ble_eq_true rfl, Nat.le_of_ble_eq_true rfl⟩ ?_
      refine g_iload_n dX10_done_53 (by rfl) ?_
      refine g_iret dX10_done_54 rfl (Nat.le_refl _) (Nat.le_refl _) ?_
      exact ⟨rfl, hu_n1 d0 w0, hu_n1 (Ne.symm d1) w2, hu_same, hu_n1 (Ne.symm e1) w4, fun q q1 q2 q3 q4 => (hu_ne q2).trans ((w3 q q1 q3).trans (kf q q2 q4))⟩
    · skip
      have hlt : i < 643 := c_nge (a := 643) (b := i) (by omega) (by omega) c2
      refine g_aload_n dX10_done_13 (by rfl) (by first | exact isRf_r | exact isRf_n | exact isRf_o | assumption) ?_
      refine g_getf dX10_done_14 fX10_7 (by first | assumption | (repeat' (first | assumption | exact hu_same | exact Ne.symm (by assumption) | apply hu_n1))) (by rfl) ?_
      refine g_iload_n dX10_done_17 (by rfl) ?_
      refine g_iaN dX10_done_18 (by first | assumption | (repeat' (first | assumption | exact hu_same | exact Ne.symm (by assumption) | apply hu_n1))) (by omega) (by omega) (by rfl) ?_
      refine g_istore_n (L1 := [(0, _), (1, _), (2, _), (3, _)]) dX10_done_19 (by decide) (by rfl) ?_
      refine g_aload_n dX10_done_20 (by rfl) (by first | exact isRf_r | exact isRf_n | exact isRf_o | assumption) ?_
      refine g_getf dX10_done_21 fX10_7 (by first | assumption | (repeat' (first | assumption | exact hu_same | exact Ne.symm (by assumption) | apply hu_n1))) (by rfl) ?_
      refine g_iload_n dX10_done_24 (by rfl) ?_
      refine g_aload_n dX10_done_25 (by rfl) (by first | exact isRf_r | exact isRf_n | exact isRf_o | assumption) ?_
      refine g_getf dX10_done_26 fX10_16 (by first | assumption | (repeat' (first | assumption | exact hu_same | exact Ne.symm (by assumption) | apply hu_n1))) (by rfl) ?_
      refine g_iload_n dX10_done_29 (by rfl) ?_
      refine g_iaN dX10_done_30 (by first | assumption | (repeat' (first | assumption | exact hu_same | exact Ne.symm (by assumption) | apply hu_n1))) (by omega) (by omega) (by rfl) ?_
      refine g_isN dX10_done_31 (by first | assumption | (repeat' (first | assumption | exact hu_same | exact Ne.symm (by assumption) | apply hu_n1))) (by omega) (by omega) ?_
      refine g_aload_n dX10_done_32 (by rfl) (by first | exact isRf_r | exact isRf_n | exact isRf_o | assumption) ?_
      refine g_getf dX10_done_33 fX10_16 (by first | assumption | (repeat' (first | assumption | exact hu_same | exact Ne.symm (by assumption) | apply hu_n1))) (by rfl) ?_
      refine g_iload_n dX10_done_36 (by rfl) ?_
      refine g_iload_n dX10_done_37 (by rfl) ?_
      refine g_isN dX10_done_38 (by first | assumption | (repeat' (first | assumption | exact hu_same | exact Ne.symm (by assumption) | apply hu_n1))) (by omega) (by omega) ?_
      refine g_iinc (v := nI (i + 1)) (L1 := [(0, _), (1, _), (2, _), (3, _)]) dX10_done_39 (by rfl) (nI_1 i) (by decide) (by rfl) ?_
      refine g_goto (tgt := 6) dX10_done_42 (by decide) ?_
      refine g_pick [0, 1, 2] rfl ?_
      refine ih (by omega) _ (hu_n1 e1 ?_) ?_ (fun q q1 q2 => (hu_ne q2).trans ((hu_ne q1).trans (kf q q1 q2)))
      · rw [hu_same, cpy_at, cpy_up]
      · rw [hu_same, cpy_at, cpy_up]
  exact loop6 0 (by omega) h (by rw [cpy_0]; exact h1) (by rw [cpy_0]; exact h3) (fun q _ _ => rfl)
