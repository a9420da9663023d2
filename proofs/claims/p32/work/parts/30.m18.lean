def stR (C : Nat → Nat → Nat) : Nat → Option Nat := fun k => if k < 5 then some (C k 0) else none
def rotC (C : Nat → Nat → Nat) : Nat → Nat → Nat := fun k => if k = 4 then C 0 else C (k + 1)
def dropF (C : Nat → Nat → Nat) (i : Nat) : Nat → Option Nat := fun k => if k < 5 then (if k + 1 < i then some (C (k + 1) 0) else if k + 1 = i then some (C 0 0) else some (C k 0)) else none
theorem dropF_1 {C : Nat → Nat → Nat} : dropF C 1 = stR C := by
  funext k
  unfold dropF stR
  by_cases h : k < 5
  · rw [if_pos h, if_pos h, if_neg (by omega)]
    by_cases e : k + 1 = 1
    · have : k = 0 := by omega
      subst this
      rfl
    · rw [if_neg e]
  · rw [if_neg h, if_neg h]
theorem dropF_5 {C : Nat → Nat → Nat} : dropF C 5 = stR (rotC C) := by
  funext k
  unfold dropF stR rotC
  by_cases h : k < 5
  · rw [if_pos h, if_pos h]
    by_cases e : k = 4
    · subst e
      rfl
    · rw [if_pos (by omega), if_neg e]
  · rw [if_neg h, if_neg h]
theorem dropF_a {C : Nat → Nat → Nat} {m : Nat} (h : m < 4) : dropF C (m + 1) m = some (C 0 0) := by
  unfold dropF
  rw [if_pos (by omega), if_neg (by omega), if_pos rfl]
theorem dropF_b {C : Nat → Nat → Nat} {m : Nat} (h : m < 4) : dropF C (m + 1) (m + 1) = some (C (m + 1) 0) := by
  unfold dropF
  rw [if_pos (by omega), if_neg (by omega), if_neg (by omega)]
theorem dropF_s {C : Nat → Nat → Nat} {m : Nat} (h : m < 4) : va_up (va_up (dropF C (m + 1)) m (some (C (m + 1) 0))) (m + 1) (some (C 0 0)) = dropF C (m + 2) := by
  funext k
  unfold va_up
  by_cases e1 : k = m + 1
  · subst e1
    rw [if_pos rfl]
    unfold dropF
    rw [if_pos (by omega), if_neg (by omega), if_pos rfl]
  · rw [if_neg e1]
    by_cases e2 : k = m
    · subst e2
      rw [if_pos rfl]
      unfold dropF
      rw [if_pos (by omega), if_pos (by omega)]
    · rw [if_neg e2]
      unfold dropF
      by_cases h5 : k < 5
      · rw [if_pos h5, if_pos h5]
        by_cases h6 : k + 1 < m + 1
        · rw [if_pos h6, if_pos (by omega)]
        · rw [if_neg h6, if_neg (by omega), if_neg (by omega), if_neg (by omega)]
      · rw [if_neg h5, if_neg h5]
theorem ne_bo {X : Cx} {h : Hp} {a b ci k n : Nat} {fs : List Value} {f : Nat → Option Nat} (h1 : h a = some (ob ci fs)) (h2 : h b = some (oR X k n f)) : a ≠ b := by
  intro z
  subst z
  rw [h1] at h2
  simp [ob, oR] at h2

theorem ne_ob0 {h : Hp} {a b : Nat} {fs gs : List Value} (h1 : h a = some (ob 0 fs)) (h2 : h b = some (ob 1 gs)) : b ≠ a := ne_ob h2 h1 (by decide)

set_option maxHeartbeats 4000000 in
set_option maxRecDepth 100000 in
theorem ct_stateAt (X : Cx) {h : Hp} {a sa n j : Nat} {C : Nat → Nat → Nat}  (hs : h a = some (ob 0 [.ref sa, .int (nI n)])) (hst : h sa = some (oR X 5 5 (stR C))) (hj : j < 5) : Ct X mX0_stateAt 0 0 0 [.ref a, .int (nI j)] h (Ex (.ref (C j 0)) h) := by
  refine Ct.ofG vX0_stateAt.1.2.2.1 (Nat.le_of_ble_eq_true rfl) ?_
  show G X RX0 cX0_stateAt 2 (some (.object "DarkVats$House")) "stateAt" (Rm 0 0 0) (Fm X (Ex (.ref (C j 0)) h) 0 0) 0 0 0 [(0, .ref a), (1, .int (nI j))] [] h
  refine g_iload_n dX0_stateAt_0 (by rfl) ?_
  refine g_if_lt (tgt := 22) dX0_stateAt_1 (by decide) (fun c1 => absurd c1 (c_neg (by omega))) (fun c1 => ?_)
  refine g_iload_n dX0_stateAt_4 (by rfl) ?_
  refine g_aload_n dX0_stateAt_5 (by rfl) (by first | exact isRf_r | exact isRf_n | exact isRf_o | assumption) ?_
  refine g_getf dX0_stateAt_6 fX0_13 (by first | assumption | (repeat' (first | assumption | exact hu_same | exact Ne.symm (by assumption) | apply hu_n1))) (by rfl) ?_
  refine g_alenR dX0_stateAt_9 (by first | assumption | (repeat' (first | assumption | exact hu_same | exact Ne.symm (by assumption) | apply hu_n1))) (by decide) ?_
  refine g_icmp_ge (tgt := 22) dX0_stateAt_10 (by decide) (fun c2 => absurd (c_ge (a := 5) (by omega) (by omega) c2) (by omega)) (fun c2 => ?_)
  refine g_aload_n dX0_stateAt_13 (by rfl) (by first | exact isRf_r | exact isRf_n | exact isRf_o | assumption) ?_
  refine g_getf dX0_stateAt_14 fX0_13 (by first | assumption | (repeat' (first | assumption | exact hu_same | exact Ne.symm (by assumption) | apply hu_n1))) (by rfl) ?_
  refine g_iload_n dX0_stateAt_17 (by rfl) ?_
  refine g_aaN dX0_stateAt_18 (by first | assumption | (repeat' (first | assumption | exact hu_same | exact Ne.symm (by assumption) | apply hu_n1))) rfl hj (by omega) (if_pos hj) ?_
  refine g_goto (tgt := 23) dX0_stateAt_19 (by decide) ?_
  refine g_aret dX0_stateAt_23 rfl (by first | exact isRf_r | exact isRf_n | exact isRf_o | assumption) (Nat.le_refl _) (Nat.le_refl _) ?_
  exact ⟨rfl, rfl⟩

set_option maxHeartbeats 4000000 in
set_option maxRecDepth 100000 in
theorem ct_stateAtN (X : Cx) {h : Hp} {a : Nat} {w : Int32}  (hw : w < 0) : Ct X mX0_stateAt 0 0 0 [.ref a, .int w] h (Ex .null h) := by
  refine Ct.ofG vX0_stateAt.1.2.2.1 (Nat.le_of_ble_eq_true rfl) ?_
  show G X RX0 cX0_stateAt 2 (some (.object "DarkVats$House")) "stateAt" (Rm 0 0 0) (Fm X (Ex .null h) 0 0) 0 0 0 [(0, .ref a), (1, .int w)] [] h
  refine g_iload_n dX0_stateAt_0 (by rfl) ?_
  refine g_if_lt (tgt := 22) dX0_stateAt_1 (by decide) (fun c1 => ?_) (fun c1 => absurd hw c1)
  refine g_null dX0_stateAt_22 ?_
  refine g_aret dX0_stateAt_23 rfl (by first | exact isRf_r | exact isRf_n | exact isRf_o | assumption) (Nat.le_refl _) (Nat.le_refl _) ?_
  exact ⟨rfl, rfl⟩

set_option maxHeartbeats 4000000 in
set_option maxRecDepth 100000 in
theorem ct_X0_dropOldest (X : Cx) {h : Hp} {a sa : Nat} {C : Nat → Nat → Nat} {fs : Nat → List Value}  (hs : h a = some (ob 0 [.ref sa, .int 5])) (hst : h sa = some (oR X 5 5 (stR C))) (hc : ∀ k, k < 5 → h (C k 0) = some (ob 1 (fs k))) : Ct X mX0_dropOldest 0 0 0 [.ref a] h (fun u h1 => u = none ∧ h1 a = some (ob 0 [.ref sa, .int 4]) ∧ h1 sa = some (oR X 5 5 (stR (rotC C))) ∧ ∀ q, q ≠ a → q ≠ sa → h1 q = h q) := by
  have n0 := ne_bo hs hst
  refine Ct.ofG vX0_dropOldest.1.2.2.1 (Nat.le_of_ble_eq_true rfl) ?_
  show G X RX0 cX0_dropOldest 3 none "dropOldest" (Rm 0 0 0) (Fm X (fun u h1 => u = none ∧ h1 a = some (ob 0 [.ref sa, .int 4]) ∧ h1 sa = some (oR X 5 5 (stR (rotC C))) ∧ ∀ q, q ≠ a → q ≠ sa → h1 q = h q) 0 0) 0 0 0 [(0, .ref a)] [] h
  refine g_iconst (v := 1) dX0_dropOldest_0 (by decide) ?_
  refine g_istore_n (L1 := [(0, _), (1, _)]) dX0_dropOldest_1 (by decide) (by rfl) ?_
  have loop2 : ∀ m, m ≤ 4 → ∀ h1, h1 = hu h sa (oR X 5 5 (dropF C (m + 1))) → G X RX0 cX0_dropOldest 3 none "dropOldest" (Rm 0 0 0) (Fm X (fun u h1 => u = none ∧ h1 a = some (ob 0 [.ref sa, .int 4]) ∧ h1 sa = some (oR X 5 5 (stR (rotC C))) ∧ ∀ q, q ≠ a → q ≠ sa → h1 q = h q) 0 0) 0 0 2 [(0, .ref a), (1, .int (nI (m + 1)))] [] h1 := by
    refine up_ind 4 (fun m hm ih => ?_)
    intro h1 e1
    have k0 : h1 a = some (ob 0 [.ref sa, .int 5]) := by rw [e1, hu_ne n0]; exact hs
    have k1 : h1 sa = some (oR X 5 5 (dropF C (m + 1))) := by rw [e1]; exact hu_same
    have k2 : ∀ k, k < 5 → h1 (C k 0) = some (ob 1 (fs k)) := fun k hk => by rw [e1, hu_ne (ne_bo (hc k hk) hst)]; exact hc k hk
    have k3 := k2 0 (by omega)
    have n3 := ne_bo k3 k1
    refine g_iload_n dX0_dropOldest_2 (by rfl) ?_
    refine g_aload_n dX0_dropOldest_3 (by rfl) (by first | exact isRf_r | exact isRf_n | exact isRf_o | assumption) ?_
    refine g_getf dX0_dropOldest_4 fX0_13 (by first | assumption | (repeat' (first | assumption | exact hu_same | exact Ne.symm (by assumption) | apply hu_n1))) (by rfl) ?_
    refine g_alenR dX0_dropOldest_7 (by first | assumption | (repeat' (first | assumption | exact hu_same | exact Ne.symm (by assumption) | apply hu_n1))) (by decide) ?_
    refine g_icmp_ge (tgt := 47) dX0_dropOldest_8 (by decide) (fun c1 => ?_) (fun c1 => ?_)
    · skip
      have hme : m = 4 := by
        have z := c_ge (a := 5) (b := m + 1) (by omega) (by omega) c1
        omega
      subst hme
      refine g_aload_n dX0_dropOldest_47 (by rfl) (by first | exact isRf_r | exact isRf_n | exact isRf_o | assumption) ?_
      refine g_dup dX0_dropOldest_48 (by rfl) ?_
      refine g_getf dX0_dropOldest_49 fX0_18 (by first | assumption | (repeat' (first | assumption | exact hu_same | exact Ne.symm (by assumption) | apply hu_n1))) (by rfl) ?_
      refine g_iconst (v := 1) dX0_dropOldest_52 (by decide) ?_
      refine g_isub dX0_dropOldest_53 ?_
      refine g_putf (ty := .int) dX0_dropOldest_54 fX0_18 (by decide +kernel) (by rfl) (by rfl) (by first | assumption | (repeat' (first | assumption | exact hu_same | exact Ne.symm (by assumption) | apply hu_n1))) (by exact Nat.le_of_ble_eq_true rfl) ?_
      refine g_vret dX0_dropOldest_57 rfl (Nat.le_refl _) (Nat.le_refl _) ?_
      refine ⟨rfl, hu_same, ?_, fun q q1 q2 => ?_⟩
      · rw [hu_ne (Ne.symm n0), k1, dropF_5]
      · rw [hu_ne q1, e1, hu_ne q2]
    · skip
      have hlt : m < 4 := by
        have z := c_nge (a := 5) (b := m + 1) (by omega) (by omega) c1
        omega
      have k4 := k2 (m + 1) (by omega)
      have n4 := ne_bo k4 k1
      refine g_aload_n dX0_dropOldest_11 (by rfl) (by first | exact isRf_r | exact isRf_n | exact isRf_o | assumption) ?_
      refine g_getf dX0_dropOldest_12 fX0_13 (by first | assumption | (repeat' (first | assumption | exact hu_same | exact Ne.symm (by assumption) | apply hu_n1))) (by rfl) ?_
      refine g_iload_n dX0_dropOldest_15 (by rfl) ?_
      refine g_iconst (v := 1) dX0_dropOldest_16 (by decide) ?_
      refine g_isub dX0_dropOldest_17 ?_
      rw [nI_pred]
      refine g_aaN dX0_dropOldest_18 (by first | assumption | (repeat' (first | assumption | exact hu_same | exact Ne.symm (by assumption) | apply hu_n1))) rfl (by omega) (by omega) (dropF_a hlt) ?_
      refine g_astore_n (L1 := [(0, _), (1, _), (2, _)]) dX0_dropOldest_19 (by first | exact isRf_r | exact isRf_n | exact isRf_o | assumption) (by decide) (by rfl) ?_
      refine g_aload_n dX0_dropOldest_20 (by rfl) (by first | exact isRf_r | exact isRf_n | exact isRf_o | assumption) ?_
      refine g_getf dX0_dropOldest_21 fX0_13 (by first | assumption | (repeat' (first | assumption | exact hu_same | exact Ne.symm (by assumption) | apply hu_n1))) (by rfl) ?_
      refine g_iload_n dX0_dropOldest_24 (by rfl) ?_
      refine g_iconst (v := 1) dX0_dropOldest_25 (by decide) ?_
      refine g_isub dX0_dropOldest_26 ?_
      rw [nI_pred]
      refine g_aload_n dX0_dropOldest_27 (by rfl) (by first | exact isRf_r | exact isRf_n | exact isRf_o | assumption) ?_
      refine g_getf dX0_dropOldest_28 fX0_13 (by first | assumption | (repeat' (first | assumption | exact hu_same | exact Ne.symm (by assumption) | apply hu_n1))) (by rfl) ?_
      refine g_iload_n dX0_dropOldest_31 (by rfl) ?_
      refine g_aaN dX0_dropOldest_32 (by first | assumption | (repeat' (first | assumption | exact hu_same | exact Ne.symm (by assumption) | apply hu_n1))) rfl (by omega) (by omega) (dropF_b hlt) ?_
      refine g_asN dX0_dropOldest_33 (by first | assumption | (repeat' (first | assumption | exact hu_same | exact Ne.symm (by assumption) | apply hu_n1))) rfl (by first | assumption | (repeat' (first | assumption | exact hu_same | exact Ne.symm (by assumption) | apply hu_n1))) rfl (by omega) (by omega) ?_
      refine g_aload_n dX0_dropOldest_34 (by rfl) (by first | exact isRf_r | exact isRf_n | exact isRf_o | assumption) ?_
      refine g_getf dX0_dropOldest_35 fX0_13 (by first | assumption | (repeat' (first | assumption | exact hu_same | exact Ne.symm (by assumption) | apply hu_n1))) (by rfl) ?_
      refine g_iload_n dX0_dropOldest_38 (by rfl) ?_
      refine g_aload_n dX0_dropOldest_39 (by rfl) (by first | exact isRf_r | exact isRf_n | exact isRf_o | assumption) ?_
      refine g_asN dX0_dropOldest_40 (by first | assumption | (repeat' (first | assumption | exact hu_same | exact Ne.symm (by assumption) | apply hu_n1))) rfl (by first | assumption | (repeat' (first | assumption | exact hu_same | exact Ne.symm (by assumption) | apply hu_n1))) rfl (by omega) (by omega) ?_
      refine g_iinc (v := nI (m + 1 + 1)) (L1 := [(0, _), (1, _), (2, _)]) dX0_dropOldest_41 (by rfl) (nI_1 (m + 1)) (by decide) (by rfl) ?_
      refine g_goto (tgt := 2) dX0_dropOldest_44 (by decide) ?_
      refine g_pick [0, 1] rfl ?_
      exact ih hlt _ (by rw [e1, hu_hu, hu_hu, dropF_s hlt])
  exact loop2 0 (by omega) h (by rw [dropF_1, hu_id hst])

def hstC (n : Nat) (C : Nat → Nat → Nat) : Nat → Nat → Nat := if n < 4 then C else rotC C
def hstN (n : Nat) : Nat := if n < 4 then n + 1 else 4

set_option maxHeartbeats 4000000 in
set_option maxRecDepth 100000 in
theorem ct_X0_keepNoted (X : Cx) {h : Hp} {a sa n : Nat} {x : Int32} {C : Nat → Nat → Nat} {fs : Nat → List Value}  (hn : n ≤ 4) (hs : h a = some (ob 0 [.ref sa, .int (nI n)])) (hst : h sa = some (oR X 5 5 (stR C))) (hc : ∀ k, k < 5 → h (C k 0) = some (ob 1 (fs k))) : Ct X mX0_keepNoted 1 0 0 [.ref a, .int x] h (fun u h1 => u = some (.int x) ∧ ((x < 0 ∧ h1 = h) ∨ (¬ x < 0 ∧ h1 a = some (ob 0 [.ref sa, .int (nI (hstN n))]) ∧ h1 sa = some (oR X 5 5 (stR (hstC n C))) ∧ ∀ q, q ≠ a → q ≠ sa → h1 q = h q))) := by
  have n0 := ne_bo hs hst
  refine Ct.ofG vX0_keepNoted.1.2.2.1 (Nat.le_of_ble_eq_true rfl) ?_
  show G X RX0 cX0_keepNoted 2 (some .int) "keepNoted" (Rm 1 0 0) (Fm X (fun u h1 => u = some (.int x) ∧ ((x < 0 ∧ h1 = h) ∨ (¬ x < 0 ∧ h1 a = some (ob 0 [.ref sa, .int (nI (hstN n))]) ∧ h1 sa = some (oR X 5 5 (stR (hstC n C))) ∧ ∀ q, q ≠ a → q ≠ sa → h1 q = h q))) 0 0) 0 0 0 [(0, .ref a), (1, .int x)] [] h
  refine g_iload_n dX0_keepNoted_0 (by rfl) ?_
  refine g_if_lt (tgt := 26) dX0_keepNoted_1 (by decide) (fun c1 => ?_) (fun c1 => ?_)
  · skip
    have hx := c1
    refine g_iload_n dX0_keepNoted_26 (by rfl) ?_
    refine g_iret dX0_keepNoted_27 rfl (Nat.le_refl _) (Nat.le_refl _) ?_
    first
      | exact ⟨rfl, Or.inl ⟨hx, rfl⟩⟩
      | (refine ⟨rfl, Or.inr ⟨hx, ?_, ?_, fun q q1 q2 => hu_ne q1⟩⟩
         · unfold hstN
           rw [if_pos hn4]
           exact hu_same
         · unfold hstC
           rw [if_pos hn4, hu_ne (Ne.symm n0)]
           exact hst)
      | (refine ⟨rfl, Or.inr ⟨hx, ?_, ?_, fun q q1 q2 => ?_⟩⟩
         · unfold hstN
           rw [if_neg hn5]
           exact p1
         · unfold hstC
           rw [if_neg hn5]
           exact p2
         · rw [p3 q q1 q2, hu_ne q1])
  · skip
    have hx := c1
    refine g_aload_n dX0_keepNoted_4 (by rfl) (by first | exact isRf_r | exact isRf_n | exact isRf_o | assumption) ?_
    refine g_dup dX0_keepNoted_5 (by rfl) ?_
    refine g_getf dX0_keepNoted_6 fX0_18 (by first | assumption | (repeat' (first | assumption | exact hu_same | exact Ne.symm (by assumption) | apply hu_n1))) (by rfl) ?_
    refine g_iconst (v := 1) dX0_keepNoted_9 (by decide) ?_
    refine g_iadd dX0_keepNoted_10 ?_
    refine g_putf (ty := .int) dX0_keepNoted_11 fX0_18 (by decide +kernel) (by rfl) (by rfl) (by first | assumption | (repeat' (first | assumption | exact hu_same | exact Ne.symm (by assumption) | apply hu_n1))) (by exact Nat.le_of_ble_eq_true rfl) ?_
    rw [nI_1]
    refine g_aload_n dX0_keepNoted_14 (by rfl) (by first | exact isRf_r | exact isRf_n | exact isRf_o | assumption) ?_
    refine g_getf dX0_keepNoted_15 fX0_18 (by first | assumption | (repeat' (first | assumption | exact hu_same | exact Ne.symm (by assumption) | apply hu_n1))) (by rfl) ?_
    refine g_iconst (v := 4) dX0_keepNoted_18 (by decide) ?_
    refine g_icmp_le (tgt := 26) dX0_keepNoted_19 (by decide) (fun c2 => ?_) (fun c2 => ?_)
    · skip
      have hn4 : n < 4 := by
        have z := c_ge (a := n + 1) (b := 4) (by omega) (by omega) c2
        omega
      refine g_iload_n dX0_keepNoted_26 (by rfl) ?_
      refine g_iret dX0_keepNoted_27 rfl (Nat.le_refl _) (Nat.le_refl _) ?_
      first
        | exact ⟨rfl, Or.inl ⟨hx, rfl⟩⟩
        | (refine ⟨rfl, Or.inr ⟨hx, ?_, ?_, fun q q1 q2 => hu_ne q1⟩⟩
           · unfold hstN
             rw [if_pos hn4]
             exact hu_same
           · unfold hstC
             rw [if_pos hn4, hu_ne (Ne.symm n0)]
             exact hst)
        | (refine ⟨rfl, Or.inr ⟨hx, ?_, ?_, fun q q1 q2 => ?_⟩⟩
           · unfold hstN
             rw [if_neg hn5]
             exact p1
           · unfold hstC
             rw [if_neg hn5]
             exact p2
           · rw [p3 q q1 q2, hu_ne q1])
    · skip
      have hn4 : nI (n + 1) = 5 := by
        have z := c_nge (a := n + 1) (b := 4) (by omega) (by omega) c2
        have z2 : n = 4 := by omega
        subst z2
        rfl
      have hn5 : ¬ n < 4 := by
        have z := c_nge (a := n + 1) (b := 4) (by omega) (by omega) c2
        omega
      refine g_aload_n dX0_keepNoted_22 (by rfl) (by first | exact isRf_r | exact isRf_n | exact isRf_o | assumption) ?_
      refine g_cV0 dX0_keepNoted_23 lX0_30 vX0_dropOldest (ct_X0_dropOldest X (C := C) (fs := fs) (sa := sa) (by rw [hn4]; exact hu_same) (by rw [hu_ne (Ne.symm n0)]; exact hst) (fun k hk => by rw [hu_ne (ne_ob0 hs (hc k hk))]; exact hc k hk)) (by first | assumption | (repeat' (first | assumption | exact hu_same | exact Ne.symm (by assumption) | apply hu_n1))) rfl ⟨Nat.le_of_ble_eq_true rfl, Nat.le_of_ble_eq_true rfl⟩ (Nat.le_of_ble_eq_true rfl) ⟨Nat.le_of_ble_eq_true rfl, Nat.le_of_ble_eq_true rfl⟩ ?_
      rintro _ h2 ⟨rfl, p1, p2, p3⟩
      refine g_stk (st' := []) rfl ?_
      refine g_iload_n dX0_keepNoted_26 (by rfl) ?_
      refine g_iret dX0_keepNoted_27 rfl (Nat.le_refl _) (Nat.le_refl _) ?_
      first
        | exact ⟨rfl, Or.inl ⟨hx, rfl⟩⟩
        | (refine ⟨rfl, Or.inr ⟨hx, ?_, ?_, fun q q1 q2 => hu_ne q1⟩⟩
           · unfold hstN
             rw [if_pos hn4]
             exact hu_same
           · unfold hstC
             rw [if_pos hn4, hu_ne (Ne.symm n0)]
             exact hst)
        | (refine ⟨rfl, Or.inr ⟨hx, ?_, ?_, fun q q1 q2 => ?_⟩⟩
           · unfold hstN
             rw [if_neg hn5]
             exact p1
           · unfold hstC
             rw [if_neg hn5]
             exact p2
           · rw [p3 q q1 q2, hu_ne q1])

set_option maxHeartbeats 4000000 in
set_option maxRecDepth 100000 in
theorem ct_X0_noteState (X : Cx) {h : Hp} {a sa n : Nat} {C : Nat → Nat → Nat} {A : Nat → Nat} {r t : Nat → Int32}  (hn : n ≤ 4) (hs : h a = some (ob 0 [.ref sa, .int (nI n)])) (hst : h sa = some (oR X 5 5 (stR C))) (hI : InjA (C n)) (hD : Dj (C n) A) (hb : Rb r) (hC : HouseAt X h (C n) t) (hA : HouseAt X h A r) : Ct X mX0_noteState 4 0 0 [.ref a, .ref (A 0)] h (fun u h1 => u = none ∧ HouseAt X h1 (C n) r ∧ ∀ q, outA (C n) q → h1 q = h q) := by
  have hC0 := hC.1
  refine Ct.ofG vX0_noteState.1.2.2.1 (Nat.le_of_ble_eq_true rfl) ?_
  show G X RX0 cX0_noteState 3 none "noteState" (Rm 4 0 0) (Fm X (fun u h1 => u = none ∧ HouseAt X h1 (C n) r ∧ ∀ q, outA (C n) q → h1 q = h q) 0 0) 0 0 0 [(0, .ref a), (1, .ref (A 0))] [] h
  refine g_aload_n dX0_noteState_0 (by rfl) (by first | exact isRf_r | exact isRf_n | exact isRf_o | assumption) ?_
  refine g_aload_n dX0_noteState_1 (by rfl) (by first | exact isRf_r | exact isRf_n | exact isRf_o | assumption) ?_
  refine g_getf dX0_noteState_2 fX0_18 (by first | assumption | (repeat' (first | assumption | exact hu_same | exact Ne.symm (by assumption) | apply hu_n1))) (by rfl) ?_
  refine g_cV1x dX0_noteState_5 lX0_22 vX0_stateAt (ct_stateAt X hs hst (by omega)) (by first | assumption | (repeat' (first | assumption | exact hu_same | exact Ne.symm (by assumption) | apply hu_n1))) rfl ⟨Nat.le_of_ble_eq_true rfl, Nat.le_of_ble_eq_true rfl⟩ (Nat.le_of_ble_eq_true rfl) ⟨Nat.le_of_ble_eq_true rfl, Nat.le_of_ble_eq_true rfl⟩ ?_
  refine g_astore_n (L1 := [(0, _), (1, _), (2, _)]) dX0_noteState_8 (by first | exact isRf_r | exact isRf_n | exact isRf_o | assumption) (by decide) (by rfl) ?_
  refine g_aload_n dX0_noteState_9 (by rfl) (by first | exact isRf_r | exact isRf_n | exact isRf_o | assumption) ?_
  refine g_ifnull (tgt := 18) dX0_noteState_10 (by decide) (by first | exact isRf_r | exact isRf_n | exact isRf_o | assumption) (fun c1 => nomatch c1) (fun c1 => ?_)
  refine g_aload_n dX0_noteState_13 (by rfl) (by first | exact isRf_r | exact isRf_n | exact isRf_o | assumption) ?_
  refine g_aload_n dX0_noteState_14 (by rfl) (by first | exact isRf_r | exact isRf_n | exact isRf_o | assumption) ?_
  refine g_cV1 dX0_noteState_15 lX0_26 vX1_copyFrom (ct_X1_copyFrom X hI hD hb hC hA) (by first | assumption | (repeat' (first | assumption | exact hu_same | exact Ne.symm (by assumption) | apply hu_n1))) rfl ⟨Nat.le_of_ble_eq_true rfl, Nat.le_of_ble_eq_true rfl⟩ (Nat.le_of_ble_eq_true rfl) ⟨Nat.le_of_ble_eq_true rfl, Nat.le_of_ble_eq_true rfl⟩ ?_
  rintro _ h2 ⟨rfl, kH, kf⟩
  refine g_stk (st' := []) rfl ?_
  refine g_vret dX0_noteState_18 rfl (Nat.le_refl _) (Nat.le_refl _) ?_
  exact ⟨rfl, kH, kf⟩

set_option maxHeartbeats 4000000 in
set_option maxRecDepth 100000 in
theorem ct_X0_stepBack (X : Cx) {h : Hp} {a sa n : Nat} {C : Nat → Nat → Nat} {A : Nat → Nat} {r t : Nat → Int32}  (hn : n + 1 ≤ 4) (hs : h a = some (ob 0 [.ref sa, .int (nI (n + 1))])) (hst : h sa = some (oR X 5 5 (stR C))) (hI : InjA A) (hD : Dj A (C n)) (hb : Rb t) (hC : HouseAt X h (C n) t) (hA : HouseAt X h A r) (ho : outA A a) : Ct X mX0_stepBack 4 0 0 [.ref a, .ref (A 0)] h (fun u h1 => u = some (.int (nI n)) ∧ HouseAt X h1 A t ∧ h1 a = some (ob 0 [.ref sa, .int (nI n)]) ∧ ∀ q, outA A q → q ≠ a → h1 q = h q) := by
  have hA0 := hA.1
  refine Ct.ofG vX0_stepBack.1.2.2.1 (Nat.le_of_ble_eq_true rfl) ?_
  show G X RX0 cX0_stepBack 3 (some .int) "stepBack" (Rm 4 0 0) (Fm X (fun u h1 => u = some (.int (nI n)) ∧ HouseAt X h1 A t ∧ h1 a = some (ob 0 [.ref sa, .int (nI n)]) ∧ ∀ q, outA A q → q ≠ a → h1 q = h q) 0 0) 0 0 0 [(0, .ref a), (1, .ref (A 0))] [] h
  refine g_aload_n dX0_stepBack_0 (by rfl) (by first | exact isRf_r | exact isRf_n | exact isRf_o | assumption) ?_
  refine g_aload_n dX0_stepBack_1 (by rfl) (by first | exact isRf_r | exact isRf_n | exact isRf_o | assumption) ?_
  refine g_getf dX0_stepBack_2 fX0_18 (by first | assumption | (repeat' (first | assumption | exact hu_same | exact Ne.symm (by assumption) | apply hu_n1))) (by rfl) ?_
  refine g_iconst (v := 1) dX0_stepBack_5 (by decide) ?_
  refine g_isub dX0_stepBack_6 ?_
  rw [nI_pred]
  refine g_cV1x dX0_stepBack_7 lX0_22 vX0_stateAt (ct_stateAt X hs hst (by omega)) (by first | assumption | (repeat' (first | assumption | exact hu_same | exact Ne.symm (by assumption) | apply hu_n1))) rfl ⟨Nat.le_of_ble_eq_true rfl, Nat.le_of_ble_eq_true rfl⟩ (Nat.le_of_ble_eq_true rfl) ⟨Nat.le_of_ble_eq_true rfl, Nat.le_of_ble_eq_true rfl⟩ ?_
  refine g_astore_n (L1 := [(0, _), (1, _), (2, _)]) dX0_stepBack_10 (by first | exact isRf_r | exact isRf_n | exact isRf_o | assumption) (by decide) (by rfl) ?_
  refine g_aload_n dX0_stepBack_11 (by rfl) (by first | exact isRf_r | exact isRf_n | exact isRf_o | assumption) ?_
  refine g_ifnonnull (tgt := 18) dX0_stepBack_12 (by decide) (by first | exact isRf_r | exact isRf_n | exact isRf_o | assumption) (fun c1 => ?_) (fun c1 => nomatch c1)
  refine g_aload_n dX0_stepBack_18 (by rfl) (by first | exact isRf_r | exact isRf_n | exact isRf_o | assumption) ?_
  refine g_aload_n dX0_stepBack_19 (by rfl) (by first | exact isRf_r | exact isRf_n | exact isRf_o | assumption) ?_
  refine g_cV1 dX0_stepBack_20 lX0_26 vX1_copyFrom (ct_X1_copyFrom X hI hD hb hA hC) (by first | assumption | (repeat' (first | assumption | exact hu_same | exact Ne.symm (by assumption) | apply hu_n1))) rfl ⟨Nat.le_of_ble_eq_true rfl, Nat.le_of_ble_eq_true rfl⟩ (Nat.le_of_ble_eq_true rfl) ⟨Nat.le_of_ble_eq_true rfl, Nat.le_of_ble_eq_true rfl⟩ ?_
  rintro _ h2 ⟨rfl, kH, kf⟩
  refine g_stk (st' := []) rfl ?_
  have k0 := (kf a ho).trans hs
  refine g_aload_n dX0_stepBack_23 (by rfl) (by first | exact isRf_r | exact isRf_n | exact isRf_o | assumption) ?_
  refine g_dup dX0_stepBack_24 (by rfl) ?_
  refine g_getf dX0_stepBack_25 fX0_18 (by first | assumption | (repeat' (first | assumption | exact hu_same | exact Ne.symm (by assumption) | apply hu_n1))) (by rfl) ?_
  refine g_iconst (v := 1) dX0_stepBack_28 (by decide) ?_
  refine g_isub dX0_stepBack_29 ?_
  rw [nI_pred]
  refine g_putf (ty := .int) dX0_stepBack_30 fX0_18 (by decide +kernel) (by rfl) (by rfl) (by first | assumption | (repeat' (first | assumption | exact hu_same | exact Ne.symm (by assumption) | apply hu_n1))) (by exact Nat.le_of_ble_eq_true rfl) ?_
  refine g_aload_n dX0_stepBack_33 (by rfl) (by first | exact isRf_r | exact isRf_n | exact isRf_o | assumption) ?_
  refine g_getf dX0_stepBack_34 fX0_18 (by first | assumption | (repeat' (first | assumption | exact hu_same | exact Ne.symm (by assumption) | apply hu_n1))) (by rfl) ?_
  refine g_iret dX0_stepBack_37 rfl (Nat.le_refl _) (Nat.le_refl _) ?_
  refine ⟨rfl, kH.kept (fun i hi => hu_ne (Ne.symm (ho i hi))), hu_same, fun q q1 q2 => ?_⟩
  rw [hu_ne q2, kf q q1]

set_option maxHeartbeats 4000000 in
set_option maxRecDepth 100000 in
theorem ct_X0_stepBack0 (X : Cx) {h : Hp} {a sa b : Nat}  (hs : h a = some (ob 0 [.ref sa, .int 0])) : Ct X mX0_stepBack 4 0 0 [.ref a, .ref b] h (Ex (.int (-2)) h) := by
  refine Ct.ofG vX0_stepBack.1.2.2.1 (Nat.le_of_ble_eq_true rfl) ?_
  show G X RX0 cX0_stepBack 3 (some .int) "stepBack" (Rm 4 0 0) (Fm X (Ex (.int (-2)) h) 0 0) 0 0 0 [(0, .ref a), (1, .ref b)] [] h
  refine g_aload_n dX0_stepBack_0 (by rfl) (by first | exact isRf_r | exact isRf_n | exact isRf_o | assumption) ?_
  refine g_aload_n dX0_stepBack_1 (by rfl) (by first | exact isRf_r | exact isRf_n | exact isRf_o | assumption) ?_
  refine g_getf dX0_stepBack_2 fX0_18 (by first | assumption | (repeat' (first | assumption | exact hu_same | exact Ne.symm (by assumption) | apply hu_n1))) (by rfl) ?_
  refine g_iconst (v := 1) dX0_stepBack_5 (by decide) ?_
  refine g_isub dX0_stepBack_6 ?_
  refine g_cV1x dX0_stepBack_7 lX0_22 vX0_stateAt (ct_stateAtN X (by decide)) (by first | assumption | (repeat' (first | assumption | exact hu_same | exact Ne.symm (by assumption) | apply hu_n1))) rfl ⟨Nat.le_of_ble_eq_true rfl, Nat.le_of_ble_eq_true rfl⟩ (Nat.le_of_ble_eq_true rfl) ⟨Nat.le_of_ble_eq_true rfl, Nat.le_of_ble_eq_true rfl⟩ ?_
  refine g_astore_n (L1 := [(0, _), (1, _), (2, _)]) dX0_stepBack_10 (by first | exact isRf_r | exact isRf_n | exact isRf_o | assumption) (by decide) (by rfl) ?_
  refine g_aload_n dX0_stepBack_11 (by rfl) (by first | exact isRf_r | exact isRf_n | exact isRf_o | assumption) ?_
  refine g_ifnonnull (tgt := 18) dX0_stepBack_12 (by decide) (by first | exact isRf_r | exact isRf_n | exact isRf_o | assumption) (fun c1 => absurd rfl c1) (fun c1 => ?_)
  refine g_bipush (v := (-2)) dX0_stepBack_15 (by decide) ?_
  refine g_iret dX0_stepBack_17 rfl (Nat.le_refl _) (Nat.le_refl _) ?_
  exact ⟨rfl, rfl⟩
