def cntN (p : Nat → Bool) : Nat → Nat
  | 0 => 0
  | k + 1 => cond (p k) (cntN p k + 1) (cntN p k)
theorem cnt_f {p : Nat → Bool} {j : Nat} (h : p j = false) : cntN p (j + 1) = cntN p j := by
  show cond (p j) _ _ = _
  rw [h]
  rfl
theorem cnt_t {p : Nat → Bool} {j : Nat} (h : p j = true) : nI (cntN p (j + 1)) = nI (cntN p j) + 1 := by
  show nI (cond (p j) _ _) = _
  rw [h, nI_1]
  rfl
theorem cnt_le {p : Nat → Bool} : ∀ j, cntN p j ≤ j
  | 0 => Nat.le_refl 0
  | k + 1 => by
    show cond (p k) _ _ ≤ _
    have := cnt_le (p := p) k
    cases p k
    · exact Nat.le_succ_of_le this
    · exact Nat.succ_le_succ this
theorem cnt_ext {p q : Nat → Bool} : ∀ {n : Nat}, (∀ j, j < n → p j = q j) → cntN p n = cntN q n
  | 0, _ => rfl
  | k + 1, h => by
    show cond (p k) _ _ = cond (q k) _ _
    rw [h k (by omega), cnt_ext (fun j hj => h j (by omega))]
def rackB (r : Nat → Int32) (k : Int32) (l : Nat) : Bool := hangs r l && decide (ltx r l 0 = k)
def rackN (r : Nat → Int32) (k : Int32) : Nat := cntN (rackB r k) (cl (r 8))
def unsN (r : Nat → Int32) : Nat := cntN (fun o => decide (od r o 4 = 0)) (cl (r 9))

set_option maxHeartbeats 4000000 in
set_option maxRecDepth 100000 in
theorem ct_X1_lotsOnRack (X : Cx) {h : Hp} {A : Nat → Nat} {r : Nat → Int32} {k : Int32} {nl : Nat}  (hnl : nl ≤ 20) (e8 : r 8 = nI nl) (hA : HouseAt X h A r) : Ct X mX1_lotsOnRack 1 0 0 [.ref (A 0), .int k] h (Ex (.int (nI (cntN (rackB r k) nl))) h) := by
  have hA0 := hA
  obtain ⟨a0, a1, a2, a3, a4, a5, a6, av, al, ao⟩ := hA0
  unfold hobC at a0
  rw [e8] at a0
  refine Ct.ofG vX1_lotsOnRack.1.2.2.1 (Nat.le_of_ble_eq_true rfl) ?_
  show G X RX1 cX1_lotsOnRack 5 (some .int) "lotsOnRack" (Rm 1 0 0) (Fm X (Ex (.int (nI (cntN (rackB r k) nl))) h) 0 0) 0 0 0 [(0, .ref (A 0)), (1, .int k)] [] h
  refine g_iconst (v := 0) dX1_lotsOnRack_0 (by decide) ?_
  refine g_istore_n (L1 := [(0, _), (1, _), (2, _)]) dX1_lotsOnRack_1 (by decide) (by rfl) ?_
  refine g_iconst (v := 0) dX1_lotsOnRack_2 (by decide) ?_
  refine g_istore_n (L1 := [(0, _), (1, _), (2, _), (3, _)]) dX1_lotsOnRack_3 (by decide) (by rfl) ?_
  have loop4 : ∀ j, j ≤ nl → ∀ acc, acc = nI (cntN (rackB r k) j) → G X RX1 cX1_lotsOnRack 5 (some .int) "lotsOnRack" (Rm 1 0 0) (Fm X (Ex (.int (nI (cntN (rackB r k) nl))) h) 0 0) 0 0 4 [(0, .ref (A 0)), (1, .int k), (2, .int acc), (3, .int (nI j))] [] h := by
    refine up_ind nl (fun j hj ih => ?_)
    intro acc eacc
    refine g_iload_n dX1_lotsOnRack_4 (by rfl) ?_
    refine g_aload_n dX1_lotsOnRack_5 (by rfl) (by first | exact isRf_r | exact isRf_n | exact isRf_o | assumption) ?_
    refine g_getf dX1_lotsOnRack_6 fX1_50 (by first | assumption | (repeat' (first | assumption | exact hu_same | exact Ne.symm (by assumption) | apply hu_n1))) (by rfl) ?_
    refine g_icmp_ge (tgt := 50) dX1_lotsOnRack_9 (by decide) (fun c1 => ?_) (fun c1 => ?_)
    · skip
      have hje : j = nl := Nat.le_antisymm hj (c_ge (a := nl) (by omega) (by omega) c1)
      subst hje
      refine g_iload_n dX1_lotsOnRack_50 (by rfl) ?_
      refine g_iret dX1_lotsOnRack_51 rfl (Nat.le_refl _) (Nat.le_refl _) ?_
      exact ⟨by rw [eacc], rfl⟩
    · skip
      have hlt : j < nl := c_nge (a := nl) (b := j) (by omega) (by omega) c1
      refine g_aload_n dX1_lotsOnRack_12 (by rfl) (by first | exact isRf_r | exact isRf_n | exact isRf_o | assumption) ?_
      refine g_iload_n dX1_lotsOnRack_13 (by rfl) ?_
      refine g_cV1x dX1_lotsOnRack_14 lX1_118 vX1_findLot (ct_findLot X (by omega) a0 a2 hlt (laR_j (by omega))) (by first | assumption | (repeat' (first | assumption | exact hu_same | exact Ne.symm (by assumption) | apply hu_n1))) rfl ⟨Nat.le_of_ble_eq_true rfl, Nat.le_of_ble_eq_true rfl⟩ (Nat.le_of_ble_eq_true rfl) ⟨Nat.le_of_ble_eq_true rfl, Nat.le_of_ble_eq_true rfl⟩ ?_
      obtain ⟨l1, l2, l3⟩ := al j (by omega)
      unfold lotC at l1
      refine g_astore (L1 := [(0, _), (1, _), (2, _), (3, _), (4, _)]) dX1_lotsOnRack_17 (by first | exact isRf_r | exact isRf_n | exact isRf_o | assumption) (by decide) (by rfl) ?_
      refine g_aload dX1_lotsOnRack_19 (by rfl) (by first | exact isRf_r | exact isRf_n | exact isRf_o | assumption) ?_
      refine g_ifnull (tgt := 44) dX1_lotsOnRack_21 (by decide) (by first | exact isRf_r | exact isRf_n | exact isRf_o | assumption) (fun c2 => nomatch c2) (fun c2 => ?_)
      refine g_aload dX1_lotsOnRack_24 (by rfl) (by first | exact isRf_r | exact isRf_n | exact isRf_o | assumption) ?_
      refine g_getf dX1_lotsOnRack_26 fX1_132 (by first | assumption | (repeat' (first | assumption | exact hu_same | exact Ne.symm (by assumption) | apply hu_n1))) (by rfl) ?_
      refine g_if_eq (tgt := 44) dX1_lotsOnRack_29 (by decide) (fun c3 => ?_) (fun c3 => ?_)
      · skip
        have hp : rackB r k j = false := by simp [rackB, hangs, c3]
        refine g_iinc (v := nI (j + 1)) (L1 := [(0, _), (1, _), (2, _), (3, _), (4, _)]) dX1_lotsOnRack_44 (by rfl) (nI_1 j) (by decide) (by rfl) ?_
        refine g_goto (tgt := 4) dX1_lotsOnRack_47 (by decide) ?_
        refine g_pick [0, 1, 2, 3] rfl ?_
        refine ih hlt _ ?_
        first
          | rw [eacc, cnt_f hp]
          | (rw [cnt_t hp, eacc]; rfl)
      · skip
        have hh := c3
        refine g_aload dX1_lotsOnRack_32 (by rfl) (by first | exact isRf_r | exact isRf_n | exact isRf_o | assumption) ?_
        refine g_getf dX1_lotsOnRack_34 fX1_122 (by first | assumption | (repeat' (first | assumption | exact hu_same | exact Ne.symm (by assumption) | apply hu_n1))) (by rfl) ?_
        refine g_iload_n dX1_lotsOnRack_37 (by rfl) ?_
        refine g_icmp_ne (tgt := 44) dX1_lotsOnRack_38 (by decide) (fun c4 => ?_) (fun c4 => ?_)
        · skip
          have hp : rackB r k j = false := by simp [rackB, c4]
          refine g_iinc (v := nI (j + 1)) (L1 := [(0, _), (1, _), (2, _), (3, _), (4, _)]) dX1_lotsOnRack_44 (by rfl) (nI_1 j) (by decide) (by rfl) ?_
          refine g_goto (tgt := 4) dX1_lotsOnRack_47 (by decide) ?_
          refine g_pick [0, 1, 2, 3] rfl ?_
          refine ih hlt _ ?_
          first
            | rw [eacc, cnt_f hp]
            | (rw [cnt_t hp, eacc]; rfl)
        · skip
          have hp : rackB r k j = true := by simp [rackB, hangs, hh, c4]
          refine g_iinc (L1 := [(0, _), (1, _), (2, _), (3, _), (4, _)]) dX1_lotsOnRack_41 (by rfl) (by rfl) (by decide) (by rfl) ?_
          refine g_iinc (v := nI (j + 1)) (L1 := [(0, _), (1, _), (2, _), (3, _), (4, _)]) dX1_lotsOnRack_44 (by rfl) (nI_1 j) (by decide) (by rfl) ?_
          refine g_goto (tgt := 4) dX1_lotsOnRack_47 (by decide) ?_
          refine g_pick [0, 1, 2, 3] rfl ?_
          refine ih hlt _ ?_
          first
            | rw [eacc, cnt_f hp]
            | (rw [cnt_t hp, eacc]; rfl)
  exact loop4 0 (by omega) _ rfl

set_option maxHeartbeats 4000000 in
set_option maxRecDepth 100000 in
theorem ct_X1_openOrders (X : Cx) {h : Hp} {A : Nat → Nat} {r : Nat → Int32} {no : Nat}  (hno : no ≤ 60) (e9 : r 9 = nI no) (hA : HouseAt X h A r) : Ct X mX1_openOrders 1 0 0 [.ref (A 0)] h (Ex (.int (nI (cntN (fun o => decide (od r o 4 = 0)) no))) h) := by
  have hA0 := hA
  obtain ⟨a0, a1, a2, a3, a4, a5, a6, av, al, ao⟩ := hA0
  unfold hobC at a0
  rw [e9] at a0
  refine Ct.ofG vX1_openOrders.1.2.2.1 (Nat.le_of_ble_eq_true rfl) ?_
  show G X RX1 cX1_openOrders 4 (some .int) "openOrders" (Rm 1 0 0) (Fm X (Ex (.int (nI (cntN (fun o => decide (od r o 4 = 0)) no))) h) 0 0) 0 0 0 [(0, .ref (A 0))] [] h
  refine g_iconst (v := 0) dX1_openOrders_0 (by decide) ?_
  refine g_istore_n (L1 := [(0, _), (1, _)]) dX1_openOrders_1 (by decide) (by rfl) ?_
  refine g_iconst (v := 0) dX1_openOrders_2 (by decide) ?_
  refine g_istore_n (L1 := [(0, _), (1, _), (2, _)]) dX1_openOrders_3 (by decide) (by rfl) ?_
  have loop4 : ∀ j, j ≤ no → ∀ acc, acc = nI (cntN (fun o => decide (od r o 4 = 0)) j) → G X RX1 cX1_openOrders 4 (some .int) "openOrders" (Rm 1 0 0) (Fm X (Ex (.int (nI (cntN (fun o => decide (od r o 4 = 0)) no))) h) 0 0) 0 0 4 [(0, .ref (A 0)), (1, .int acc), (2, .int (nI j))] [] h := by
    refine up_ind no (fun j hj ih => ?_)
    intro acc eacc
    refine g_iload_n dX1_openOrders_4 (by rfl) ?_
    refine g_aload_n dX1_openOrders_5 (by rfl) (by first | exact isRf_r | exact isRf_n | exact isRf_o | assumption) ?_
    refine g_getf dX1_openOrders_6 fX1_53 (by first | assumption | (repeat' (first | assumption | exact hu_same | exact Ne.symm (by assumption) | apply hu_n1))) (by rfl) ?_
    refine g_icmp_ge (tgt := 38) dX1_openOrders_9 (by decide) (fun c1 => ?_) (fun c1 => ?_)
    · skip
      have hje : j = no := Nat.le_antisymm hj (c_ge (a := no) (by omega) (by omega) c1)
      subst hje
      refine g_iload_n dX1_openOrders_38 (by rfl) ?_
      refine g_iret dX1_openOrders_39 rfl (Nat.le_refl _) (Nat.le_refl _) ?_
      exact ⟨by rw [eacc], rfl⟩
    · skip
      have hlt : j < no := c_nge (a := no) (b := j) (by omega) (by omega) c1
      refine g_aload_n dX1_openOrders_12 (by rfl) (by first | exact isRf_r | exact isRf_n | exact isRf_o | assumption) ?_
      refine g_iload_n dX1_openOrders_13 (by rfl) ?_
      refine g_cV1x dX1_openOrders_14 lX1_161 vX1_findOrder (ct_findOrder X (by omega) a0 a3 hlt (oaR_j (by omega))) (by first | assumption | (repeat' (first | assumption | exact hu_same | exact Ne.symm (by assumption) | apply hu_n1))) rfl ⟨Nat.le_of_ble_eq_true rfl, Nat.le_of_ble_eq_true rfl⟩ (Nat.le_of_ble_eq_true rfl) ⟨Nat.le_of_ble_eq_true rfl, Nat.le_of_ble_eq_true rfl⟩ ?_
      obtain ⟨o1, o2⟩ := ao j (by omega)
      unfold ordC at o1
      refine g_astore_n (L1 := [(0, _), (1, _), (2, _), (3, _)]) dX1_openOrders_17 (by first | exact isRf_r | exact isRf_n | exact isRf_o | assumption) (by decide) (by rfl) ?_
      refine g_aload_n dX1_openOrders_18 (by rfl) (by first | exact isRf_r | exact isRf_n | exact isRf_o | assumption) ?_
      refine g_ifnull (tgt := 32) dX1_openOrders_19 (by decide) (by first | exact isRf_r | exact isRf_n | exact isRf_o | assumption) (fun c2 => nomatch c2) (fun c2 => ?_)
      refine g_aload_n dX1_openOrders_22 (by rfl) (by first | exact isRf_r | exact isRf_n | exact isRf_o | assumption) ?_
      refine g_getf dX1_openOrders_23 fX1_169 (by first | assumption | (repeat' (first | assumption | exact hu_same | exact Ne.symm (by assumption) | apply hu_n1))) (by rfl) ?_
      refine g_if_ne (tgt := 32) dX1_openOrders_26 (by decide) (fun c3 => ?_) (fun c3 => ?_)
      · skip
        have hp : (fun o => decide (od r o 4 = 0)) j = false := by simp [c3]
        refine g_iinc (v := nI (j + 1)) (L1 := [(0, _), (1, _), (2, _), (3, _)]) dX1_openOrders_32 (by rfl) (nI_1 j) (by decide) (by rfl) ?_
        refine g_goto (tgt := 4) dX1_openOrders_35 (by decide) ?_
        refine g_pick [0, 1, 2] rfl ?_
        refine ih hlt _ ?_
        first
          | rw [eacc, cnt_f hp]
          | (rw [cnt_t hp, eacc]; rfl)
      · skip
        have hp : (fun o => decide (od r o 4 = 0)) j = true := by simp [c3]
        refine g_iinc (L1 := [(0, _), (1, _), (2, _), (3, _)]) dX1_openOrders_29 (by rfl) (by rfl) (by decide) (by rfl) ?_
        refine g_iinc (v := nI (j + 1)) (L1 := [(0, _), (1, _), (2, _), (3, _)]) dX1_openOrders_32 (by rfl) (nI_1 j) (by decide) (by rfl) ?_
        refine g_goto (tgt := 4) dX1_openOrders_35 (by decide) ?_
        refine g_pick [0, 1, 2] rfl ?_
        refine ih hlt _ ?_
        first
          | rw [eacc, cnt_f hp]
          | (rw [cnt_t hp, eacc]; rfl)
  exact loop4 0 (by omega) _ rfl

noncomputable def fitB (x o r : Nat → Int32) : Bool := @decide (fit x o r) (Classical.propDecidable _)
theorem fitB_i {x o r : Nat → Int32} : fitB x o r = true ↔ fit x o r := by
  unfold fitB
  exact @decide_eq_true_iff _ (Classical.propDecidable _)
theorem LOk.pos {x : Nat → Int32} (k : LOk x) : 0 < (x 1).toInt := by
  obtain ⟨-, k1, -⟩ := k
  omega

set_option maxHeartbeats 4000000 in
set_option maxRecDepth 100000 in
theorem ct_X1_lotsThatFit (X : Cx) {h : Hp} {A : Nat → Nat} {r x : Nat → Int32} {nl a sa : Nat}  (hnl : nl ≤ 20) (e8 : r 8 = nI nl) (hlok : ∀ l, l < nl → LOk (ltx r l)) (hA : HouseAt X h A r) (hx : OrdAt X h a sa x) : Ct X mX1_lotsThatFit 3 0 0 [.ref (A 0), .ref a] h (Ex (.int (nI (cntN (fun l => !sold r l && fitB (ltx r l) x r) nl))) h) := by
  have hA0 := hA
  obtain ⟨a0, a1, a2, a3, a4, a5, a6, av, al, ao⟩ := hA0
  unfold hobC at a0
  rw [e8] at a0
  obtain ⟨o1, o2⟩ := id hx
  unfold ordC at o1
  refine Ct.ofG vX1_lotsThatFit.1.2.2.1 (Nat.le_of_ble_eq_true rfl) ?_
  show G X RX1 cX1_lotsThatFit 5 (some .int) "lotsThatFit" (Rm 3 0 0) (Fm X (Ex (.int (nI (cntN (fun l => !sold r l && fitB (ltx r l) x r) nl))) h) 0 0) 0 0 0 [(0, .ref (A 0)), (1, .ref a)] [] h
  refine g_iconst (v := 0) dX1_lotsThatFit_0 (by decide) ?_
  refine g_istore_n (L1 := [(0, _), (1, _), (2, _)]) dX1_lotsThatFit_1 (by decide) (by rfl) ?_
  refine g_iconst (v := 0) dX1_lotsThatFit_2 (by decide) ?_
  refine g_istore_n (L1 := [(0, _), (1, _), (2, _), (3, _)]) dX1_lotsThatFit_3 (by decide) (by rfl) ?_
  have loop4 : ∀ j, j ≤ nl → ∀ acc, acc = nI (cntN (fun l => !sold r l && fitB (ltx r l) x r) j) → G X RX1 cX1_lotsThatFit 5 (some .int) "lotsThatFit" (Rm 3 0 0) (Fm X (Ex (.int (nI (cntN (fun l => !sold r l && fitB (ltx r l) x r) nl))) h) 0 0) 0 0 4 [(0, .ref (A 0)), (1, .ref a), (2, .int acc), (3, .int (nI j))] [] h := by
    refine up_ind nl (fun j hj ih => ?_)
    intro acc eacc
    refine g_iload_n dX1_lotsThatFit_4 (by rfl) ?_
    refine g_aload_n dX1_lotsThatFit_5 (by rfl) (by first | exact isRf_r | exact isRf_n | exact isRf_o | assumption) ?_
    refine g_getf dX1_lotsThatFit_6 fX1_50 (by first | assumption | (repeat' (first | assumption | exact hu_same | exact Ne.symm (by assumption) | apply hu_n1))) (by rfl) ?_
    refine g_icmp_ge (tgt := 54) dX1_lotsThatFit_9 (by decide) (fun c1 => ?_) (fun c1 => ?_)
    · skip
      have hje : j = nl := Nat.le_antisymm hj (c_ge (a := nl) (by omega) (by omega) c1)
      subst hje
      refine g_iload_n dX1_lotsThatFit_54 (by rfl) ?_
      refine g_iret dX1_lotsThatFit_55 rfl (Nat.le_refl _) (Nat.le_refl _) ?_
      exact ⟨by rw [eacc], rfl⟩
    · skip
      have hlt : j < nl := c_nge (a := nl) (b := j) (by omega) (by omega) c1
      refine g_aload_n dX1_lotsThatFit_12 (by rfl) (by first | exact isRf_r | exact isRf_n | exact isRf_o | assumption) ?_
      refine g_iload_n dX1_lotsThatFit_13 (by rfl) ?_
      refine g_cV1x dX1_lotsThatFit_14 lX1_118 vX1_findLot (ct_findLot X (by omega) a0 a2 hlt (laR_j (by omega))) (by first | assumption | (repeat' (first | assumption | exact hu_same | exact Ne.symm (by assumption) | apply hu_n1))) rfl ⟨Nat.le_of_ble_eq_true rfl, Nat.le_of_ble_eq_true rfl⟩ (Nat.le_of_ble_eq_true rfl) ⟨Nat.le_of_ble_eq_true rfl, Nat.le_of_ble_eq_true rfl⟩ ?_
      obtain ⟨l1, l2, l3⟩ := al j (by omega)
      unfold lotC at l1
      refine g_astore (L1 := [(0, _), (1, _), (2, _), (3, _), (4, _)]) dX1_lotsThatFit_17 (by first | exact isRf_r | exact isRf_n | exact isRf_o | assumption) (by decide) (by rfl) ?_
      refine g_aload dX1_lotsThatFit_19 (by rfl) (by first | exact isRf_r | exact isRf_n | exact isRf_o | assumption) ?_
      refine g_ifnull (tgt := 48) dX1_lotsThatFit_21 (by decide) (by first | exact isRf_r | exact isRf_n | exact isRf_o | assumption) (fun c2 => nomatch c2) (fun c2 => ?_)
      refine g_aload dX1_lotsThatFit_24 (by rfl) (by first | exact isRf_r | exact isRf_n | exact isRf_o | assumption) ?_
      refine g_cV0x dX1_lotsThatFit_26 lX1_128 vX2_isSold (ct_X2_isSold X (al j (by omega))) (by first | assumption | (repeat' (first | assumption | exact hu_same | exact Ne.symm (by assumption) | apply hu_n1))) rfl ⟨Nat.le_of_ble_eq_true rfl, Nat.le_of_ble_eq_true rfl⟩ (Nat.le_of_ble_eq_true rfl) ⟨Nat.le_of_ble_eq_true rfl, Nat.le_of_ble_eq_true rfl⟩ ?_
      refine g_if_ne (tgt := 48) dX1_lotsThatFit_29 (by decide) (fun c3 => ?_) (fun c3 => ?_)
      · skip
        have zz := bI_d1 _ c3
        have hp : (fun l => !sold r l && fitB (ltx r l) x r) j = false := by simp [sold, zz]
        refine g_iinc (v := nI (j + 1)) (L1 := [(0, _), (1, _), (2, _), (3, _), (4, _)]) dX1_lotsThatFit_48 (by rfl) (nI_1 j) (by decide) (by rfl) ?_
        refine g_goto (tgt := 4) dX1_lotsThatFit_51 (by decide) ?_
        refine g_pick [0, 1, 2, 3] rfl ?_
        refine ih hlt _ ?_
        first
          | rw [eacc, cnt_f hp]
          | (rw [cnt_t hp, eacc]; rfl)
      · skip
        have hs := bI_d0 _ c3
        have hs2 : ltx r j 13 = 0 := Classical.byContradiction (fun q => hs q)
        refine g_aload_n dX1_lotsThatFit_32 (by rfl) (by first | exact isRf_r | exact isRf_n | exact isRf_o | assumption) ?_
        refine g_aload dX1_lotsThatFit_33 (by rfl) (by first | exact isRf_r | exact isRf_n | exact isRf_o | assumption) ?_
        refine g_aload_n dX1_lotsThatFit_35 (by rfl) (by first | exact isRf_r | exact isRf_n | exact isRf_o | assumption) ?_
        refine g_getf dX1_lotsThatFit_36 fX1_39 (by first | assumption | (repeat' (first | assumption | exact hu_same | exact Ne.symm (by assumption) | apply hu_n1))) (by rfl) ?_
        refine g_cV2x dX1_lotsThatFit_39 lX1_172 vX3_isFittedBy (ct_X3_isFittedBy X fitB_i (hlok j hlt).pos hx (al j (by omega)) a6) (by first | assumption | (repeat' (first | assumption | exact hu_same | exact Ne.symm (by assumption) | apply hu_n1))) rfl ⟨Nat.le_of_ble_eq_true rfl, Nat.le_of_ble_eq_true rfl⟩ (Nat.le_of_ble_eq_true rfl) ⟨Nat.le_of_ble_eq_true rfl, Nat.le_of_ble_eq_true rfl⟩ ?_
        refine g_if_eq (tgt := 48) dX1_lotsThatFit_42 (by decide) (fun c4 => ?_) (fun c4 => ?_)
        · skip
          have hp : (fun l => !sold r l && fitB (ltx r l) x r) j = false := by simp [bI_0 c4]
          refine g_iinc (v := nI (j + 1)) (L1 := [(0, _), (1, _), (2, _), (3, _), (4, _)]) dX1_lotsThatFit_48 (by rfl) (nI_1 j) (by decide) (by rfl) ?_
          refine g_goto (tgt := 4) dX1_lotsThatFit_51 (by decide) ?_
          refine g_pick [0, 1, 2, 3] rfl ?_
          refine ih hlt _ ?_
          first
            | rw [eacc, cnt_f hp]
            | (rw [cnt_t hp, eacc]; rfl)
        · skip
          have hp : (fun l => !sold r l && fitB (ltx r l) x r) j = true := by simp [sold, hs2, bI_1 c4]
          refine g_iinc (L1 := [(0, _), (1, _), (2, _), (3, _), (4, _)]) dX1_lotsThatFit_45 (by rfl) (by rfl) (by decide) (by rfl) ?_
          refine g_iinc (v := nI (j + 1)) (L1 := [(0, _), (1, _), (2, _), (3, _), (4, _)]) dX1_lotsThatFit_48 (by rfl) (nI_1 j) (by decide) (by rfl) ?_
          refine g_goto (tgt := 4) dX1_lotsThatFit_51 (by decide) ?_
          refine g_pick [0, 1, 2, 3] rfl ?_
          refine ih hlt _ ?_
          first
            | rw [eacc, cnt_f hp]
            | (rw [cnt_t hp, eacc]; rfl)
  exact loop4 0 (by omega) _ rfl

/-- the lowest of the nearest lots among the first ones -/
def nearP (r x : Nat → Int32) : Nat → Int32 × Int32
  | 0 => (-4, 0)
  | k + 1 => cond (!sold r k && (decide ((nearP r x k).1 < 0) || decide (sumI (fun d => dist (shF (ltx r k) d) (x d)) 4 < (nearP r x k).2))) (nI k, sumI (fun d => dist (shF (ltx r k) d) (x d)) 4) (nearP r x k)
theorem near_t {r x : Nat → Int32} {k : Nat} (h : (!sold r k && (decide ((nearP r x k).1 < 0) || decide (sumI (fun d => dist (shF (ltx r k) d) (x d)) 4 < (nearP r x k).2))) = true) : nearP r x (k + 1) = (nI k, sumI (fun d => dist (shF (ltx r k) d) (x d)) 4) := by
  show cond _ _ _ = _
  rw [h]
  rfl
theorem near_f {r x : Nat → Int32} {k : Nat} (h : (!sold r k && (decide ((nearP r x k).1 < 0) || decide (sumI (fun d => dist (shF (ltx r k) d) (x d)) 4 < (nearP r x k).2))) = false) : nearP r x (k + 1) = nearP r x k := by
  show cond _ _ _ = _
  rw [h]
  rfl
/-- sums over the first ones of a kind -/
def sumP (p : Nat → Bool) (g : Nat → Int32) : Nat → Int32
  | 0 => 0
  | k + 1 => cond (p k) (sumP p g k + g k) (sumP p g k)
theorem sumI_f {p : Nat → Bool} {g : Nat → Int32} {j : Nat} (h : p j = false) : sumP p g (j + 1) = sumP p g j := by
  show cond (p j) _ _ = _
  rw [h]
  rfl
theorem sumI_t {p : Nat → Bool} {g : Nat → Int32} {j : Nat} (h : p j = true) : sumP p g (j + 1) = sumP p g j + g j := by
  show cond (p j) _ _ = _
  rw [h]
  rfl

set_option maxHeartbeats 4000000 in
set_option maxRecDepth 100000 in
theorem ct_X1_nearestLot (X : Cx) {h : Hp} {A : Nat → Nat} {r x : Nat → Int32} {nl a sa : Nat}  (hnl : nl ≤ 20) (e8 : r 8 = nI nl) (hlok : ∀ l, l < nl → LOk (ltx r l)) (hA : HouseAt X h A r) (hx : OrdAt X h a sa x) : Ct X mX1_nearestLot 3 0 0 [.ref (A 0), .ref a] h (Ex (.int (nearP r x nl).1) h) := by
  have hA0 := hA
  obtain ⟨a0, a1, a2, a3, a4, a5, a6, av, al, ao⟩ := hA0
  unfold hobC at a0
  rw [e8] at a0
  obtain ⟨o1, o2⟩ := id hx
  unfold ordC at o1
  refine Ct.ofG vX1_nearestLot.1.2.2.1 (Nat.le_of_ble_eq_true rfl) ?_
  show G X RX1 cX1_nearestLot 7 (some .int) "nearestLot" (Rm 3 0 0) (Fm X (Ex (.int (nearP r x nl).1) h) 0 0) 0 0 0 [(0, .ref (A 0)), (1, .ref a)] [] h
  refine g_bipush (v := (-4)) dX1_nearestLot_0 (by decide) ?_
  refine g_istore_n (L1 := [(0, _), (1, _), (2, _)]) dX1_nearestLot_2 (by decide) (by rfl) ?_
  refine g_iconst (v := 0) dX1_nearestLot_3 (by decide) ?_
  refine g_istore_n (L1 := [(0, _), (1, _), (2, _), (3, _)]) dX1_nearestLot_4 (by decide) (by rfl) ?_
  refine g_iconst (v := 0) dX1_nearestLot_5 (by decide) ?_
  refine g_istore (L1 := [(0, _), (1, _), (2, _), (3, _), (4, _)]) dX1_nearestLot_6 (by decide) (by rfl) ?_
  have loop8 : ∀ j, j ≤ nl → ∀ nb nd, (nb, nd) = nearP r x j → G X RX1 cX1_nearestLot 7 (some .int) "nearestLot" (Rm 3 0 0) (Fm X (Ex (.int (nearP r x nl).1) h) 0 0) 0 0 8 [(0, .ref (A 0)), (1, .ref a), (2, .int nb), (3, .int nd), (4, .int (nI j))] [] h := by
    refine up_ind nl (fun j hj ih => ?_)
    intro nb nd enn
    have en1 : (nearP r x j).1 = nb := by rw [← enn]
    have en2 : (nearP r x j).2 = nd := by rw [← enn]
    refine g_iload dX1_nearestLot_8 (by rfl) ?_
    refine g_aload_n dX1_nearestLot_10 (by rfl) (by first | exact isRf_r | exact isRf_n | exact isRf_o | assumption) ?_
    refine g_getf dX1_nearestLot_11 fX1_50 (by first | assumption | (repeat' (first | assumption | exact hu_same | exact Ne.symm (by assumption) | apply hu_n1))) (by rfl) ?_
    refine g_icmp_ge (tgt := 71) dX1_nearestLot_14 (by decide) (fun c1 => ?_) (fun c1 => ?_)
    · skip
      have hje : j = nl := Nat.le_antisymm hj (c_ge (a := nl) (by omega) (by omega) c1)
      subst hje
      refine g_iload_n dX1_nearestLot_71 (by rfl) ?_
      refine g_iret dX1_nearestLot_72 rfl (Nat.le_refl _) (Nat.le_refl _) ?_
      exact ⟨by rw [en1], rfl⟩
    · skip
      have hlt : j < nl := c_nge (a := nl) (b := j) (by omega) (by omega) c1
      refine g_aload_n dX1_nearestLot_17 (by rfl) (by first | exact isRf_r | exact isRf_n | exact isRf_o | assumption) ?_
      refine g_iload dX1_nearestLot_18 (by rfl) ?_
      refine g_cV1x dX1_nearestLot_20 lX1_118 vX1_findLot (ct_findLot X (by omega) a0 a2 hlt (laR_j (by omega))) (by first | assumption | (repeat' (first | assumption | exact hu_same | exact Ne.symm (by assumption) | apply hu_n1))) rfl ⟨Nat.le_of_ble_eq_true rfl, Nat.le_of_ble_eq_true rfl⟩ (Nat.le_of_ble_eq_true rfl) ⟨Nat.le_of_ble_eq_true rfl, Nat.le_of_ble_eq_true rfl⟩ ?_
      obtain ⟨l1, l2, l3⟩ := al j (by omega)
      unfold lotC at l1
      refine g_astore (L1 := [(0, _), (1, _), (2, _), (3, _), (4, _), (5, _)]) dX1_nearestLot_23 (by first | exact isRf_r | exact isRf_n | exact isRf_o | assumption) (by decide) (by rfl) ?_
      refine g_aload dX1_nearestLot_25 (by rfl) (by first | exact isRf_r | exact isRf_n | exact isRf_o | assumption) ?_
      refine g_ifnull (tgt := 65) dX1_nearestLot_27 (by decide) (by first | exact isRf_r | exact isRf_n | exact isRf_o | assumption) (fun c2 => nomatch c2) (fun c2 => ?_)
      refine g_aload dX1_nearestLot_30 (by rfl) (by first | exact isRf_r | exact isRf_n | exact isRf_o | assumption) ?_
      refine g_cV0x dX1_nearestLot_32 lX1_128 vX2_isSold (ct_X2_isSold X (al j (by omega))) (by first | assumption | (repeat' (first | assumption | exact hu_same | exact Ne.symm (by assumption) | apply hu_n1))) rfl ⟨Nat.le_of_ble_eq_true rfl, Nat.le_of_ble_eq_true rfl⟩ (Nat.le_of_ble_eq_true rfl) ⟨Nat.le_of_ble_eq_true rfl, Nat.le_of_ble_eq_true rfl⟩ ?_
      refine g_if_eq (tgt := 41) dX1_nearestLot_35 (by decide) (fun c3 => ?_) (fun c3 => ?_)
      · skip
        have hs := bI_d0 _ c3
        have hs2 : ltx r j 13 = 0 := Classical.byContradiction (fun q => hs q)
        refine g_aload_n dX1_nearestLot_41 (by rfl) (by first | exact isRf_r | exact isRf_n | exact isRf_o | assumption) ?_
        refine g_aload dX1_nearestLot_42 (by rfl) (by first | exact isRf_r | exact isRf_n | exact isRf_o | assumption) ?_
        refine g_cV1x dX1_nearestLot_44 lX1_202 vX3_distanceTo (ct_X3_distanceTo X (hlok j hlt).pos hx (al j (by omega))) (by first | assumption | (repeat' (first | assumption | exact hu_same | exact Ne.symm (by assumption) | apply hu_n1))) rfl ⟨Nat.le_of_ble_eq_true rfl, Nat.le_of_ble_eq_true rfl⟩ (Nat.le_of_ble_eq_true rfl) ⟨Nat.le_of_ble_eq_true rfl, Nat.le_of_ble_eq_true rfl⟩ ?_
        refine g_istore (L1 := [(0, _), (1, _), (2, _), (3, _), (4, _), (5, _), (6, _)]) dX1_nearestLot_47 (by decide) (by rfl) ?_
        refine g_iload_n dX1_nearestLot_49 (by rfl) ?_
        refine g_if_lt (tgt := 59) dX1_nearestLot_50 (by decide) (fun c4 => ?_) (fun c4 => ?_)
        · skip
          have hp : (!sold r j && (decide ((nearP r x j).1 < 0) || decide (sumI (fun d => dist (shF (ltx r j) d) (x d)) 4 < (nearP r x j).2))) = true := by simp [sold, hs2, en1, c4]
          refine g_iload dX1_nearestLot_59 (by rfl) ?_
          refine g_istore_n (L1 := [(0, _), (1, _), (2, _), (3, _), (4, _), (5, _), (6, _)]) dX1_nearestLot_61 (by decide) (by rfl) ?_
          refine g_iload dX1_nearestLot_62 (by rfl) ?_
          refine g_istore_n (L1 := [(0, _), (1, _), (2, _), (3, _), (4, _), (5, _), (6, _)]) dX1_nearestLot_64 (by decide) (by rfl) ?_
          refine g_iinc (v := nI (j + 1)) (L1 := [(0, _), (1, _), (2, _), (3, _), (4, _), (5, _), (6, _)]) dX1_nearestLot_65 (by rfl) (nI_1 j) (by decide) (by rfl) ?_
          refine g_goto (tgt := 8) dX1_nearestLot_68 (by decide) ?_
          refine g_pick [0, 1, 2, 3, 4] rfl ?_
          refine ih hlt _ _ ?_
          first
            | rw [near_f hp, enn]
            | rw [near_t hp]
        · skip
          have hb := c4
          refine g_iload dX1_nearestLot_53 (by rfl) ?_
          refine g_iload_n dX1_nearestLot_55 (by rfl) ?_
          refine g_icmp_ge (tgt := 65) dX1_nearestLot_56 (by decide) (fun c5 => ?_) (fun c5 => ?_)
          · skip
            have hp : (!sold r j && (decide ((nearP r x j).1 < 0) || decide (sumI (fun d => dist (shF (ltx r j) d) (x d)) 4 < (nearP r x j).2))) = false := by
              rw [en1, en2, decide_eq_false hb, decide_eq_false (fun z => by simp only [i_lt, i_le] at *; omega)]
              simp
            refine g_iinc (v := nI (j + 1)) (L1 := [(0, _), (1, _), (2, _), (3, _), (4, _), (5, _), (6, _)]) dX1_nearestLot_65 (by rfl) (nI_1 j) (by decide) (by rfl) ?_
            refine g_goto (tgt := 8) dX1_nearestLot_68 (by decide) ?_
            refine g_pick [0, 1, 2, 3, 4] rfl ?_
            refine ih hlt _ _ ?_
            first
              | rw [near_f hp, enn]
              | rw [near_t hp]
          · skip
            have hp : (!sold r j && (decide ((nearP r x j).1 < 0) || decide (sumI (fun d => dist (shF (ltx r j) d) (x d)) 4 < (nearP r x j).2))) = true := by
              rw [en1, en2, decide_eq_true (i_ngt c5)]
              simp [sold, hs2]
            refine g_iload dX1_nearestLot_59 (by rfl) ?_
            refine g_istore_n (L1 := [(0, _), (1, _), (2, _), (3, _), (4, _), (5, _), (6, _)]) dX1_nearestLot_61 (by decide) (by rfl) ?_
            refine g_iload dX1_nearestLot_62 (by rfl) ?_
            refine g_istore_n (L1 := [(0, _), (1, _), (2, _), (3, _), (4, _), (5, _), (6, _)]) dX1_nearestLot_64 (by decide) (by rfl) ?_
            refine g_iinc (v := nI (j + 1)) (L1 := [(0, _), (1, _), (2, _), (3, _), (4, _), (5, _), (6, _)]) dX1_nearestLot_65 (by rfl) (nI_1 j) (by decide) (by rfl) ?_
            refine g_goto (tgt := 8) dX1_nearestLot_68 (by decide) ?_
            refine g_pick [0, 1, 2, 3, 4] rfl ?_
            refine ih hlt _ _ ?_
            first
              | rw [near_f hp, enn]
              | rw [near_t hp]
      · skip
        have zz := bI_d1 _ c3
        have hp : (!sold r j && (decide ((nearP r x j).1 < 0) || decide (sumI (fun d => dist (shF (ltx r j) d) (x d)) 4 < (nearP r x j).2))) = false := by simp [sold, zz]
        refine g_goto (tgt := 65) dX1_nearestLot_38 (by decide) ?_
        refine g_iinc (v := nI (j + 1)) (L1 := [(0, _), (1, _), (2, _), (3, _), (4, _), (5, _)]) dX1_nearestLot_65 (by rfl) (nI_1 j) (by decide) (by rfl) ?_
        refine g_goto (tgt := 8) dX1_nearestLot_68 (by decide) ?_
        refine g_pick [0, 1, 2, 3, 4] rfl ?_
        refine ih hlt _ _ ?_
        first
          | rw [near_f hp, enn]
          | rw [near_t hp]
  exact loop8 0 (by omega) _ _ rfl

set_option maxHeartbeats 4000000 in
set_option maxRecDepth 100000 in
theorem ct_X1_lotsNotFarAbove (X : Cx) {h : Hp} {A : Nat → Nat} {r : Nat → Int32} {nl d : Nat} {s : Int32}  (hd : d < 4) (hnl : nl ≤ 20) (e8 : r 8 = nI nl) (hlok : ∀ l, l < nl → LOk (ltx r l)) (hA : HouseAt X h A r) : Ct X mX1_lotsNotFarAbove 2 0 0 [.ref (A 0), .int s, .int (nI d)] h (Ex (.int (nI (cntN (fun l => !sold r l && (!decide (shF (ltx r l) d - s < 0) && decide (shF (ltx r l) d - s ≤ r 4))) nl))) h) := by
  have hA0 := hA
  obtain ⟨a0, a1, a2, a3, a4, a5, a6, av, al, ao⟩ := hA0
  unfold hobC at a0
  rw [e8] at a0
  have a60 := a6.1
  refine Ct.ofG vX1_lotsNotFarAbove.1.2.2.1 (Nat.le_of_ble_eq_true rfl) ?_
  show G X RX1 cX1_lotsNotFarAbove 8 (some .int) "lotsNotFarAbove" (Rm 2 0 0) (Fm X (Ex (.int (nI (cntN (fun l => !sold r l && (!decide (shF (ltx r l) d - s < 0) && decide (shF (ltx r l) d - s ≤ r 4))) nl))) h) 0 0) 0 0 0 [(0, .ref (A 0)), (1, .int s), (2, .int (nI d))] [] h
  refine g_aload_n dX1_lotsNotFarAbove_0 (by rfl) (by first | exact isRf_r | exact isRf_n | exact isRf_o | assumption) ?_
  refine g_getf dX1_lotsNotFarAbove_1 fX1_39 (by first | assumption | (repeat' (first | assumption | exact hu_same | exact Ne.symm (by assumption) | apply hu_n1))) (by rfl) ?_
  refine g_iconst (v := 4) dX1_lotsNotFarAbove_4 (by decide) ?_
  refine g_cV1x dX1_lotsNotFarAbove_5 lX1_206 vX6_valueOf (ct_X6_valueOf X (j := 4) (by omega) a6) (by first | assumption | (repeat' (first | assumption | exact hu_same | exact Ne.symm (by assumption) | apply hu_n1))) rfl ⟨Nat.le_of_ble_eq_true rfl, Nat.le_of_ble_eq_true rfl⟩ (Nat.le_of_ble_eq_true rfl) ⟨Nat.le_of_ble_eq_true rfl, Nat.le_of_ble_eq_true rfl⟩ ?_
  refine g_istore_n (L1 := [(0, _), (1, _), (2, _), (3, _)]) dX1_lotsNotFarAbove_8 (by decide) (by rfl) ?_
  refine g_iconst (v := 0) dX1_lotsNotFarAbove_9 (by decide) ?_
  refine g_istore (L1 := [(0, _), (1, _), (2, _), (3, _), (4, _)]) dX1_lotsNotFarAbove_10 (by decide) (by rfl) ?_
  refine g_iconst (v := 0) dX1_lotsNotFarAbove_12 (by decide) ?_
  refine g_istore (L1 := [(0, _), (1, _), (2, _), (3, _), (4, _), (5, _)]) dX1_lotsNotFarAbove_13 (by decide) (by rfl) ?_
  have loop15 : ∀ j, j ≤ nl → ∀ acc, acc = nI (cntN (fun l => !sold r l && (!decide (shF (ltx r l) d - s < 0) && decide (shF (ltx r l) d - s ≤ r 4))) j) → G X RX1 cX1_lotsNotFarAbove 8 (some .int) "lotsNotFarAbove" (Rm 2 0 0) (Fm X (Ex (.int (nI (cntN (fun l => !sold r l && (!decide (shF (ltx r l) d - s < 0) && decide (shF (ltx r l) d - s ≤ r 4))) nl))) h) 0 0) 0 0 15 [(0, .ref (A 0)), (1, .int s), (2, .int (nI d)), (3, .int (r 4)), (4, .int acc), (5, .int (nI j))] [] h := by
    refine up_ind nl (fun j hj ih => ?_)
    intro acc eacc
    refine g_iload dX1_lotsNotFarAbove_15 (by rfl) ?_
    refine g_aload_n dX1_lotsNotFarAbove_17 (by rfl) (by first | exact isRf_r | exact isRf_n | exact isRf_o | assumption) ?_
    refine g_getf dX1_lotsNotFarAbove_18 fX1_50 (by first | assumption | (repeat' (first | assumption | exact hu_same | exact Ne.symm (by assumption) | apply hu_n1))) (by rfl) ?_
    refine g_icmp_ge (tgt := 78) dX1_lotsNotFarAbove_21 (by decide) (fun c1 => ?_) (fun c1 => ?_)
    · skip
      have hje : j = nl := Nat.le_antisymm hj (c_ge (a := nl) (by omega) (by omega) c1)
      subst hje
      refine g_iload dX1_lotsNotFarAbove_78 (by rfl) ?_
      refine g_iret dX1_lotsNotFarAbove_80 rfl (Nat.le_refl _) (Nat.le_refl _) ?_
      exact ⟨by rw [eacc], rfl⟩
    · skip
      have hlt : j < nl := c_nge (a := nl) (b := j) (by omega) (by omega) c1
      refine g_aload_n dX1_lotsNotFarAbove_24 (by rfl) (by first | exact isRf_r | exact isRf_n | exact isRf_o | assumption) ?_
      refine g_iload dX1_lotsNotFarAbove_25 (by rfl) ?_
      refine g_cV1x dX1_lotsNotFarAbove_27 lX1_118 vX1_findLot (ct_findLot X (by omega) a0 a2 hlt (laR_j (by omega))) (by first | assumption | (repeat' (first | assumption | exact hu_same | exact Ne.symm (by assumption) | apply hu_n1))) rfl ⟨Nat.le_of_ble_eq_true rfl, Nat.le_of_ble_eq_true rfl⟩ (Nat.le_of_ble_eq_true rfl) ⟨Nat.le_of_ble_eq_true rfl, Nat.le_of_ble_eq_true rfl⟩ ?_
      obtain ⟨l1, l2, l3⟩ := al j (by omega)
      unfold lotC at l1
      refine g_astore (L1 := [(0, _), (1, _), (2, _), (3, _), (4, _), (5, _), (6, _)]) dX1_lotsNotFarAbove_30 (by first | exact isRf_r | exact isRf_n | exact isRf_o | assumption) (by decide) (by rfl) ?_
      refine g_aload dX1_lotsNotFarAbove_32 (by rfl) (by first | exact isRf_r | exact isRf_n | exact isRf_o | assumption) ?_
      refine g_ifnull (tgt := 72) dX1_lotsNotFarAbove_34 (by decide) (by first | exact isRf_r | exact isRf_n | exact isRf_o | assumption) (fun c2 => nomatch c2) (fun c2 => ?_)
      refine g_aload dX1_lotsNotFarAbove_37 (by rfl) (by first | exact isRf_r | exact isRf_n | exact isRf_o | assumption) ?_
      refine g_cV0x dX1_lotsNotFarAbove_39 lX1_128 vX2_isSold (ct_X2_isSold X (al j (by omega))) (by first | assumption | (repeat' (first | assumption | exact hu_same | exact Ne.symm (by assumption) | apply hu_n1))) rfl ⟨Nat.le_of_ble_eq_true rfl, Nat.le_of_ble_eq_true rfl⟩ (Nat.le_of_ble_eq_true rfl) ⟨Nat.le_of_ble_eq_true rfl, Nat.le_of_ble_eq_true rfl⟩ ?_
      refine g_if_eq (tgt := 48) dX1_lotsNotFarAbove_42 (by decide) (fun c3 => ?_) (fun c3 => ?_)
      · skip
        have hs := bI_d0 _ c3
        have hs2 : ltx r j 13 = 0 := Classical.byContradiction (fun q => hs q)
        refine g_aload dX1_lotsNotFarAbove_48 (by rfl) (by first | exact isRf_r | exact isRf_n | exact isRf_o | assumption) ?_
        refine g_iload_n dX1_lotsNotFarAbove_50 (by rfl) ?_
        refine g_cV1x dX1_lotsNotFarAbove_51 lX1_209 vX2_shadeOf (ct_X2_shadeOf X hd (hlok j hlt).pos (al j (by omega))) (by first | assumption | (repeat' (first | assumption | exact hu_same | exact Ne.symm (by assumption) | apply hu_n1))) rfl ⟨Nat.le_of_ble_eq_true rfl, Nat.le_of_ble_eq_true rfl⟩ (Nat.le_of_ble_eq_true rfl) ⟨Nat.le_of_ble_eq_true rfl, Nat.le_of_ble_eq_true rfl⟩ ?_
        refine g_iload_n dX1_lotsNotFarAbove_54 (by rfl) ?_
        refine g_isub dX1_lotsNotFarAbove_55 ?_
        refine g_istore (L1 := [(0, _), (1, _), (2, _), (3, _), (4, _), (5, _), (6, _), (7, _)]) dX1_lotsNotFarAbove_56 (by decide) (by rfl) ?_
        refine g_iload dX1_lotsNotFarAbove_58 (by rfl) ?_
        refine g_if_lt (tgt := 72) dX1_lotsNotFarAbove_60 (by decide) (fun c4 => ?_) (fun c4 => ?_)
        · skip
          have hp : (fun l => !sold r l && (!decide (shF (ltx r l) d - s < 0) && decide (shF (ltx r l) d - s ≤ r 4))) j = false := by simp [c4]
          refine g_iinc (v := nI (j + 1)) (L1 := [(0, _), (1, _), (2, _), (3, _), (4, _), (5, _), (6, _), (7, _)]) dX1_lotsNotFarAbove_72 (by rfl) (nI_1 j) (by decide) (by rfl) ?_
          refine g_goto (tgt := 15) dX1_lotsNotFarAbove_75 (by decide) ?_
          refine g_pick [0, 1, 2, 3, 4, 5] rfl ?_
          refine ih hlt _ ?_
          first
            | rw [eacc, cnt_f hp]
            | (rw [cnt_t hp, eacc]; rfl)
        · skip
          have hq := c4
          refine g_iload dX1_lotsNotFarAbove_63 (by rfl) ?_
          refine g_iload_n dX1_lotsNotFarAbove_65 (by rfl) ?_
          refine g_icmp_gt (tgt := 72) dX1_lotsNotFarAbove_66 (by decide) (fun c5 => ?_) (fun c5 => ?_)
          · skip
            have hp : (fun l => !sold r l && (!decide (shF (ltx r l) d - s < 0) && decide (shF (ltx r l) d - s ≤ r 4))) j = false := by
              show (!sold r j && (!decide _ && decide _)) = false
              rw [decide_eq_false (p := shF (ltx r j) d - s ≤ r 4) (i_nle c5)]
              simp
            refine g_iinc (v := nI (j + 1)) (L1 := [(0, _), (1, _), (2, _), (3, _), (4, _), (5, _), (6, _), (7, _)]) dX1_lotsNotFarAbove_72 (by rfl) (nI_1 j) (by decide) (by rfl) ?_
            refine g_goto (tgt := 15) dX1_lotsNotFarAbove_75 (by decide) ?_
            refine g_pick [0, 1, 2, 3, 4, 5] rfl ?_
            refine ih hlt _ ?_
            first
              | rw [eacc, cnt_f hp]
              | (rw [cnt_t hp, eacc]; rfl)
          · skip
            have hp : (fun l => !sold r l && (!decide (shF (ltx r l) d - s < 0) && decide (shF (ltx r l) d - s ≤ r 4))) j = true := by
              show (!sold r j && (!decide _ && decide _)) = true
              rw [decide_eq_true (p := shF (ltx r j) d - s ≤ r 4) (i_nlt c5), decide_eq_false (p := shF (ltx r j) d - s < 0) hq]
              simp [sold, hs2]
            refine g_iinc (L1 := [(0, _), (1, _), (2, _), (3, _), (4, _), (5, _), (6, _), (7, _)]) dX1_lotsNotFarAbove_69 (by rfl) (by rfl) (by decide) (by rfl) ?_
            refine g_iinc (v := nI (j + 1)) (L1 := [(0, _), (1, _), (2, _), (3, _), (4, _), (5, _), (6, _), (7, _)]) dX1_lotsNotFarAbove_72 (by rfl) (nI_1 j) (by decide) (by rfl) ?_
            refine g_goto (tgt := 15) dX1_lotsNotFarAbove_75 (by decide) ?_
            refine g_pick [0, 1, 2, 3, 4, 5] rfl ?_
            refine ih hlt _ ?_
            first
              | rw [eacc, cnt_f hp]
              | (rw [cnt_t hp, eacc]; rfl)
      · skip
        have zz := bI_d1 _ c3
        have hp : (fun l => !sold r l && (!decide (shF (ltx r l) d - s < 0) && decide (shF (ltx r l) d - s ≤ r 4))) j = false := by simp [sold, zz]
        refine g_goto (tgt := 72) dX1_lotsNotFarAbove_45 (by decide) ?_
        refine g_iinc (v := nI (j + 1)) (L1 := [(0, _), (1, _), (2, _), (3, _), (4, _), (5, _), (6, _)]) dX1_lotsNotFarAbove_72 (by rfl) (nI_1 j) (by decide) (by rfl) ?_
        refine g_goto (tgt := 15) dX1_lotsNotFarAbove_75 (by decide) ?_
        refine g_pick [0, 1, 2, 3, 4, 5] rfl ?_
        refine ih hlt _ ?_
        first
          | rw [eacc, cnt_f hp]
          | (rw [cnt_t hp, eacc]; rfl)
  exact loop15 0 (by omega) _ rfl
