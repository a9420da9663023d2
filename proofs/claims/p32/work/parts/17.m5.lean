set_option maxHeartbeats 4000000 in
set_option maxRecDepth 100000 in
theorem ct_X3_copyFrom (X : Cx) {h : Hp} {a sa b sb : Nat} {x z : Nat → Int32}  (hx : OrdAt X h a sa x) (hz : OrdAt X h b sb z) (hb : bz (z 4)) (n1 : sb ≠ sa) : Ct X mX3_copyFrom 1 0 0 [.ref a, .ref b] h (fun u h1 => u = none ∧ OrdAt X h1 a sa z ∧ ∀ q, q ≠ a → q ≠ sa → h1 q = h q) := by
  have l0 := hx
  obtain ⟨l1, l2⟩ := l0
  unfold ordC at l1
  have k0 := hz
  obtain ⟨k1, k2⟩ := k0
  unfold ordC at k1
  have a1 := ne_oo l1 l2
  have a2 := ne_oo k1 l2
  refine Ct.ofG vX3_copyFrom.1.2.2.1 (Nat.le_of_ble_eq_true rfl) ?_
  show G X RX3 cX3_copyFrom 2 none "copyFrom" (Rm 1 0 0) (Fm X (fun u h1 => u = none ∧ OrdAt X h1 a sa z ∧ ∀ q, q ≠ a → q ≠ sa → h1 q = h q) 0 0) 0 0 0 [(0, .ref a), (1, .ref b)] [] h
  refine g_aload_n dX3_copyFrom_0 (by rfl) (by first | exact isRf_r | exact isRf_n | exact isRf_o | assumption) ?_
  refine g_getf dX3_copyFrom_1 fX3_9 (by first | assumption | (repeat' (first | assumption | exact hu_same | exact Ne.symm (by assumption) | apply hu_n1))) (by rfl) ?_
  refine g_aload_n dX3_copyFrom_4 (by rfl) (by first | exact isRf_r | exact isRf_n | exact isRf_o | assumption) ?_
  refine g_getf dX3_copyFrom_5 fX3_9 (by first | assumption | (repeat' (first | assumption | exact hu_same | exact Ne.symm (by assumption) | apply hu_n1))) (by rfl) ?_
  refine g_cN2v dX3_copyFrom_8 lX3_15 vX9_copyRow (ct_X9_copyRow X (N := 4) (by omega) n1 (by first | assumption | (repeat' (first | assumption | exact hu_same | exact Ne.symm (by assumption) | apply hu_n1))) (by first | assumption | (repeat' (first | assumption | exact hu_same | exact Ne.symm (by assumption) | apply hu_n1)))) ⟨Nat.le_of_ble_eq_true rfl, Nat.le_of_ble_eq_true rfl⟩ (Nat.le_of_ble_eq_true rfl) ⟨Nat.le_of_ble_eq_true rfl, Nat.le_of_ble_eq_true rfl⟩ ?_
  refine g_aload_n dX3_copyFrom_11 (by rfl) (by first | exact isRf_r | exact isRf_n | exact isRf_o | assumption) ?_
  refine g_aload_n dX3_copyFrom_12 (by rfl) (by first | exact isRf_r | exact isRf_n | exact isRf_o | assumption) ?_
  refine g_getf dX3_copyFrom_13 fX3_19 (by first | assumption | (repeat' (first | assumption | exact hu_same | exact Ne.symm (by assumption) | apply hu_n1))) (by rfl) ?_
  refine g_putf (ty := .boolean) dX3_copyFrom_16 fX3_19 (by decide +kernel) (bz_n hb) (bz_f hb) (by first | assumption | (repeat' (first | assumption | exact hu_same | exact Ne.symm (by assumption) | apply hu_n1))) (by exact Nat.le_of_ble_eq_true rfl) ?_
  refine g_vret dX3_copyFrom_19 rfl (Nat.le_refl _) (Nat.le_refl _) ?_
  refine ⟨rfl, ⟨hu_same, (by first | assumption | (repeat' (first | assumption | exact hu_same | exact Ne.symm (by assumption) | apply hu_n1)))⟩, ?_⟩
  intro q q1 q2
  simp only [hu_ne q1, hu_ne q2]

theorem nr4_up {g : Nat → Int32} {b0 b1 b2 b3 : Int32} : upd (upd (upd (upd (nr 4 g) 0 b0) 1 b1) 2 b2) 3 b3 = nr 4 (upd (upd (upd (upd g 0 b0) 1 b1) 2 b2) 3 b3) := by
  rw [nr_up (by omega), nr_up (by omega), nr_up (by omega), nr_up (by omega)]

set_option maxHeartbeats 4000000 in
set_option maxRecDepth 100000 in
theorem ct_X3_ask (X : Cx) {h : Hp} {a sa : Nat} {b0 b1 b2 b3 : Int32} {x : Nat → Int32}  (hx : OrdAt X h a sa x) : Ct X mX3_ask 1 0 0 [.ref a, .int b0, .int b1, .int b2, .int b3] h (fun u h1 => u = none ∧ OrdAt X h1 a sa (upd (upd (upd (upd x 0 b0) 1 b1) 2 b2) 3 b3) ∧ ∀ q, q ≠ sa → h1 q = h q) := by
  have l0 := hx
  obtain ⟨l1, l2⟩ := l0
  unfold ordC at l1
  have a1 := ne_oo l1 l2
  refine Ct.ofG vX3_ask.1.2.2.1 (Nat.le_of_ble_eq_true rfl) ?_
  show G X RX3 cX3_ask 5 none "ask" (Rm 1 0 0) (Fm X (fun u h1 => u = none ∧ OrdAt X h1 a sa (upd (upd (upd (upd x 0 b0) 1 b1) 2 b2) 3 b3) ∧ ∀ q, q ≠ sa → h1 q = h q) 0 0) 0 0 0 [(0, .ref a), (1, .int b0), (2, .int b1), (3, .int b2), (4, .int b3)] [] h
  refine g_aload_n dX3_ask_0 (by rfl) (by first | exact isRf_r | exact isRf_n | exact isRf_o | assumption) ?_
  refine g_getf dX3_ask_1 fX3_9 (by first | assumption | (repeat' (first | assumption | exact hu_same | exact Ne.symm (by assumption) | apply hu_n1))) (by rfl) ?_
  refine g_iconst (v := 0) dX3_ask_4 (by decide) ?_
  refine g_iload_n dX3_ask_5 (by rfl) ?_
  refine g_cN3v dX3_ask_6 lX3_23 vX9_putAt (ct_X9_putAt X (N := 4) (j := 0) (by omega) (by omega) (by first | assumption | (repeat' (first | assumption | exact hu_same | exact Ne.symm (by assumption) | apply hu_n1)))) ⟨Nat.le_of_ble_eq_true rfl, Nat.le_of_ble_eq_true rfl⟩ (Nat.le_of_ble_eq_true rfl) ⟨Nat.le_of_ble_eq_true rfl, Nat.le_of_ble_eq_true rfl⟩ ?_
  refine g_aload_n dX3_ask_9 (by rfl) (by first | exact isRf_r | exact isRf_n | exact isRf_o | assumption) ?_
  refine g_getf dX3_ask_10 fX3_9 (by first | assumption | (repeat' (first | assumption | exact hu_same | exact Ne.symm (by assumption) | apply hu_n1))) (by rfl) ?_
  refine g_iconst (v := 1) dX3_ask_13 (by decide) ?_
  refine g_iload_n dX3_ask_14 (by rfl) ?_
  refine g_cN3v dX3_ask_15 lX3_23 vX9_putAt (ct_X9_putAt X (N := 4) (j := 1) (by omega) (by omega) (by first | assumption | (repeat' (first | assumption | exact hu_same | exact Ne.symm (by assumption) | apply hu_n1)))) ⟨Nat.le_of_ble_eq_true rfl, Nat.le_of_ble_eq_true rfl⟩ (Nat.le_of_ble_eq_true rfl) ⟨Nat.le_of_ble_eq_true rfl, Nat.le_of_ble_eq_true rfl⟩ ?_
  refine g_aload_n dX3_ask_18 (by rfl) (by first | exact isRf_r | exact isRf_n | exact isRf_o | assumption) ?_
  refine g_getf dX3_ask_19 fX3_9 (by first | assumption | (repeat' (first | assumption | exact hu_same | exact Ne.symm (by assumption) | apply hu_n1))) (by rfl) ?_
  refine g_iconst (v := 2) dX3_ask_22 (by decide) ?_
  refine g_iload_n dX3_ask_23 (by rfl) ?_
  refine g_cN3v dX3_ask_24 lX3_23 vX9_putAt (ct_X9_putAt X (N := 4) (j := 2) (by omega) (by omega) (by first | assumption | (repeat' (first | assumption | exact hu_same | exact Ne.symm (by assumption) | apply hu_n1)))) ⟨Nat.le_of_ble_eq_true rfl, Nat.le_of_ble_eq_true rfl⟩ (Nat.le_of_ble_eq_true rfl) ⟨Nat.le_of_ble_eq_true rfl, Nat.le_of_ble_eq_true rfl⟩ ?_
  refine g_aload_n dX3_ask_27 (by rfl) (by first | exact isRf_r | exact isRf_n | exact isRf_o | assumption) ?_
  refine g_getf dX3_ask_28 fX3_9 (by first | assumption | (repeat' (first | assumption | exact hu_same | exact Ne.symm (by assumption) | apply hu_n1))) (by rfl) ?_
  refine g_iconst (v := 3) dX3_ask_31 (by decide) ?_
  refine g_iload dX3_ask_32 (by rfl) ?_
  refine g_cN3v dX3_ask_34 lX3_23 vX9_putAt (ct_X9_putAt X (N := 4) (j := 3) (by omega) (by omega) (by first | assumption | (repeat' (first | assumption | exact hu_same | exact Ne.symm (by assumption) | apply hu_n1)))) ⟨Nat.le_of_ble_eq_true rfl, Nat.le_of_ble_eq_true rfl⟩ (Nat.le_of_ble_eq_true rfl) ⟨Nat.le_of_ble_eq_true rfl, Nat.le_of_ble_eq_true rfl⟩ ?_
  refine g_vret dX3_ask_37 rfl (Nat.le_refl _) (Nat.le_refl _) ?_
  refine ⟨rfl, ⟨?_, ?_⟩, ?_⟩
  · show _ = some (ordC sa x)
    exact (by first | assumption | (repeat' (first | assumption | exact hu_same | exact Ne.symm (by assumption) | apply hu_n1)))
  · rw [← nr4_up]
    exact hu_same
  · intro q q1
    simp only [hu_ne q1]

set_option maxHeartbeats 4000000 in
set_option maxRecDepth 100000 in
theorem ct_X3_shadeFor (X : Cx) {h : Hp} {a sa j : Nat} {x : Nat → Int32}  (hj : j < 4) (hx : OrdAt X h a sa x) : Ct X mX3_shadeFor 1 0 0 [.ref a, .int (nI j)] h (Ex (.int (x j)) h) := by
  have l0 := hx
  obtain ⟨l1, l2⟩ := l0
  unfold ordC at l1
  refine Ct.ofG vX3_shadeFor.1.2.2.1 (Nat.le_of_ble_eq_true rfl) ?_
  show G X RX3 cX3_shadeFor 2 (some .int) "shadeFor" (Rm 1 0 0) (Fm X (Ex (.int (x j)) h) 0 0) 0 0 0 [(0, .ref a), (1, .int (nI j))] [] h
  refine g_aload_n dX3_shadeFor_0 (by rfl) (by first | exact isRf_r | exact isRf_n | exact isRf_o | assumption) ?_
  refine g_getf dX3_shadeFor_1 fX3_9 (by first | assumption | (repeat' (first | assumption | exact hu_same | exact Ne.symm (by assumption) | apply hu_n1))) (by rfl) ?_
  refine g_iload_n dX3_shadeFor_4 (by rfl) ?_
  refine g_cN2x dX3_shadeFor_5 lX3_27 vX9_cellAt (ct_X9_cellAtI X hj (by omega) l2) ⟨Nat.le_of_ble_eq_true rfl, Nat.le_of_ble_eq_true rfl⟩ (Nat.le_of_ble_eq_true rfl) ⟨Nat.le_of_ble_eq_true rfl, Nat.le_of_ble_eq_true rfl⟩ ?_
  refine g_iret dX3_shadeFor_8 rfl (Nat.le_refl _) (Nat.le_refl _) ?_
  exact Ex.i (nr_lt hj) rfl

set_option maxHeartbeats 4000000 in
set_option maxRecDepth 100000 in
theorem ct_X3_isFittedBy (X : Cx) {h : Hp} {a sa b bf bl s v : Nat} {x z r : Nat → Int32} {t : Bool}  (ht : t = true ↔ fit z x r) (hp : 0 < (z 1).toInt) (hx : OrdAt X h a sa x) (hz : LotAt X h b bf bl z) (hs : SetAt X h s v r) : Ct X mX3_isFittedBy 2 0 0 [.ref a, .ref b, .ref s] h (Ex (.int (bI t)) h) := by
  have l0 := hx
  obtain ⟨l1, l2⟩ := l0
  unfold ordC at l1
  have k0 := hz
  obtain ⟨k1, k2, k3⟩ := k0
  unfold lotC at k1
  unfold fixA at k2
  unfold looA at k3
  have hs0 := hs.1
  refine Ct.ofG vX3_isFittedBy.1.2.2.1 (Nat.le_of_ble_eq_true rfl) ?_
  show G X RX3 cX3_isFittedBy 5 (some .boolean) "isFittedBy" (Rm 2 0 0) (Fm X (Ex (.int (bI t)) h) 0 0) 0 0 0 [(0, .ref a), (1, .ref b), (2, .ref s)] [] h
  refine g_aload_n dX3_isFittedBy_0 (by rfl) (by first | exact isRf_r | exact isRf_n | exact isRf_o | assumption) ?_
  refine g_getf dX3_isFittedBy_1 fX3_31 (by first | assumption | (repeat' (first | assumption | exact hu_same | exact Ne.symm (by assumption) | apply hu_n1))) (by rfl) ?_
  refine g_if_eq (tgt := 9) dX3_isFittedBy_4 (by decide) (fun c1 => ?_) (fun c1 => ?_)
  · skip
    have hsp := c1
    refine g_aload_n dX3_isFittedBy_9 (by rfl) (by first | exact isRf_r | exact isRf_n | exact isRf_o | assumption) ?_
    refine g_iconst (v := 4) dX3_isFittedBy_10 (by decide) ?_
    refine g_cV1x dX3_isFittedBy_11 lX3_38 vX6_valueOf (ct_X6_valueOf X (j := 4) (by omega) hs) (by first | assumption | (repeat' (first | assumption | exact hu_same | exact Ne.symm (by assumption) | apply hu_n1))) rfl ⟨Nat.le_of_ble_eq_true rfl, Nat.le_of_ble_eq_true rfl⟩ (Nat.le_of_ble_eq_true rfl) ⟨Nat.le_of_ble_eq_true rfl, Nat.le_of_ble_eq_true rfl⟩ ?_
    refine g_istore_n (L1 := [(0, _), (1, _), (2, _), (3, _)]) dX3_isFittedBy_14 (by decide) (by rfl) ?_
    refine g_iconst (v := 0) dX3_isFittedBy_15 (by decide) ?_
    refine g_istore (L1 := [(0, _), (1, _), (2, _), (3, _), (4, _)]) dX3_isFittedBy_16 (by decide) (by rfl) ?_
    have loop18 : ∀ j, j ≤ 4 → (∀ d, d < j → dist (shF z d) (x d) ≤ r 4) → G X RX3 cX3_isFittedBy 5 (some .boolean) "isFittedBy" (Rm 2 0 0) (Fm X (Ex (.int (bI t)) h) 0 0) 0 0 18 [(0, .ref a), (1, .ref b), (2, .ref s), (3, .int (r 4)), (4, .int (nI j))] [] h := by
      refine up_ind 4 (fun j hj ih => ?_)
      intro hd
      refine g_iload dX3_isFittedBy_18 (by rfl) ?_
      refine g_iconst (v := 4) dX3_isFittedBy_20 (by decide) ?_
      refine g_icmp_ge (tgt := 51) dX3_isFittedBy_21 (by decide) (fun c2 => ?_) (fun c2 => ?_)
      · skip
        have hje : j = 4 := Nat.le_antisymm hj (c_ge (a := 4) (by omega) (by omega) c2)
        subst hje
        have hfit : t = true := ht.mpr ⟨hsp, hd⟩
        refine g_iconst (v := 1) dX3_isFittedBy_51 (by decide) ?_
        refine g_zret dX3_isFittedBy_52 rfl (by decide) (Nat.le_refl _) (Nat.le_refl _) ?_
        exact Ex.i (by rw [hfit]; rfl) rfl
      · skip
        have hlt : j < 4 := c_nge (a := 4) (b := j) (by omega) (by omega) c2
        refine g_aload_n dX3_isFittedBy_24 (by rfl) (by first | exact isRf_r | exact isRf_n | exact isRf_o | assumption) ?_
        refine g_iload dX3_isFittedBy_25 (by rfl) ?_
        refine g_cV1x dX3_isFittedBy_27 lX3_42 vX2_shadeOf (ct_X2_shadeOf X (j := j) (by omega) hp hz) (by first | assumption | (repeat' (first | assumption | exact hu_same | exact Ne.symm (by assumption) | apply hu_n1))) rfl ⟨Nat.le_of_ble_eq_true rfl, Nat.le_of_ble_eq_true rfl⟩ (Nat.le_of_ble_eq_true rfl) ⟨Nat.le_of_ble_eq_true rfl, Nat.le_of_ble_eq_true rfl⟩ ?_
        refine g_aload_n dX3_isFittedBy_30 (by rfl) (by first | exact isRf_r | exact isRf_n | exact isRf_o | assumption) ?_
        refine g_iload dX3_isFittedBy_31 (by rfl) ?_
        refine g_cV1x dX3_isFittedBy_33 lX3_45 vX3_shadeFor (ct_X3_shadeFor X (j := j) (by omega) hx) (by first | assumption | (repeat' (first | assumption | exact hu_same | exact Ne.symm (by assumption) | apply hu_n1))) rfl ⟨Nat.le_of_ble_eq_true rfl, Nat.le_of_ble_eq_true rfl⟩ (Nat.le_of_ble_eq_true rfl) ⟨Nat.le_of_ble_eq_true rfl, Nat.le_of_ble_eq_true rfl⟩ ?_
        refine g_cN2x dX3_isFittedBy_36 lX3_48 vX9_distance (ct_X9_distance X) ⟨Nat.le_of_ble_eq_true rfl, Nat.le_of_ble_eq_true rfl⟩ (Nat.le_of_ble_eq_true rfl) ⟨Nat.le_of_ble_eq_true rfl, Nat.le_of_ble_eq_true rfl⟩ ?_
        refine g_iload_n dX3_isFittedBy_39 (by rfl) ?_
        refine g_icmp_le (tgt := 45) dX3_isFittedBy_40 (by decide) (fun c3 => ?_) (fun c3 => ?_)
        · skip
          have hle : dist (shF z j) (x j) ≤ r 4 := c3
          refine g_iinc (v := nI (j + 1)) (L1 := [(0, _), (1, _), (2, _), (3, _), (4, _)]) dX3_isFittedBy_45 (by rfl) (nI_1 j) (by decide) (by rfl) ?_
          refine g_goto (tgt := 18) dX3_isFittedBy_48 (by decide) ?_
          exact ih (by omega) (fun d hd2 => by
            rcases Nat.lt_or_ge d j with z1 | z1
            · exact hd d z1
            · have e : d = j := by omega
              subst e
              exact hle)
        · skip
          have hbad : t = false := by
            cases t with
            | false => rfl
            | true => exact absurd ((ht.mp rfl).2 j hlt) c3
          refine g_iconst (v := 0) dX3_isFittedBy_43 (by decide) ?_
          refine g_zret dX3_isFittedBy_44 rfl (by decide) (Nat.le_refl _) (Nat.le_refl _) ?_
          exact Ex.i (by rw [hbad]; rfl) rfl
    exact loop18 0 (by omega) (fun d hd => absurd hd (by omega))
  · skip
    have hbad : t = false := by
      cases t with
      | false => rfl
      | true => exact absurd (ht.mp rfl).1 c1
    refine g_iconst (v := 0) dX3_isFittedBy_7 (by decide) ?_
    refine g_zret dX3_isFittedBy_8 rfl (by decide) (Nat.le_refl _) (Nat.le_refl _) ?_
    exact Ex.i (by rw [hbad]; rfl) rfl

set_option maxHeartbeats 4000000 in
set_option maxRecDepth 100000 in
theorem ct_X3_distanceTo (X : Cx) {h : Hp} {a sa b bf bl : Nat} {x z : Nat → Int32}  (hp : 0 < (z 1).toInt) (hx : OrdAt X h a sa x) (hz : LotAt X h b bf bl z) : Ct X mX3_distanceTo 2 0 0 [.ref a, .ref b] h (Ex (.int (sumI (fun d => dist (shF z d) (x d)) 4)) h) := by
  have l0 := hx
  obtain ⟨l1, l2⟩ := l0
  unfold ordC at l1
  have k0 := hz
  obtain ⟨k1, k2, k3⟩ := k0
  unfold lotC at k1
  unfold fixA at k2
  unfold looA at k3
  refine Ct.ofG vX3_distanceTo.1.2.2.1 (Nat.le_of_ble_eq_true rfl) ?_
  show G X RX3 cX3_distanceTo 4 (some .int) "distanceTo" (Rm 2 0 0) (Fm X (Ex (.int (sumI (fun d => dist (shF z d) (x d)) 4)) h) 0 0) 0 0 0 [(0, .ref a), (1, .ref b)] [] h
  refine g_iconst (v := 0) dX3_distanceTo_0 (by decide) ?_
  refine g_istore_n (L1 := [(0, _), (1, _), (2, _)]) dX3_distanceTo_1 (by decide) (by rfl) ?_
  refine g_iconst (v := 0) dX3_distanceTo_2 (by decide) ?_
  refine g_istore_n (L1 := [(0, _), (1, _), (2, _), (3, _)]) dX3_distanceTo_3 (by decide) (by rfl) ?_
  have loop4 : ∀ j, j ≤ 4 → G X RX3 cX3_distanceTo 4 (some .int) "distanceTo" (Rm 2 0 0) (Fm X (Ex (.int (sumI (fun d => dist (shF z d) (x d)) 4)) h) 0 0) 0 0 4 [(0, .ref a), (1, .ref b), (2, .int (sumI (fun d => dist (shF z d) (x d)) j)), (3, .int (nI j))] [] h := by
    refine up_ind 4 (fun j hj ih => ?_)
    refine g_iload_n dX3_distanceTo_4 (by rfl) ?_
    refine g_iconst (v := 4) dX3_distanceTo_5 (by decide) ?_
    refine g_icmp_ge (tgt := 31) dX3_distanceTo_6 (by decide) (fun c1 => ?_) (fun c1 => ?_)
    · skip
      have hje : j = 4 := Nat.le_antisymm hj (c_ge (a := 4) (by omega) (by omega) c1)
      subst hje
      refine g_iload_n dX3_distanceTo_31 (by rfl) ?_
      refine g_iret dX3_distanceTo_32 rfl (Nat.le_refl _) (Nat.le_refl _) ?_
      exact ⟨rfl, rfl⟩
    · skip
      have hlt : j < 4 := c_nge (a := 4) (b := j) (by omega) (by omega) c1
      refine g_iload_n dX3_distanceTo_9 (by rfl) ?_
      refine g_aload_n dX3_distanceTo_10 (by rfl) (by first | exact isRf_r | exact isRf_n | exact isRf_o | assumption) ?_
      refine g_iload_n dX3_distanceTo_11 (by rfl) ?_
      refine g_cV1x dX3_distanceTo_12 lX3_42 vX2_shadeOf (ct_X2_shadeOf X (j := j) (by omega) hp hz) (by first | assumption | (repeat' (first | assumption | exact hu_same | exact Ne.symm (by assumption) | apply hu_n1))) rfl ⟨Nat.le_of_ble_eq_true rfl, Nat.le_of_ble_eq_true rfl⟩ (Nat.le_of_ble_eq_true rfl) ⟨Nat.le_of_ble_eq_true rfl, Nat.le_of_ble_eq_true rfl⟩ ?_
      refine g_aload_n dX3_distanceTo_15 (by rfl) (by first | exact isRf_r | exact isRf_n | exact isRf_o | assumption) ?_
      refine g_iload_n dX3_distanceTo_16 (by rfl) ?_
      refine g_cV1x dX3_distanceTo_17 lX3_45 vX3_shadeFor (ct_X3_shadeFor X (j := j) (by omega) hx) (by first | assumption | (repeat' (first | assumption | exact hu_same | exact Ne.symm (by assumption) | apply hu_n1))) rfl ⟨Nat.le_of_ble_eq_true rfl, Nat.le_of_ble_eq_true rfl⟩ (Nat.le_of_ble_eq_true rfl) ⟨Nat.le_of_ble_eq_true rfl, Nat.le_of_ble_eq_true rfl⟩ ?_
      refine g_cN2x dX3_distanceTo_20 lX3_48 vX9_distance (ct_X9_distance X) ⟨Nat.le_of_ble_eq_true rfl, Nat.le_of_ble_eq_true rfl⟩ (Nat.le_of_ble_eq_true rfl) ⟨Nat.le_of_ble_eq_true rfl, Nat.le_of_ble_eq_true rfl⟩ ?_
      refine g_iadd dX3_distanceTo_23 ?_
      refine g_istore_n (L1 := [(0, _), (1, _), (2, _), (3, _)]) dX3_distanceTo_24 (by decide) (by rfl) ?_
      refine g_iinc (v := nI (j + 1)) (L1 := [(0, _), (1, _), (2, _), (3, _)]) dX3_distanceTo_25 (by rfl) (nI_1 j) (by decide) (by rfl) ?_
      refine g_goto (tgt := 4) dX3_distanceTo_28 (by decide) ?_
      exact ih hlt
  exact loop4 0 (by omega)
