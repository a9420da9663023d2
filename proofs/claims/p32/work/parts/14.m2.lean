set_option maxHeartbeats 4000000 in
set_option maxRecDepth 100000 in
theorem ct_X6_change (X : Cx) {h : Hp} {s v : Nat} {w x : Int32} {r : Nat → Int32}  (hs : SetAt X h s v r) (hst : StatAt X h) : Ct X mX6_change 1 0 0 [.ref s, .int w, .int x] h (fun u h1 => (∃ j, j < 7 ∧ w = nI j ∧ leastF j ≤ x ∧ x ≤ mostF j ∧ u = some (.int (r j)) ∧ h1 = hu h v (oI X 7 (nr 7 (upd r j x)))) ∨ ((¬ ∃ j, j < 7 ∧ w = nI j ∧ leastF j ≤ x ∧ x ≤ mostF j) ∧ u = some (.int (-1)) ∧ h1 = h)) := by
  obtain ⟨hs, hv⟩ := hs
  obtain ⟨hs0, hs1, hs2⟩ := hst
  have z7 : (nI 7).toInt = 7 := nI_toInt (by omega)
  refine Ct.ofG vX6_change.1.2.2.1 (Nat.le_of_ble_eq_true rfl) ?_
  show G X RX6 cX6_change 4 (some .int) "change" (Rm 1 0 0) (Fm X (fun u h1 => (∃ j, j < 7 ∧ w = nI j ∧ leastF j ≤ x ∧ x ≤ mostF j ∧ u = some (.int (r j)) ∧ h1 = hu h v (oI X 7 (nr 7 (upd r j x)))) ∨ ((¬ ∃ j, j < 7 ∧ w = nI j ∧ leastF j ≤ x ∧ x ≤ mostF j) ∧ u = some (.int (-1)) ∧ h1 = h)) 0 0) 0 0 0 [(0, .ref s), (1, .int w), (2, .int x)] [] h
  refine g_iload_n dX6_change_0 (by rfl) ?_
  refine g_if_lt (tgt := 13) dX6_change_1 (by decide) (fun c1 => ?_) (fun c1 => ?_)
  · skip
    have hbad : ¬ ∃ j, j < 7 ∧ w = nI j ∧ leastF j ≤ x ∧ x ≤ mostF j := by
      rintro ⟨j, hj, rfl, -, -⟩
      exact absurd c1 (c_neg (by omega))
    refine g_iconst (v := (-1)) dX6_change_13 (by decide) ?_
    refine g_iret dX6_change_14 rfl (Nat.le_refl _) (Nat.le_refl _) ?_
    exact Or.inr ⟨hbad, rfl, rfl⟩
  · skip
    refine g_iload_n dX6_change_4 (by rfl) ?_
    refine g_aload_n dX6_change_5 (by rfl) (by first | exact isRf_r | exact isRf_n | exact isRf_o | assumption) ?_
    refine g_getf dX6_change_6 fX6_9 (by first | assumption | (repeat' (first | assumption | exact hu_same | exact Ne.symm (by assumption) | apply hu_n1))) (by rfl) ?_
    refine g_alenI dX6_change_9 (by first | assumption | (repeat' (first | assumption | exact hu_same | exact Ne.symm (by assumption) | apply hu_n1))) ?_
    refine g_icmp_lt (tgt := 15) dX6_change_10 (by decide) (fun c2 => ?_) (fun c2 => ?_)
    · skip
      obtain ⟨j, hj, rfl⟩ := i_sm (n := 7) (x := w) (by simp only [i_lt, i_le, Int32.reduceToInt] at *; omega) (by simp only [i_lt, i_le, Int32.reduceToInt] at *; omega) (by omega)
      refine g_iload_n dX6_change_15 (by rfl) ?_
      refine g_gets (i := 0) dX6_change_16 fX6_22 (by decide) ?_
      refine g_iload_n dX6_change_19 (by rfl) ?_
      refine g_cN2x dX6_change_20 lX6_25 vX9_cellAt (ct_X9_cellAtS X hj (by omega) hs0) ⟨Nat.le_of_ble_eq_true rfl, Nat.le_of_ble_eq_true rfl⟩ (Nat.le_of_ble_eq_true rfl) ⟨Nat.le_of_ble_eq_true rfl, Nat.le_of_ble_eq_true rfl⟩ ?_
      refine g_icmp_lt (tgt := 37) dX6_change_23 (by decide) (fun c3 => ?_) (fun c3 => ?_)
      · skip
        have hbad : ¬ ∃ i, i < 7 ∧ nI j = nI i ∧ leastF i ≤ x ∧ x ≤ mostF i := by
          rintro ⟨i, hi, e, z, -⟩
          rw [(nI_eq (by omega) (by omega)).mp e] at c3
          simp only [i_lt, i_le, Int32.reduceToInt] at *
          omega
        refine g_iconst (v := (-1)) dX6_change_37 (by decide) ?_
        refine g_iret dX6_change_38 rfl (Nat.le_refl _) (Nat.le_refl _) ?_
        exact Or.inr ⟨hbad, rfl, rfl⟩
      · skip
        refine g_iload_n dX6_change_26 (by rfl) ?_
        refine g_gets (i := 1) dX6_change_27 fX6_29 (by decide) ?_
        refine g_iload_n dX6_change_30 (by rfl) ?_
        refine g_cN2x dX6_change_31 lX6_25 vX9_cellAt (ct_X9_cellAtS X hj (by omega) hs1) ⟨Nat.le_of_ble_eq_true rfl, Nat.le_of_ble_eq_true rfl⟩ (Nat.le_of_ble_eq_true rfl) ⟨Nat.le_of_ble_eq_true rfl, Nat.le_of_ble_eq_true rfl⟩ ?_
        refine g_icmp_le (tgt := 39) dX6_change_34 (by decide) (fun c4 => ?_) (fun c4 => ?_)
        · skip
          have hle : leastF j ≤ x := by
            simp only [i_lt, i_le, Int32.reduceToInt] at *
            omega
          have hge := c4
          refine g_aload_n dX6_change_39 (by rfl) (by first | exact isRf_r | exact isRf_n | exact isRf_o | assumption) ?_
          refine g_getf dX6_change_40 fX6_9 (by first | assumption | (repeat' (first | assumption | exact hu_same | exact Ne.symm (by assumption) | apply hu_n1))) (by rfl) ?_
          refine g_iload_n dX6_change_43 (by rfl) ?_
          refine g_iaN dX6_change_44 (by first | assumption | (repeat' (first | assumption | exact hu_same | exact Ne.symm (by assumption) | apply hu_n1))) hj (by omega) (by rfl) ?_
          refine g_istore_n (L1 := [(0, _), (1, _), (2, _), (3, _)]) dX6_change_45 (by decide) (by rfl) ?_
          refine g_aload_n dX6_change_46 (by rfl) (by first | exact isRf_r | exact isRf_n | exact isRf_o | assumption) ?_
          refine g_getf dX6_change_47 fX6_9 (by first | assumption | (repeat' (first | assumption | exact hu_same | exact Ne.symm (by assumption) | apply hu_n1))) (by rfl) ?_
          refine g_iload_n dX6_change_50 (by rfl) ?_
          refine g_iload_n dX6_change_51 (by rfl) ?_
          refine g_isN dX6_change_52 (by first | assumption | (repeat' (first | assumption | exact hu_same | exact Ne.symm (by assumption) | apply hu_n1))) hj (by omega) ?_
          refine g_iload_n dX6_change_53 (by rfl) ?_
          refine g_iret dX6_change_54 rfl (Nat.le_refl _) (Nat.le_refl _) ?_
          exact Or.inl ⟨j, hj, rfl, hle, hge, by rw [nr_lt hj], by rw [nr_up hj]⟩
        · skip
          have hbad : ¬ ∃ i, i < 7 ∧ nI j = nI i ∧ leastF i ≤ x ∧ x ≤ mostF i := by
            rintro ⟨i, hi, e, -, z⟩
            rw [(nI_eq (by omega) (by omega)).mp e] at c4
            exact c4 z
          refine g_iconst (v := (-1)) dX6_change_37 (by decide) ?_
          refine g_iret dX6_change_38 rfl (Nat.le_refl _) (Nat.le_refl _) ?_
          exact Or.inr ⟨hbad, rfl, rfl⟩
    · skip
      have hbad : ¬ ∃ j, j < 7 ∧ w = nI j ∧ leastF j ≤ x ∧ x ≤ mostF j := by
        rintro ⟨j, hj, rfl, -, -⟩
        exact absurd (nI_lt hj (by omega)) c2
      refine g_iconst (v := (-1)) dX6_change_13 (by decide) ?_
      refine g_iret dX6_change_14 rfl (Nat.le_refl _) (Nat.le_refl _) ?_
      exact Or.inr ⟨hbad, rfl, rfl⟩

set_option maxHeartbeats 4000000 in
set_option maxRecDepth 100000 in
theorem ct_X6_copyFrom (X : Cx) {h : Hp} {s v s2 v2 : Nat} {r r2 : Nat → Int32}  (hs : SetAt X h s v r) (hs2 : SetAt X h s2 v2 r2) (hne : v2 ≠ v) : Ct X mX6_copyFrom 1 0 0 [.ref s, .ref s2] h (Ev (hu h v (oI X 7 (nr 7 r2)))) := by
  obtain ⟨hs, hv⟩ := hs
  obtain ⟨hs2, hv2⟩ := hs2
  refine Ct.ofG vX6_copyFrom.1.2.2.1 (Nat.le_of_ble_eq_true rfl) ?_
  show G X RX6 cX6_copyFrom 2 none "copyFrom" (Rm 1 0 0) (Fm X (Ev (hu h v (oI X 7 (nr 7 r2)))) 0 0) 0 0 0 [(0, .ref s), (1, .ref s2)] [] h
  refine g_aload_n dX6_copyFrom_0 (by rfl) (by first | exact isRf_r | exact isRf_n | exact isRf_o | assumption) ?_
  refine g_getf dX6_copyFrom_1 fX6_9 (by first | assumption | (repeat' (first | assumption | exact hu_same | exact Ne.symm (by assumption) | apply hu_n1))) (by rfl) ?_
  refine g_aload_n dX6_copyFrom_4 (by rfl) (by first | exact isRf_r | exact isRf_n | exact isRf_o | assumption) ?_
  refine g_getf dX6_copyFrom_5 fX6_9 (by first | assumption | (repeat' (first | assumption | exact hu_same | exact Ne.symm (by assumption) | apply hu_n1))) (by rfl) ?_
  refine g_cN2v dX6_copyFrom_8 lX6_18 vX9_copyRow (ct_X9_copyRow X (by omega) hne hv2 hv) ⟨Nat.le_of_ble_eq_true rfl, Nat.le_of_ble_eq_true rfl⟩ (Nat.le_of_ble_eq_true rfl) ⟨Nat.le_of_ble_eq_true rfl, Nat.le_of_ble_eq_true rfl⟩ ?_
  refine g_vret dX6_copyFrom_11 rfl (Nat.le_refl _) (Nat.le_refl _) ?_
  exact ⟨rfl, rfl⟩

def VatAt (h : Hp) (a : Nat) (y : Nat → Int32) : Prop := h a = some (ob 8 [.int (y 0), .int (y 1), .int (y 2), .int (y 3)])
def lotC (af al : Nat) (x : Nat → Int32) : va_E := ob 2 [.int (x 0), .int (x 1), .int (x 10), .int (x 11), .int (x 12), .int (x 13 - 1), .int (x 14), .ref af, .ref al]
def fixA (X : Cx) (x : Nat → Int32) : va_E := oI X 4 (nr 4 (fun j => x (2 + j)))
def looA (X : Cx) (x : Nat → Int32) : va_E := oI X 4 (nr 4 (fun j => x (6 + j)))
def LotAt (X : Cx) (h : Hp) (a af al : Nat) (x : Nat → Int32) : Prop := h a = some (lotC af al x) ∧ h af = some (fixA X x) ∧ h al = some (looA X x)
def ordC (as : Nat) (x : Nat → Int32) : va_E := ob 3 [.ref as, .int (x 4)]
def OrdAt (X : Cx) (h : Hp) (a as : Nat) (x : Nat → Int32) : Prop := h a = some (ordC as x) ∧ h as = some (oI X 4 (nr 4 x))
def strF (y : Nat → Int32) : Int32 := y 2 / y 1
def ahead (y z : Nat → Int32) : Prop := (strF y ≠ strF z ∧ strF z < strF y) ∨ (strF y = strF z ∧ y 3 ≤ z 3)
theorem ahead_dec (y z : Nat → Int32) : ∃ b : Bool, (b = true ↔ ahead y z) := by
  by_cases h : ahead y z
  · exact ⟨true, by simp [h]⟩
  · exact ⟨false, by simp [h]⟩
theorem i_pos {x : Int32} (h : 0 < x.toInt) : ¬ x ≤ 0 := by
  simp only [i_le, Int32.reduceToInt]
  omega
theorem i_nz {x : Int32} (h : 0 < x.toInt) : ¬ x = 0 := by
  intro e
  subst e
  exact absurd h (by decide)
theorem l_nz {x : Int32} (h : 0 < x.toInt) : ¬ x.toInt64 = 0 := by
  intro e
  have z : x.toInt64.toInt = 0 := by rw [e]; rfl
  rw [Int32.toInt_toInt64] at z
  omega

set_option maxHeartbeats 4000000 in
set_option maxRecDepth 100000 in
theorem ct_X8_copyFrom (X : Cx) {h : Hp} {a b : Nat} {y z : Nat → Int32}  (hne : b ≠ a) (ha : VatAt h a y) (hb : VatAt h b z) : Ct X mX8_copyFrom 0 0 0 [.ref a, .ref b] h (Ev (hu h a (ob 8 [.int (z 0), .int (z 1), .int (z 2), .int (z 3)]))) := by
  unfold VatAt at ha hb
  refine Ct.ofG vX8_copyFrom.1.2.2.1 (Nat.le_of_ble_eq_true rfl) ?_
  show G X RX8 cX8_copyFrom 2 none "copyFrom" (Rm 0 0 0) (Fm X (Ev (hu h a (ob 8 [.int (z 0), .int (z 1), .int (z 2), .int (z 3)]))) 0 0) 0 0 0 [(0, .ref a), (1, .ref b)] [] h
  refine g_aload_n dX8_copyFrom_0 (by rfl) (by first | exact isRf_r | exact isRf_n | exact isRf_o | assumption) ?_
  refine g_aload_n dX8_copyFrom_1 (by rfl) (by first | exact isRf_r | exact isRf_n | exact isRf_o | assumption) ?_
  refine g_getf dX8_copyFrom_2 fX8_7 (by first | assumption | (repeat' (first | assumption | exact hu_same | exact Ne.symm (by assumption) | apply hu_n1))) (by rfl) ?_
  refine g_putf (ty := .int) dX8_copyFrom_5 fX8_7 (by decide +kernel) (by rfl) (by rfl) (by first | assumption | (repeat' (first | assumption | exact hu_same | exact Ne.symm (by assumption) | apply hu_n1))) (by exact Nat.le_of_ble_eq_true rfl) ?_
  refine g_aload_n dX8_copyFrom_8 (by rfl) (by first | exact isRf_r | exact isRf_n | exact isRf_o | assumption) ?_
  refine g_aload_n dX8_copyFrom_9 (by rfl) (by first | exact isRf_r | exact isRf_n | exact isRf_o | assumption) ?_
  refine g_getf dX8_copyFrom_10 fX8_13 (by first | assumption | (repeat' (first | assumption | exact hu_same | exact Ne.symm (by assumption) | apply hu_n1))) (by rfl) ?_
  refine g_putf (ty := .int) dX8_copyFrom_13 fX8_13 (by decide +kernel) (by rfl) (by rfl) (by first | assumption | (repeat' (first | assumption | exact hu_same | exact Ne.symm (by assumption) | apply hu_n1))) (by exact Nat.le_of_ble_eq_true rfl) ?_
  refine g_aload_n dX8_copyFrom_16 (by rfl) (by first | exact isRf_r | exact isRf_n | exact isRf_o | assumption) ?_
  refine g_aload_n dX8_copyFrom_17 (by rfl) (by first | exact isRf_r | exact isRf_n | exact isRf_o | assumption) ?_
  refine g_getf dX8_copyFrom_18 fX8_16 (by first | assumption | (repeat' (first | assumption | exact hu_same | exact Ne.symm (by assumption) | apply hu_n1))) (by rfl) ?_
  refine g_putf (ty := .int) dX8_copyFrom_21 fX8_16 (by decide +kernel) (by rfl) (by rfl) (by first | assumption | (repeat' (first | assumption | exact hu_same | exact Ne.symm (by assumption) | apply hu_n1))) (by exact Nat.le_of_ble_eq_true rfl) ?_
  refine g_aload_n dX8_copyFrom_24 (by rfl) (by first | exact isRf_r | exact isRf_n | exact isRf_o | assumption) ?_
  refine g_aload_n dX8_copyFrom_25 (by rfl) (by first | exact isRf_r | exact isRf_n | exact isRf_o | assumption) ?_
  refine g_getf dX8_copyFrom_26 fX8_19 (by first | assumption | (repeat' (first | assumption | exact hu_same | exact Ne.symm (by assumption) | apply hu_n1))) (by rfl) ?_
  refine g_putf (ty := .int) dX8_copyFrom_29 fX8_19 (by decide +kernel) (by rfl) (by rfl) (by first | assumption | (repeat' (first | assumption | exact hu_same | exact Ne.symm (by assumption) | apply hu_n1))) (by exact Nat.le_of_ble_eq_true rfl) ?_
  refine g_vret dX8_copyFrom_32 rfl (Nat.le_refl _) (Nat.le_refl _) ?_
  exact ⟨rfl, by simp only [hu_hu]; rfl⟩

set_option maxHeartbeats 4000000 in
set_option maxRecDepth 100000 in
theorem ct_X8_strength (X : Cx) {h : Hp} {a : Nat} {y : Nat → Int32}  (hp : 0 < (y 1).toInt) (ha : VatAt h a y) : Ct X mX8_strength 0 0 0 [.ref a] h (Ex (.int (strF y)) h) := by
  unfold VatAt at ha
  refine Ct.ofG vX8_strength.1.2.2.1 (Nat.le_of_ble_eq_true rfl) ?_
  show G X RX8 cX8_strength 1 (some .int) "strength" (Rm 0 0 0) (Fm X (Ex (.int (strF y)) h) 0 0) 0 0 0 [(0, .ref a)] [] h
  refine g_aload_n dX8_strength_0 (by rfl) (by first | exact isRf_r | exact isRf_n | exact isRf_o | assumption) ?_
  refine g_getf dX8_strength_1 fX8_13 (by first | assumption | (repeat' (first | assumption | exact hu_same | exact Ne.symm (by assumption) | apply hu_n1))) (by rfl) ?_
  refine g_if_le (tgt := 19) dX8_strength_4 (by decide) (fun c1 => absurd c1 (i_pos hp)) (fun c1 => ?_)
  refine g_aload_n dX8_strength_7 (by rfl) (by first | exact isRf_r | exact isRf_n | exact isRf_o | assumption) ?_
  refine g_getf dX8_strength_8 fX8_16 (by first | assumption | (repeat' (first | assumption | exact hu_same | exact Ne.symm (by assumption) | apply hu_n1))) (by rfl) ?_
  refine g_aload_n dX8_strength_11 (by rfl) (by first | exact isRf_r | exact isRf_n | exact isRf_o | assumption) ?_
  refine g_getf dX8_strength_12 fX8_13 (by first | assumption | (repeat' (first | assumption | exact hu_same | exact Ne.symm (by assumption) | apply hu_n1))) (by rfl) ?_
  refine g_idiv dX8_strength_15 (i_nz hp) ?_
  refine g_goto (tgt := 20) dX8_strength_16 (by decide) ?_
  refine g_iret dX8_strength_20 rfl (Nat.le_refl _) (Nat.le_refl _) ?_
  exact ⟨rfl, rfl⟩

set_option maxHeartbeats 4000000 in
set_option maxRecDepth 100000 in
theorem ct_X8_spoils (X : Cx) {h : Hp} {a s v : Nat} {y r : Nat → Int32}  (hs : SetAt X h s v r) (ha : VatAt h a y) : Ct X mX8_spoils 1 0 0 [.ref a, .ref s] h (Ex (.int (bI (decide (r 2 < y 3)))) h) := by
  unfold VatAt at ha
  have hs0 := hs.1
  refine Ct.ofG vX8_spoils.1.2.2.1 (Nat.le_of_ble_eq_true rfl) ?_
  show G X RX8 cX8_spoils 2 (some .boolean) "spoils" (Rm 1 0 0) (Fm X (Ex (.int (bI (decide (r 2 < y 3)))) h) 0 0) 0 0 0 [(0, .ref a), (1, .ref s)] [] h
  refine g_aload_n dX8_spoils_0 (by rfl) (by first | exact isRf_r | exact isRf_n | exact isRf_o | assumption) ?_
  refine g_getf dX8_spoils_1 fX8_19 (by first | assumption | (repeat' (first | assumption | exact hu_same | exact Ne.symm (by assumption) | apply hu_n1))) (by rfl) ?_
  refine g_aload_n dX8_spoils_4 (by rfl) (by first | exact isRf_r | exact isRf_n | exact isRf_o | assumption) ?_
  refine g_iconst (v := 2) dX8_spoils_5 (by decide) ?_
  refine g_cV1x dX8_spoils_6 lX8_24 vX6_valueOf (ct_X6_valueOf X (j := 2) (by omega) hs) (by first | assumption | (repeat' (first | assumption | exact hu_same | exact Ne.symm (by assumption) | apply hu_n1))) rfl ⟨Nat.le_of_ble_eq_true rfl, Nat.le_of_ble_eq_true rfl⟩ (Nat.le_of_ble_eq_true rfl) ⟨Nat.le_of_ble_eq_true rfl, Nat.le_of_ble_eq_true rfl⟩ ?_
  refine g_icmp_le (tgt := 16) dX8_spoils_9 (by decide) (fun c1 => ?_) (fun c1 => ?_)
  · skip
    refine g_iconst (v := 0) dX8_spoils_16 (by decide) ?_
    refine g_zret dX8_spoils_17 rfl (by decide) (Nat.le_refl _) (Nat.le_refl _) ?_
    exact Ex.i (by first | exact bI_t (by simp only [i_lt, i_le] at *; omega) | exact bI_f (fun z => by simp only [i_lt, i_le] at *; omega)) rfl
  · skip
    refine g_iconst (v := 1) dX8_spoils_12 (by decide) ?_
    refine g_goto (tgt := 17) dX8_spoils_13 (by decide) ?_
    refine g_zret dX8_spoils_17 rfl (by decide) (Nat.le_refl _) (Nat.le_refl _) ?_
    exact Ex.i (by first | exact bI_t (by simp only [i_lt, i_le] at *; omega) | exact bI_f (fun z => by simp only [i_lt, i_le] at *; omega)) rfl

set_option maxHeartbeats 4000000 in
set_option maxRecDepth 100000 in
theorem ct_X8_isAheadOfLater (X : Cx) {h : Hp} {a b : Nat} {y z : Nat → Int32} {t : Bool}  (ht : t = true ↔ ahead y z) (hp : 0 < (y 1).toInt) (hq : 0 < (z 1).toInt) (ha : VatAt h a y) (hb : VatAt h b z) : Ct X mX8_isAheadOfLater 1 0 0 [.ref a, .ref b] h (Ex (.int (bI t)) h) := by
  have ha0 := ha
  have hb0 := hb
  unfold VatAt at ha0 hb0
  refine Ct.ofG vX8_isAheadOfLater.1.2.2.1 (Nat.le_of_ble_eq_true rfl) ?_
  show G X RX8 cX8_isAheadOfLater 2 (some .boolean) "isAheadOfLater" (Rm 1 0 0) (Fm X (Ex (.int (bI t)) h) 0 0) 0 0 0 [(0, .ref a), (1, .ref b)] [] h
  refine g_aload_n dX8_isAheadOfLater_0 (by rfl) (by first | exact isRf_r | exact isRf_n | exact isRf_o | assumption) ?_
  refine g_cV0x dX8_isAheadOfLater_1 lX8_28 vX8_strength (ct_X8_strength X hp ha) (by first | assumption | (repeat' (first | assumption | exact hu_same | exact Ne.symm (by assumption) | apply hu_n1))) rfl ⟨Nat.le_of_ble_eq_true rfl, Nat.le_of_ble_eq_true rfl⟩ (Nat.le_of_ble_eq_true rfl) ⟨Nat.le_of_ble_eq_true rfl, Nat.le_of_ble_eq_true rfl⟩ ?_
  refine g_aload_n dX8_isAheadOfLater_4 (by rfl) (by first | exact isRf_r | exact isRf_n | exact isRf_o | assumption) ?_
  refine g_cV0x dX8_isAheadOfLater_5 lX8_28 vX8_strength (ct_X8_strength X hq hb) (by first | assumption | (repeat' (first | assumption | exact hu_same | exact Ne.symm (by assumption) | apply hu_n1))) rfl ⟨Nat.le_of_ble_eq_true rfl, Nat.le_of_ble_eq_true rfl⟩ (Nat.le_of_ble_eq_true rfl) ⟨Nat.le_of_ble_eq_true rfl, Nat.le_of_ble_eq_true rfl⟩ ?_
  refine g_icmp_eq (tgt := 28) dX8_isAheadOfLater_8 (by decide) (fun c1 => ?_) (fun c1 => ?_)
  · skip
    have c1 := c1
    refine g_aload_n dX8_isAheadOfLater_28 (by rfl) (by first | exact isRf_r | exact isRf_n | exact isRf_o | assumption) ?_
    refine g_getf dX8_isAheadOfLater_29 fX8_19 (by first | assumption | (repeat' (first | assumption | exact hu_same | exact Ne.symm (by assumption) | apply hu_n1))) (by rfl) ?_
    refine g_aload_n dX8_isAheadOfLater_32 (by rfl) (by first | exact isRf_r | exact isRf_n | exact isRf_o | assumption) ?_
    refine g_getf dX8_isAheadOfLater_33 fX8_19 (by first | assumption | (repeat' (first | assumption | exact hu_same | exact Ne.symm (by assumption) | apply hu_n1))) (by rfl) ?_
    refine g_icmp_gt (tgt := 43) dX8_isAheadOfLater_36 (by decide) (fun c2 => ?_) (fun c2 => ?_)
    · skip
      refine g_iconst (v := 0) dX8_isAheadOfLater_43 (by decide) ?_
      refine g_zret dX8_isAheadOfLater_44 rfl (by decide) (Nat.le_refl _) (Nat.le_refl _) ?_
      exact Ex.i (by
            have ht1 : ∀ p : Prop, (p ↔ ahead y z) → p → t = true := fun p e q => ht.mpr (e.mp q)
            have ht2 : ¬ ahead y z → t = false := fun q => by cases t with | false => rfl | true => exact absurd (ht.mp rfl) q
            first
              | (rw [ht.mpr (Or.inl ⟨c1, by simp only [i_lt, i_le] at *; omega⟩)]; rfl)
              | (rw [ht.mpr (Or.inr ⟨c1, by simp only [i_lt, i_le] at *; omega⟩)]; rfl)
              | (rw [ht2 (fun q => by
                  rcases q with ⟨q1, q2⟩ | ⟨q1, q2⟩ <;> first | exact absurd c1 q1 | exact absurd q1 c1 | (simp only [i_lt, i_le] at *; omega))]; rfl)) rfl
    · skip
      refine g_iconst (v := 1) dX8_isAheadOfLater_39 (by decide) ?_
      refine g_goto (tgt := 44) dX8_isAheadOfLater_40 (by decide) ?_
      refine g_zret dX8_isAheadOfLater_44 rfl (by decide) (Nat.le_refl _) (Nat.le_refl _) ?_
      exact Ex.i (by
            have ht1 : ∀ p : Prop, (p ↔ ahead y z) → p → t = true := fun p e q => ht.mpr (e.mp q)
            have ht2 : ¬ ahead y z → t = false := fun q => by cases t with | false => rfl | true => exact absurd (ht.mp rfl) q
            first
              | (rw [ht.mpr (Or.inl ⟨c1, by simp only [i_lt, i_le] at *; omega⟩)]; rfl)
              | (rw [ht.mpr (Or.inr ⟨c1, by simp only [i_lt, i_le] at *; omega⟩)]; rfl)
              | (rw [ht2 (fun q => by
                  rcases q with ⟨q1, q2⟩ | ⟨q1, q2⟩ <;> first | exact absurd c1 q1 | exact absurd q1 c1 | (simp only [i_lt, i_le] at *; omega))]; rfl)) rfl
  · skip
    refine g_aload_n dX8_isAheadOfLater_11 (by rfl) (by first | exact isRf_r | exact isRf_n | exact isRf_o | assumption) ?_
    refine g_cV0x dX8_isAheadOfLater_12 lX8_28 vX8_strength (ct_X8_strength X hp ha) (by first | assumption | (repeat' (first | assumption | exact hu_same | exact Ne.symm (by assumption) | apply hu_n1))) rfl ⟨Nat.le_of_ble_eq_true rfl, Nat.le_of_ble_eq_true rfl⟩ (Nat.le_of_ble_eq_true rfl) ⟨Nat.le_of_ble_eq_true rfl, Nat.le_of_ble_eq_true rfl⟩ ?_
    refine g_aload_n dX8_isAheadOfLater_15 (by rfl) (by first | exact isRf_r | exact isRf_n | exact isRf_o | assumption) ?_
    refine g_cV0x dX8_isAheadOfLater_16 lX8_28 vX8_strength (ct_X8_strength X hq hb) (by first | assumption | (repeat' (first | assumption | exact hu_same | exact Ne.symm (by assumption) | apply hu_n1))) rfl ⟨Nat.le_of_ble_eq_true rfl, Nat.le_of_ble_eq_true rfl⟩ (Nat.le_of_ble_eq_true rfl) ⟨Nat.le_of_ble_eq_true rfl, Nat.le_of_ble_eq_true rfl⟩ ?_
    refine g_icmp_le (tgt := 26) dX8_isAheadOfLater_19 (by decide) (fun c3 => ?_) (fun c3 => ?_)
    · skip
      refine g_iconst (v := 0) dX8_isAheadOfLater_26 (by decide) ?_
      refine g_zret dX8_isAheadOfLater_27 rfl (by decide) (Nat.le_refl _) (Nat.le_refl _) ?_
      exact Ex.i (by
            have ht1 : ∀ p : Prop, (p ↔ ahead y z) → p → t = true := fun p e q => ht.mpr (e.mp q)
            have ht2 : ¬ ahead y z → t = false := fun q => by cases t with | false => rfl | true => exact absurd (ht.mp rfl) q
            first
              | (rw [ht.mpr (Or.inl ⟨c1, by simp only [i_lt, i_le] at *; omega⟩)]; rfl)
              | (rw [ht.mpr (Or.inr ⟨c1, by simp only [i_lt, i_le] at *; omega⟩)]; rfl)
              | (rw [ht2 (fun q => by
                  rcases q with ⟨q1, q2⟩ | ⟨q1, q2⟩ <;> first | exact absurd c1 q1 | exact absurd q1 c1 | (simp only [i_lt, i_le] at *; omega))]; rfl)) rfl
    · skip
      refine g_iconst (v := 1) dX8_isAheadOfLater_22 (by decide) ?_
      refine g_goto (tgt := 27) dX8_isAheadOfLater_23 (by decide) ?_
      refine g_zret dX8_isAheadOfLater_27 rfl (by decide) (Nat.le_refl _) (Nat.le_refl _) ?_
      exact Ex.i (by
            have ht1 : ∀ p : Prop, (p ↔ ahead y z) → p → t = true := fun p e q => ht.mpr (e.mp q)
            have ht2 : ¬ ahead y z → t = false := fun q => by cases t with | false => rfl | true => exact absurd (ht.mp rfl) q
            first
              | (rw [ht.mpr (Or.inl ⟨c1, by simp only [i_lt, i_le] at *; omega⟩)]; rfl)
              | (rw [ht.mpr (Or.inr ⟨c1, by simp only [i_lt, i_le] at *; omega⟩)]; rfl)
              | (rw [ht2 (fun q => by
                  rcases q with ⟨q1, q2⟩ | ⟨q1, q2⟩ <;> first | exact absurd c1 q1 | exact absurd q1 c1 | (simp only [i_lt, i_le] at *; omega))]; rfl)) rfl
