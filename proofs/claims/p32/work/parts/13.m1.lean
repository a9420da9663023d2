/-- numbers of an array beyond its length are nothing -/
def nr (n : Nat) (g : Nat → Int32) : Nat → Int32 := fun j => if j < n then g j else 0
theorem nr_lt {n j : Nat} {g : Nat → Int32} (h : j < n) : nr n g j = g j := if_pos h
theorem nr_up {n j : Nat} {g : Nat → Int32} {x : Int32} (h : j < n) : upd (nr n g) j x = nr n (upd g j x) := by
  funext i
  unfold upd nr
  by_cases e : i = j
  · subst e
    simp [h]
  · simp [e]
theorem nr_ext {n : Nat} {f g : Nat → Int32} (h : ∀ j, j < n → f j = g j) : nr n f = nr n g := by
  funext j
  unfold nr
  by_cases e : j < n
  · simp [e, h j e]
  · simp [e]
theorem hu_hu {h : Hp} {a : Nat} {e f : va_E} : hu (hu h a e) a f = hu h a f := by
  funext q
  unfold hu
  by_cases z : q = a <;> simp [z]
theorem hu_id {h : Hp} {a : Nat} {e : va_E} (z : h a = some e) : hu h a e = h := by
  funext q
  unfold hu
  by_cases w : q = a
  · subst w
    simp [z]
  · simp [w]
theorem ne_oo {X : Cx} {h : Hp} {a b ci n : Nat} {fs : List Value} {f : Nat → Int32} (h1 : h a = some (ob ci fs)) (h2 : h b = some (oI X n f)) : a ≠ b := by
  intro e
  subst e
  rw [h1] at h2
  simp [ob, oI] at h2
def sumI (g : Nat → Int32) : Nat → Int32
  | 0 => 0
  | k + 1 => sumI g k + g k
theorem up_ind {P : Nat → Prop} (N : Nat) (h : ∀ j, j ≤ N → (j < N → P (j + 1)) → P j) : ∀ j, j ≤ N → P j := by
  have k : ∀ d j, j + d = N → P j := by
    intro d
    induction d with
    | zero => exact fun j e => h j (by omega) (fun z => absurd z (by omega))
    | succ d ih => exact fun j e => h j (by omega) (fun _ => ih (j + 1) (by omega))
  exact fun j hj => k (N - j) j (by omega)
theorem c_ge {a b : Nat} (ha : a < 2 ^ 31) (hb : b < 2 ^ 31) (c : nI a ≤ nI b) : a ≤ b := (nI_leI ha hb).mp c
theorem c_nge {a b : Nat} (ha : a < 2 ^ 31) (hb : b < 2 ^ 31) (c : ¬ nI a ≤ nI b) : b < a := Nat.lt_of_not_le (fun z => c ((nI_leI ha hb).mpr z))
theorem c_neg {a : Nat} (ha : a < 2 ^ 31) : ¬ nI a < 0 := nI_pos ha
/-- booleans as ints -/
def bI (b : Bool) : Int32 := match b with
  | true => 1
  | false => 0
theorem bI_0 {b : Bool} (h : bI b = 0) : b = false := by cases b; rfl; exact absurd h (by decide)
theorem bI_1 {b : Bool} (h : ¬ bI b = 0) : b = true := by cases b; exact absurd rfl h; rfl
theorem bI_d0 (p : Prop) {i : Decidable p} (h : bI (decide p) = 0) : ¬ p := of_decide_eq_false (bI_0 h)
theorem bI_d1 (p : Prop) {i : Decidable p} (h : ¬ bI (decide p) = 0) : p := of_decide_eq_true (bI_1 h)
theorem bI_t {p : Prop} {i : Decidable p} (h : p) : (1 : Int32) = bI (decide p) := by rw [decide_eq_true h]; rfl
theorem bI_f {p : Prop} {i : Decidable p} (h : ¬ p) : (0 : Int32) = bI (decide p) := by rw [decide_eq_false h]; rfl
theorem bI_nz (b : Bool) : narrow .boolean (.int (bI b)) = .int (bI b) := by cases b <;> decide
theorem bz_n {x : Int32} (h : x = 0 ∨ x = 1) : narrow .boolean (.int x) = .int x := by rcases h with rfl | rfl <;> decide
theorem bz_f {x : Int32} (h : x = 0 ∨ x = 1) : fits .boolean (.int x) = true := by rcases h with rfl | rfl <;> decide
theorem i_lt {x y : Int32} : x < y ↔ x.toInt < y.toInt := Int32.lt_iff_toInt_lt
theorem i_le {x y : Int32} : x ≤ y ↔ x.toInt ≤ y.toInt := Int32.le_iff_toInt_le
theorem i_nI {n : Nat} (h : n < 1000) : (nI n).toInt = n := nI_toInt (by omega)
theorem i_sm {x : Int32} {n : Nat} (h0 : 0 ≤ x.toInt) (h1 : x.toInt < n) (hn : n < 2 ^ 31) : ∃ j : Nat, j < n ∧ x = nI j := vp_in_of (vp_in_iff.mpr ⟨h0, h1⟩) hn

set_option maxHeartbeats 4000000 in
set_option maxRecDepth 100000 in
theorem ct_X9_isDye (X : Cx) {h : Hp} {d : Int32}  : Ct X mX9_isDye 0 0 0 [.int d] h (Ex (.int (bI (decide (0 ≤ d ∧ d < 4)))) h) := by
  refine Ct.ofG vX9_isDye.1.2.2.1 (Nat.le_of_ble_eq_true rfl) ?_
  show G X RX9 cX9_isDye 1 (some .boolean) "isDye" (Rm 0 0 0) (Fm X (Ex (.int (bI (decide (0 ≤ d ∧ d < 4)))) h) 0 0) 0 0 0 [(0, .int d)] [] h
  refine g_iload_n dX9_isDye_0 (by rfl) ?_
  refine g_if_lt (tgt := 13) dX9_isDye_1 (by decide) (fun c1 => ?_) (fun c1 => ?_)
  · skip
    refine g_iconst (v := 0) dX9_isDye_13 (by decide) ?_
    refine g_zret dX9_isDye_14 rfl (by decide) (Nat.le_refl _) (Nat.le_refl _) ?_
    exact Ex.i (by first | exact bI_t ⟨by simpa using c1, by simpa using c2⟩ | exact bI_f (fun z => by have z1 := z.1; have z2 := z.2; simp only [i_lt, i_le] at *; omega)) rfl
  · skip
    refine g_iload_n dX9_isDye_4 (by rfl) ?_
    refine g_iconst (v := 4) dX9_isDye_5 (by decide) ?_
    refine g_icmp_ge (tgt := 13) dX9_isDye_6 (by decide) (fun c2 => ?_) (fun c2 => ?_)
    · skip
      refine g_iconst (v := 0) dX9_isDye_13 (by decide) ?_
      refine g_zret dX9_isDye_14 rfl (by decide) (Nat.le_refl _) (Nat.le_refl _) ?_
      exact Ex.i (by first | exact bI_t ⟨by simpa using c1, by simpa using c2⟩ | exact bI_f (fun z => by have z1 := z.1; have z2 := z.2; simp only [i_lt, i_le] at *; omega)) rfl
    · skip
      refine g_iconst (v := 1) dX9_isDye_9 (by decide) ?_
      refine g_goto (tgt := 14) dX9_isDye_10 (by decide) ?_
      refine g_zret dX9_isDye_14 rfl (by decide) (Nat.le_refl _) (Nat.le_refl _) ?_
      exact Ex.i (by first | exact bI_t ⟨by simpa using c1, by simpa using c2⟩ | exact bI_f (fun z => by have z1 := z.1; have z2 := z.2; simp only [i_lt, i_le] at *; omega)) rfl

set_option maxHeartbeats 4000000 in
set_option maxRecDepth 100000 in
theorem ct_X9_oneIf (X : Cx) {h : Hp} {x : Bool}  : Ct X mX9_oneIf 0 0 0 [.int (bI x)] h (Ex (.int (bI x)) h) := by
  refine Ct.ofG vX9_oneIf.1.2.2.1 (Nat.le_of_ble_eq_true rfl) ?_
  show G X RX9 cX9_oneIf 1 (some .int) "oneIf" (Rm 0 0 0) (Fm X (Ex (.int (bI x)) h) 0 0) 0 0 0 [(0, .int (bI x))] [] h
  refine g_iload_n dX9_oneIf_0 (by rfl) ?_
  refine g_if_eq (tgt := 8) dX9_oneIf_1 (by decide) (fun c1 => ?_) (fun c1 => ?_)
  · skip
    refine g_iconst (v := 0) dX9_oneIf_8 (by decide) ?_
    refine g_iret dX9_oneIf_9 rfl (Nat.le_refl _) (Nat.le_refl _) ?_
    exact Ex.i (by first | (rw [bI_0 c1]; rfl) | (rw [bI_1 c1]; rfl)) rfl
  · skip
    refine g_iconst (v := 1) dX9_oneIf_4 (by decide) ?_
    refine g_goto (tgt := 9) dX9_oneIf_5 (by decide) ?_
    refine g_iret dX9_oneIf_9 rfl (Nat.le_refl _) (Nat.le_refl _) ?_
    exact Ex.i (by first | (rw [bI_0 c1]; rfl) | (rw [bI_1 c1]; rfl)) rfl

set_option maxHeartbeats 4000000 in
set_option maxRecDepth 100000 in
theorem ct_X9_distance (X : Cx) {h : Hp} {x y : Int32}  : Ct X mX9_distance 0 0 0 [.int x, .int y] h (Ex (.int (if x < y then y - x else x - y)) h) := by
  refine Ct.ofG vX9_distance.1.2.2.1 (Nat.le_of_ble_eq_true rfl) ?_
  show G X RX9 cX9_distance 2 (some .int) "distance" (Rm 0 0 0) (Fm X (Ex (.int (if x < y then y - x else x - y)) h) 0 0) 0 0 0 [(0, .int x), (1, .int y)] [] h
  refine g_iload_n dX9_distance_0 (by rfl) ?_
  refine g_iload_n dX9_distance_1 (by rfl) ?_
  refine g_icmp_lt (tgt := 11) dX9_distance_2 (by decide) (fun c1 => ?_) (fun c1 => ?_)
  · skip
    refine g_iload_n dX9_distance_11 (by rfl) ?_
    refine g_iload_n dX9_distance_12 (by rfl) ?_
    refine g_isub dX9_distance_13 ?_
    refine g_iret dX9_distance_14 rfl (Nat.le_refl _) (Nat.le_refl _) ?_
    exact Ex.i (by simp [c1]) rfl
  · skip
    refine g_iload_n dX9_distance_5 (by rfl) ?_
    refine g_iload_n dX9_distance_6 (by rfl) ?_
    refine g_isub dX9_distance_7 ?_
    refine g_goto (tgt := 14) dX9_distance_8 (by decide) ?_
    refine g_iret dX9_distance_14 rfl (Nat.le_refl _) (Nat.le_refl _) ?_
    exact Ex.i (by simp [c1]) rfl

set_option maxHeartbeats 4000000 in
set_option maxRecDepth 100000 in
theorem ct_X9_cellAtI (X : Cx) {h : Hp} {a N j : Nat} {f : Nat → Int32}  (hj : j < N) (hN : N < 1000) (ha : h a = some (oI X N f)) : Ct X mX9_cellAt 0 0 0 [.ref a, .int (nI j)] h (Ex (.int (f j)) h) := by
  refine Ct.ofG vX9_cellAt.1.2.2.1 (Nat.le_of_ble_eq_true rfl) ?_
  show G X RX9 cX9_cellAt 2 (some .int) "cellAt" (Rm 0 0 0) (Fm X (Ex (.int (f j)) h) 0 0) 0 0 0 [(0, .ref a), (1, .int (nI j))] [] h
  refine g_iload_n dX9_cellAt_0 (by rfl) ?_
  refine g_if_lt (tgt := 16) dX9_cellAt_1 (by decide) (fun c1 => absurd c1 (c_neg (by omega))) (fun c1 => ?_)
  refine g_iload_n dX9_cellAt_4 (by rfl) ?_
  refine g_aload_n dX9_cellAt_5 (by rfl) (by first | exact isRf_r | exact isRf_n | exact isRf_o | assumption) ?_
  refine g_alenI dX9_cellAt_6 (by first | assumption | (repeat' (first | assumption | exact hu_same | exact Ne.symm (by assumption) | apply hu_n1))) ?_
  refine g_icmp_ge (tgt := 16) dX9_cellAt_7 (by decide) (fun c2 => absurd (c_ge (by omega) (by omega) c2) (by omega)) (fun c2 => ?_)
  refine g_aload_n dX9_cellAt_10 (by rfl) (by first | exact isRf_r | exact isRf_n | exact isRf_o | assumption) ?_
  refine g_iload_n dX9_cellAt_11 (by rfl) ?_
  refine g_iaN dX9_cellAt_12 (by first | assumption | (repeat' (first | assumption | exact hu_same | exact Ne.symm (by assumption) | apply hu_n1))) hj (by omega) (by rfl) ?_
  refine g_goto (tgt := 17) dX9_cellAt_13 (by decide) ?_
  refine g_iret dX9_cellAt_17 rfl (Nat.le_refl _) (Nat.le_refl _) ?_
  exact ⟨rfl, rfl⟩

set_option maxHeartbeats 4000000 in
set_option maxRecDepth 100000 in
theorem ct_X9_cellAtS (X : Cx) {h : Hp} {a N j : Nat} {f : Nat → Int32}  (hj : j < N) (hN : N < 1000) (ha : h a = some (sI N f)) : Ct X mX9_cellAt 0 0 0 [.ref a, .int (nI j)] h (Ex (.int (f j)) h) := by
  refine Ct.ofG vX9_cellAt.1.2.2.1 (Nat.le_of_ble_eq_true rfl) ?_
  show G X RX9 cX9_cellAt 2 (some .int) "cellAt" (Rm 0 0 0) (Fm X (Ex (.int (f j)) h) 0 0) 0 0 0 [(0, .ref a), (1, .int (nI j))] [] h
  refine g_iload_n dX9_cellAt_0 (by rfl) ?_
  refine g_if_lt (tgt := 16) dX9_cellAt_1 (by decide) (fun c1 => absurd c1 (c_neg (by omega))) (fun c1 => ?_)
  refine g_iload_n dX9_cellAt_4 (by rfl) ?_
  refine g_aload_n dX9_cellAt_5 (by rfl) (by first | exact isRf_r | exact isRf_n | exact isRf_o | assumption) ?_
  refine g_alenS dX9_cellAt_6 (by first | assumption | (repeat' (first | assumption | exact hu_same | exact Ne.symm (by assumption) | apply hu_n1))) ?_
  refine g_icmp_ge (tgt := 16) dX9_cellAt_7 (by decide) (fun c2 => absurd (c_ge (by omega) (by omega) c2) (by omega)) (fun c2 => ?_)
  refine g_aload_n dX9_cellAt_10 (by rfl) (by first | exact isRf_r | exact isRf_n | exact isRf_o | assumption) ?_
  refine g_iload_n dX9_cellAt_11 (by rfl) ?_
  refine g_iaS dX9_cellAt_12 (by first | assumption | (repeat' (first | assumption | exact hu_same | exact Ne.symm (by assumption) | apply hu_n1))) hj (by omega) (by rfl) ?_
  refine g_goto (tgt := 17) dX9_cellAt_13 (by decide) ?_
  refine g_iret dX9_cellAt_17 rfl (Nat.le_refl _) (Nat.le_refl _) ?_
  exact ⟨rfl, rfl⟩

set_option maxHeartbeats 4000000 in
set_option maxRecDepth 100000 in
theorem ct_X9_putAt (X : Cx) {h : Hp} {a N j : Nat} {x : Int32} {f : Nat → Int32}  (hj : j < N) (hN : N < 1000) (ha : h a = some (oI X N f)) : Ct X mX9_putAt 0 0 0 [.ref a, .int (nI j), .int x] h (Ev (hu h a (oI X N (upd f j x)))) := by
  refine Ct.ofG vX9_putAt.1.2.2.1 (Nat.le_of_ble_eq_true rfl) ?_
  show G X RX9 cX9_putAt 3 none "putAt" (Rm 0 0 0) (Fm X (Ev (hu h a (oI X N (upd f j x)))) 0 0) 0 0 0 [(0, .ref a), (1, .int (nI j)), (2, .int x)] [] h
  refine g_iload_n dX9_putAt_0 (by rfl) ?_
  refine g_if_lt (tgt := 14) dX9_putAt_1 (by decide) (fun c1 => absurd c1 (c_neg (by omega))) (fun c1 => ?_)
  refine g_iload_n dX9_putAt_4 (by rfl) ?_
  refine g_aload_n dX9_putAt_5 (by rfl) (by first | exact isRf_r | exact isRf_n | exact isRf_o | assumption) ?_
  refine g_alenI dX9_putAt_6 (by first | assumption | (repeat' (first | assumption | exact hu_same | exact Ne.symm (by assumption) | apply hu_n1))) ?_
  refine g_icmp_ge (tgt := 14) dX9_putAt_7 (by decide) (fun c2 => absurd (c_ge (by omega) (by omega) c2) (by omega)) (fun c2 => ?_)
  refine g_aload_n dX9_putAt_10 (by rfl) (by first | exact isRf_r | exact isRf_n | exact isRf_o | assumption) ?_
  refine g_iload_n dX9_putAt_11 (by rfl) ?_
  refine g_iload_n dX9_putAt_12 (by rfl) ?_
  refine g_isN dX9_putAt_13 (by first | assumption | (repeat' (first | assumption | exact hu_same | exact Ne.symm (by assumption) | apply hu_n1))) hj (by omega) ?_
  refine g_vret dX9_putAt_14 rfl (Nat.le_refl _) (Nat.le_refl _) ?_
  exact ⟨rfl, rfl⟩

set_option maxHeartbeats 4000000 in
set_option maxRecDepth 100000 in
theorem ct_X9_addTo (X : Cx) {h : Hp} {a N j : Nat} {x : Int32} {f : Nat → Int32}  (hj : j < N) (hN : N < 1000) (ha : h a = some (oI X N f)) : Ct X mX9_addTo 0 0 0 [.ref a, .int (nI j), .int x] h (Ev (hu h a (oI X N (upd f j (f j + x))))) := by
  refine Ct.ofG vX9_addTo.1.2.2.1 (Nat.le_of_ble_eq_true rfl) ?_
  show G X RX9 cX9_addTo 3 none "addTo" (Rm 0 0 0) (Fm X (Ev (hu h a (oI X N (upd f j (f j + x))))) 0 0) 0 0 0 [(0, .ref a), (1, .int (nI j)), (2, .int x)] [] h
  refine g_iload_n dX9_addTo_0 (by rfl) ?_
  refine g_if_lt (tgt := 17) dX9_addTo_1 (by decide) (fun c1 => absurd c1 (c_neg (by omega))) (fun c1 => ?_)
  refine g_iload_n dX9_addTo_4 (by rfl) ?_
  refine g_aload_n dX9_addTo_5 (by rfl) (by first | exact isRf_r | exact isRf_n | exact isRf_o | assumption) ?_
  refine g_alenI dX9_addTo_6 (by first | assumption | (repeat' (first | assumption | exact hu_same | exact Ne.symm (by assumption) | apply hu_n1))) ?_
  refine g_icmp_ge (tgt := 17) dX9_addTo_7 (by decide) (fun c2 => absurd (c_ge (by omega) (by omega) c2) (by omega)) (fun c2 => ?_)
  refine g_aload_n dX9_addTo_10 (by rfl) (by first | exact isRf_r | exact isRf_n | exact isRf_o | assumption) ?_
  refine g_iload_n dX9_addTo_11 (by rfl) ?_
  refine g_dup2 dX9_addTo_12 (by rfl) (by rfl) ?_
  refine g_iaN dX9_addTo_13 (by first | assumption | (repeat' (first | assumption | exact hu_same | exact Ne.symm (by assumption) | apply hu_n1))) hj (by omega) (by rfl) ?_
  refine g_iload_n dX9_addTo_14 (by rfl) ?_
  refine g_iadd dX9_addTo_15 ?_
  refine g_isN dX9_addTo_16 (by first | assumption | (repeat' (first | assumption | exact hu_same | exact Ne.symm (by assumption) | apply hu_n1))) hj (by omega) ?_
  refine g_vret dX9_addTo_17 rfl (Nat.le_refl _) (Nat.le_refl _) ?_
  exact ⟨rfl, rfl⟩

set_option maxHeartbeats 4000000 in
set_option maxRecDepth 100000 in
theorem ct_X9_sumOf (X : Cx) {h : Hp} {a N : Nat} {f : Nat → Int32}  (hN : N < 1000) (ha : h a = some (oI X N f)) : Ct X mX9_sumOf 0 0 0 [.ref a] h (Ex (.int (sumI f N)) h) := by
  refine Ct.ofG vX9_sumOf.1.2.2.1 (Nat.le_of_ble_eq_true rfl) ?_
  show G X RX9 cX9_sumOf 3 (some .int) "sumOf" (Rm 0 0 0) (Fm X (Ex (.int (sumI f N)) h) 0 0) 0 0 0 [(0, .ref a)] [] h
  refine g_iconst (v := 0) dX9_sumOf_0 (by decide) ?_
  refine g_istore_n (L1 := [(0, _), (1, _)]) dX9_sumOf_1 (by decide) (by rfl) ?_
  refine g_iconst (v := 0) dX9_sumOf_2 (by decide) ?_
  refine g_istore_n (L1 := [(0, _), (1, _), (2, _)]) dX9_sumOf_3 (by decide) (by rfl) ?_
  have loop4 : ∀ j, j ≤ N → G X RX9 cX9_sumOf 3 (some .int) "sumOf" (Rm 0 0 0) (Fm X (Ex (.int (sumI f N)) h) 0 0) 0 0 4 [(0, .ref a), (1, .int (sumI f j)), (2, .int (nI j))] [] h := by
    refine up_ind N (fun j hj ih => ?_)
    refine g_iload_n dX9_sumOf_4 (by rfl) ?_
    refine g_aload_n dX9_sumOf_5 (by rfl) (by first | exact isRf_r | exact isRf_n | exact isRf_o | assumption) ?_
    refine g_alenI dX9_sumOf_6 (by first | assumption | (repeat' (first | assumption | exact hu_same | exact Ne.symm (by assumption) | apply hu_n1))) ?_
    refine g_icmp_ge (tgt := 22) dX9_sumOf_7 (by decide) (fun c1 => ?_) (fun c1 => ?_)
    · skip
      have hje : j = N := Nat.le_antisymm hj (c_ge (by omega) (by omega) c1)
      subst hje
      refine g_iload_n dX9_sumOf_22 (by rfl) ?_
      refine g_iret dX9_sumOf_23 rfl (Nat.le_refl _) (Nat.le_refl _) ?_
      exact ⟨rfl, rfl⟩
    · skip
      have hlt : j < N := c_nge (by omega) (by omega) c1
      refine g_iload_n dX9_sumOf_10 (by rfl) ?_
      refine g_aload_n dX9_sumOf_11 (by rfl) (by first | exact isRf_r | exact isRf_n | exact isRf_o | assumption) ?_
      refine g_iload_n dX9_sumOf_12 (by rfl) ?_
      refine g_iaN dX9_sumOf_13 (by first | assumption | (repeat' (first | assumption | exact hu_same | exact Ne.symm (by assumption) | apply hu_n1))) hlt (by omega) (by rfl) ?_
      refine g_iadd dX9_sumOf_14 ?_
      refine g_istore_n (L1 := [(0, _), (1, _), (2, _)]) dX9_sumOf_15 (by decide) (by rfl) ?_
      refine g_iinc (v := nI (j + 1)) (L1 := [(0, _), (1, _), (2, _)]) dX9_sumOf_16 (by rfl) (nI_1 j) (by decide) (by rfl) ?_
      refine g_goto (tgt := 4) dX9_sumOf_19 (by decide) ?_
      exact ih hlt
  exact loop4 0 (Nat.zero_le _)

def mixf (g f : Nat → Int32) (j : Nat) : Nat → Int32 := fun i => if i < j then g i else f i
theorem mixf_0 {g f : Nat → Int32} : mixf g f 0 = f := by funext i; simp [mixf]
theorem mixf_s {g f : Nat → Int32} {j : Nat} : upd (mixf g f j) j (g j) = mixf g f (j + 1) := by
  funext i
  unfold upd mixf
  by_cases e : i = j
  · subst e
    simp
  · by_cases z : i < j
    · simp [z, e, Nat.lt_succ_of_lt z]
    · have : ¬ i < j + 1 := by omega
      simp [z, e, this]
theorem mixf_N {g f : Nat → Int32} {N : Nat} : mixf (nr N g) (nr N f) N = nr N g := by
  funext i
  unfold mixf nr
  by_cases z : i < N <;> simp [z]

set_option maxHeartbeats 4000000 in
set_option maxRecDepth 100000 in
theorem ct_X9_copyRow (X : Cx) {h : Hp} {a b N : Nat} {f g : Nat → Int32}  (hN : N < 1000) (hab : a ≠ b) (ha : h a = some (oI X N (nr N g))) (hb : h b = some (oI X N (nr N f))) : Ct X mX9_copyRow 0 0 0 [.ref a, .ref b] h (Ev (hu h b (oI X N (nr N g)))) := by
  refine Ct.ofG vX9_copyRow.1.2.2.1 (Nat.le_of_ble_eq_true rfl) ?_
  show G X RX9 cX9_copyRow 3 none "copyRow" (Rm 0 0 0) (Fm X (Ev (hu h b (oI X N (nr N g)))) 0 0) 0 0 0 [(0, .ref a), (1, .ref b)] [] h
  refine g_iconst (v := 0) dX9_copyRow_0 (by decide) ?_
  refine g_istore_n (L1 := [(0, _), (1, _), (2, _)]) dX9_copyRow_1 (by decide) (by rfl) ?_
  have loop2 : ∀ j, j ≤ N → ∀ h1, h1 = hu h b (oI X N (mixf (nr N g) (nr N f) j)) → G X RX9 cX9_copyRow 3 none "copyRow" (Rm 0 0 0) (Fm X (Ev (hu h b (oI X N (nr N g)))) 0 0) 0 0 2 [(0, .ref a), (1, .ref b), (2, .int (nI j))] [] h1 := by
    refine up_ind N (fun j hj ih => ?_)
    intro h1 e1
    have ha1 : h1 a = some (oI X N (nr N g)) := by rw [e1, hu_ne hab]; exact ha
    have hb1 : h1 b = some (oI X N (mixf (nr N g) (nr N f) j)) := by rw [e1]; exact hu_same
    refine g_iload_n dX9_copyRow_2 (by rfl) ?_
    refine g_aload_n dX9_copyRow_3 (by rfl) (by first | exact isRf_r | exact isRf_n | exact isRf_o | assumption) ?_
    refine g_alenI dX9_copyRow_4 (by first | assumption | (repeat' (first | assumption | exact hu_same | exact Ne.symm (by assumption) | apply hu_n1))) ?_
    refine g_icmp_ge (tgt := 26) dX9_copyRow_5 (by decide) (fun c1 => ?_) (fun c1 => ?_)
    · skip
      have hje : j = N := Nat.le_antisymm hj (c_ge (by omega) (by omega) c1)
      subst hje
      refine g_vret dX9_copyRow_26 rfl (Nat.le_refl _) (Nat.le_refl _) ?_
      exact ⟨rfl, by rw [e1, mixf_N]⟩
    · skip
      have hlt : j < N := c_nge (by omega) (by omega) c1
      refine g_iload_n dX9_copyRow_8 (by rfl) ?_
      refine g_aload_n dX9_copyRow_9 (by rfl) (by first | exact isRf_r | exact isRf_n | exact isRf_o | assumption) ?_
      refine g_alenI dX9_copyRow_10 (by first | assumption | (repeat' (first | assumption | exact hu_same | exact Ne.symm (by assumption) | apply hu_n1))) ?_
      refine g_icmp_ge (tgt := 26) dX9_copyRow_11 (by decide) (fun c2 => absurd (c_ge (by omega) (by omega) c2) (by omega)) (fun c2 => ?_)
      refine g_aload_n dX9_copyRow_14 (by rfl) (by first | exact isRf_r | exact isRf_n | exact isRf_o | assumption) ?_
      refine g_iload_n dX9_copyRow_15 (by rfl) ?_
      refine g_aload_n dX9_copyRow_16 (by rfl) (by first | exact isRf_r | exact isRf_n | exact isRf_o | assumption) ?_
      refine g_iload_n dX9_copyRow_17 (by rfl) ?_
      refine g_iaN dX9_copyRow_18 (by first | assumption | (repeat' (first | assumption | exact hu_same | exact Ne.symm (by assumption) | apply hu_n1))) hlt (by omega) (by rfl) ?_
      refine g_isN dX9_copyRow_19 (by first | assumption | (repeat' (first | assumption | exact hu_same | exact Ne.symm (by assumption) | apply hu_n1))) hlt (by omega) ?_
      refine g_iinc (v := nI (j + 1)) (L1 := [(0, _), (1, _), (2, _)]) dX9_copyRow_20 (by rfl) (nI_1 j) (by decide) (by rfl) ?_
      refine g_goto (tgt := 2) dX9_copyRow_23 (by decide) ?_
      exact ih hlt _ (by rw [e1, hu_hu, mixf_s])
  exact loop2 0 (Nat.zero_le _) h (by rw [mixf_0, hu_id hb])

def SetAt (X : Cx) (h : Hp) (s v : Nat) (r : Nat → Int32) : Prop := h s = some (ob 6 [.ref v]) ∧ h v = some (oI X 7 (nr 7 r))
def leastF : Nat → Int32 := fun i => [1, 0, 10, 100, 0, 0, 0].getD i 0
def mostF : Nat → Int32 := fun i => [100, 50, 1000, 20000, 2000, 50, 20000].getD i 0
def firstF : Nat → Int32 := fun i => [20, 5, 200, 8000, 150, 10, 2000].getD i 0
def StatAt (X : Cx) (h : Hp) : Prop := h (X.2.2.2.2 0) = some (sI 7 leastF) ∧ h (X.2.2.2.2 1) = some (sI 7 mostF) ∧ h (X.2.2.2.2 2) = some (sI 7 firstF)

set_option maxHeartbeats 4000000 in
set_option maxRecDepth 100000 in
theorem ct_X6_valueOf (X : Cx) {h : Hp} {s v j : Nat} {r : Nat → Int32}  (hj : j < 7) (hs : SetAt X h s v r) : Ct X mX6_valueOf 0 0 0 [.ref s, .int (nI j)] h (Ex (.int (r j)) h) := by
  obtain ⟨hs, hv⟩ := hs
  refine Ct.ofG vX6_valueOf.1.2.2.1 (Nat.le_of_ble_eq_true rfl) ?_
  show G X RX6 cX6_valueOf 2 (some .int) "valueOf" (Rm 0 0 0) (Fm X (Ex (.int (r j)) h) 0 0) 0 0 0 [(0, .ref s), (1, .int (nI j))] [] h
  refine g_iload_n dX6_valueOf_0 (by rfl) ?_
  refine g_if_lt (tgt := 22) dX6_valueOf_1 (by decide) (fun c1 => absurd c1 (c_neg (by omega))) (fun c1 => ?_)
  refine g_iload_n dX6_valueOf_4 (by rfl) ?_
  refine g_aload_n dX6_valueOf_5 (by rfl) (by first | exact isRf_r | exact isRf_n | exact isRf_o | assumption) ?_
  refine g_getf dX6_valueOf_6 fX6_9 (by first | assumption | (repeat' (first | assumption | exact hu_same | exact Ne.symm (by assumption) | apply hu_n1))) (by rfl) ?_
  refine g_alenI dX6_valueOf_9 (by first | assumption | (repeat' (first | assumption | exact hu_same | exact Ne.symm (by assumption) | apply hu_n1))) ?_
  refine g_icmp_ge (tgt := 22) dX6_valueOf_10 (by decide) (fun c2 => absurd (c_ge (by omega) (by omega) c2) (by omega)) (fun c2 => ?_)
  refine g_aload_n dX6_valueOf_13 (by rfl) (by first | exact isRf_r | exact isRf_n | exact isRf_o | assumption) ?_
  refine g_getf dX6_valueOf_14 fX6_9 (by first | assumption | (repeat' (first | assumption | exact hu_same | exact Ne.symm (by assumption) | apply hu_n1))) (by rfl) ?_
  refine g_iload_n dX6_valueOf_17 (by rfl) ?_
  refine g_iaN dX6_valueOf_18 (by first | assumption | (repeat' (first | assumption | exact hu_same | exact Ne.symm (by assumption) | apply hu_n1))) hj (by omega) (by rfl) ?_
  refine g_goto (tgt := 23) dX6_valueOf_19 (by decide) ?_
  refine g_iret dX6_valueOf_23 rfl (Nat.le_refl _) (Nat.le_refl _) ?_
  exact Ex.i (nr_lt hj) rfl

set_option maxHeartbeats 4000000 in
set_option maxRecDepth 100000 in
theorem ct_X6_exists (X : Cx) {h : Hp} {d : Int32}  (hs : StatAt X h) : Ct X mX6_exists 0 0 0 [.int d] h (Ex (.int (bI (decide (0 ≤ d ∧ d < 7)))) h) := by
  obtain ⟨hs0, hs1, hs2⟩ := hs
  refine Ct.ofG vX6_exists.1.2.2.1 (Nat.le_of_ble_eq_true rfl) ?_
  show G X RX6 cX6_exists 1 (some .boolean) "exists" (Rm 0 0 0) (Fm X (Ex (.int (bI (decide (0 ≤ d ∧ d < 7)))) h) 0 0) 0 0 0 [(0, .int d)] [] h
  refine g_iload_n dX6_exists_0 (by rfl) ?_
  refine g_if_lt (tgt := 16) dX6_exists_1 (by decide) (fun c1 => ?_) (fun c1 => ?_)
  · skip
    refine g_iconst (v := 0) dX6_exists_16 (by decide) ?_
    refine g_zret dX6_exists_17 rfl (by decide) (Nat.le_refl _) (Nat.le_refl _) ?_
    exact Ex.i (by first | exact bI_t ⟨by simpa using c1, by simpa using c2⟩ | exact bI_f (fun z => by have z1 := z.1; have z2 := z.2; simp only [i_lt, i_le] at *; omega)) rfl
  · skip
    refine g_iload_n dX6_exists_4 (by rfl) ?_
    refine g_gets (i := 2) dX6_exists_5 fX6_15 (by decide) ?_
    refine g_alenS dX6_exists_8 (by first | assumption | (repeat' (first | assumption | exact hu_same | exact Ne.symm (by assumption) | apply hu_n1))) ?_
    refine g_icmp_ge (tgt := 16) dX6_exists_9 (by decide) (fun c2 => ?_) (fun c2 => ?_)
    · skip
      have c2 : (7 : Int32) ≤ d := c2
      refine g_iconst (v := 0) dX6_exists_16 (by decide) ?_
      refine g_zret dX6_exists_17 rfl (by decide) (Nat.le_refl _) (Nat.le_refl _) ?_
      exact Ex.i (by first | exact bI_t ⟨by simpa using c1, by simpa using c2⟩ | exact bI_f (fun z => by have z1 := z.1; have z2 := z.2; simp only [i_lt, i_le] at *; omega)) rfl
    · skip
      have c2 : ¬ (7 : Int32) ≤ d := c2
      refine g_iconst (v := 1) dX6_exists_12 (by decide) ?_
      refine g_goto (tgt := 17) dX6_exists_13 (by decide) ?_
      refine g_zret dX6_exists_17 rfl (by decide) (Nat.le_refl _) (Nat.le_refl _) ?_
      exact Ex.i (by first | exact bI_t ⟨by simpa using c1, by simpa using c2⟩ | exact bI_f (fun z => by have z1 := z.1; have z2 := z.2; simp only [i_lt, i_le] at *; omega)) rfl
