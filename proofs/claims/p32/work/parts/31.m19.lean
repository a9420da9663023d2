def TxtAt (X : Cx) (h : Hp) (a sa n : Nat) (g : Nat → Int32) : Prop := h a = some (ob 7 [.ref sa, .int (nI n)]) ∧ h sa = some (oC X 60 (nr 60 g))
def TOk (n : Nat) (g : Nat → Int32) : Prop := n ≤ 60 ∧ ∀ p, p < n → ∃ j, j < 127 ∧ g p = nI j
theorem ch_i2c : ∀ j, j < 127 → ((nI j).toUInt32 % 65536).toInt32 = nI j := by decide +kernel
theorem ch_nar : ∀ j, j < 127 → vp_nar .char (nI j) = nI j := by decide +kernel
theorem ch_nr2 : ∀ j, j < 127 → narrow .char (.int (nI j)) = .int (nI j) := by decide +kernel
theorem ch_fit : ∀ j, j < 127 → fits .char (.int (nI j)) = true := by decide +kernel
def sg (n : Nat) (g : Nat → Int32) (p : Nat) : Int32 := cond (decide (p < n)) (g p) 0
theorem sg_in {n p : Nat} {g : Nat → Int32} (h : p < n) : sg n g p = g p := by
  unfold sg
  rw [decide_eq_true h]
  rfl
theorem sg_out {n p : Nat} {g : Nat → Int32} (h : ¬ p < n) : sg n g p = 0 := by
  unfold sg
  rw [decide_eq_false h]
  rfl
theorem sg_j {n p : Nat} {g : Nat → Int32} (k : TOk n g) : ∃ j, j < 127 ∧ sg n g p = nI j := by
  by_cases h : p < n
  · rw [sg_in h]
    exact k.2 p h
  · rw [sg_out h]
    exact ⟨0, by omega, rfl⟩
theorem sg_nar {n p : Nat} {g : Nat → Int32} (k : TOk n g) : narrow .char (.int (sg n g p)) = .int (sg n g p) := by
  obtain ⟨j, hj, e⟩ := sg_j (p := p) k
  rw [e]
  exact ch_nr2 j hj
theorem sg_fit {n p : Nat} {g : Nat → Int32} (k : TOk n g) : fits .char (.int (sg n g p)) = true := by
  obtain ⟨j, hj, e⟩ := sg_j (p := p) k
  rw [e]
  exact ch_fit j hj
def typOk (n : Nat) (c : Int32) : Bool := rngB 32 126 c && decide (n < 60)
def F_type (n : Nat) (c : Int32) : Int32 := cond (rngB 32 126 c) (cond (decide (n < 60)) (nI (n + 1)) (-3)) (-1)
def typN (n : Nat) (c : Int32) : Nat := cond (typOk n c) (n + 1) n
def typG (n : Nat) (g : Nat → Int32) (c : Int32) : Nat → Int32 := cond (typOk n c) (upd g n c) g
theorem ne_bc {X : Cx} {h : Hp} {a b ci n : Nat} {fs : List Value} {f : Nat → Int32} (h1 : h a = some (ob ci fs)) (h2 : h b = some (oC X n f)) : a ≠ b := by
  intro z
  subst z
  rw [h1] at h2
  simp [ob, oC] at h2
theorem ch_of {c : Int32} (h : rngB 32 126 c = true) : ∃ j, j < 127 ∧ c = nI j := by
  have h2 := rng_b h
  have y1 : (32 : Int32).toInt = 32 := by decide
  have y2 : (126 : Int32).toInt = 126 := by decide
  rw [y1, y2] at h2
  exact i_sm (by omega) (by omega) (by omega)

set_option maxHeartbeats 4000000 in
set_option maxRecDepth 100000 in
theorem ct_X7_append (X : Cx) {h : Hp} {a sa n : Nat} {c : Int32} {g : Nat → Int32}  (hn : n ≤ 60) (ht : TxtAt X h a sa n g) : Ct X mX7_append 0 0 0 [.ref a, .int c] h (fun u h1 => u = some (.int (F_type n c)) ∧ TxtAt X h1 a sa (typN n c) (typG n g c) ∧ ∀ q, q ≠ a → q ≠ sa → h1 q = h q) := by
  have ht0 := ht
  obtain ⟨t1, t2⟩ := ht0
  have n1 := ne_bc t1 t2
  refine Ct.ofG vX7_append.1.2.2.1 (Nat.le_of_ble_eq_true rfl) ?_
  show G X RX7 cX7_append 2 (some .int) "append" (Rm 0 0 0) (Fm X (fun u h1 => u = some (.int (F_type n c)) ∧ TxtAt X h1 a sa (typN n c) (typG n g c) ∧ ∀ q, q ≠ a → q ≠ sa → h1 q = h q) 0 0) 0 0 0 [(0, .ref a), (1, .int c)] [] h
  refine g_iload_n dX7_append_0 (by rfl) ?_
  refine g_bipush (v := 32) dX7_append_1 (by decide) ?_
  refine g_icmp_lt (tgt := 12) dX7_append_3 (by decide) (fun c1 => ?_) (fun c1 => ?_)
  · skip
    have hb : rngB 32 126 c = false := rngB_f1 (i_nle c1)
    refine g_iconst (v := (-1)) dX7_append_12 (by decide) ?_
    refine g_iret dX7_append_13 rfl (Nat.le_refl _) (Nat.le_refl _) ?_
    refine ⟨?_, ?_, fun q _ _ => rfl⟩
    · unfold F_type
      rw [hb]
      rfl
    · unfold typN typG typOk
      rw [hb]
      exact ht
  · skip
    have hb1 := c1
    refine g_iload_n dX7_append_6 (by rfl) ?_
    refine g_bipush (v := 126) dX7_append_7 (by decide) ?_
    refine g_icmp_le (tgt := 14) dX7_append_9 (by decide) (fun c2 => ?_) (fun c2 => ?_)
    · skip
      have hb : rngB 32 126 c = true := rngB_t (i_nlt hb1) c2
      obtain ⟨j, hj, rfl⟩ := ch_of hb
      refine g_aload_n dX7_append_14 (by rfl) (by first | exact isRf_r | exact isRf_n | exact isRf_o | assumption) ?_
      refine g_getf dX7_append_15 fX7_15 (by first | assumption | (repeat' (first | assumption | exact hu_same | exact Ne.symm (by assumption) | apply hu_n1))) (by rfl) ?_
      refine g_if_lt (tgt := 33) dX7_append_18 (by decide) (fun c3 => absurd c3 (c_neg (by omega))) (fun c3 => ?_)
      refine g_aload_n dX7_append_21 (by rfl) (by first | exact isRf_r | exact isRf_n | exact isRf_o | assumption) ?_
      refine g_getf dX7_append_22 fX7_15 (by first | assumption | (repeat' (first | assumption | exact hu_same | exact Ne.symm (by assumption) | apply hu_n1))) (by rfl) ?_
      refine g_aload_n dX7_append_25 (by rfl) (by first | exact isRf_r | exact isRf_n | exact isRf_o | assumption) ?_
      refine g_getf dX7_append_26 fX7_11 (by first | assumption | (repeat' (first | assumption | exact hu_same | exact Ne.symm (by assumption) | apply hu_n1))) (by rfl) ?_
      refine g_alenC dX7_append_29 (by first | assumption | (repeat' (first | assumption | exact hu_same | exact Ne.symm (by assumption) | apply hu_n1))) ?_
      refine g_icmp_lt (tgt := 36) dX7_append_30 (by decide) (fun c4 => ?_) (fun c4 => ?_)
      · skip
        have hlt : n < 60 := (nI_ltI (b := 60) (by omega) (by omega)).mp c4
        refine g_aload_n dX7_append_36 (by rfl) (by first | exact isRf_r | exact isRf_n | exact isRf_o | assumption) ?_
        refine g_getf dX7_append_37 fX7_11 (by first | assumption | (repeat' (first | assumption | exact hu_same | exact Ne.symm (by assumption) | apply hu_n1))) (by rfl) ?_
        refine g_aload_n dX7_append_40 (by rfl) (by first | exact isRf_r | exact isRf_n | exact isRf_o | assumption) ?_
        refine g_getf dX7_append_41 fX7_15 (by first | assumption | (repeat' (first | assumption | exact hu_same | exact Ne.symm (by assumption) | apply hu_n1))) (by rfl) ?_
        refine g_iload_n dX7_append_44 (by rfl) ?_
        refine g_i2c dX7_append_45 (ch_i2c j hj) ?_
        refine g_cast dX7_append_46 (by first | assumption | (repeat' (first | assumption | exact hu_same | exact Ne.symm (by assumption) | apply hu_n1))) (vp_in_nI hlt (by omega)) (ch_nar j hj) ?_
        refine g_aload_n dX7_append_47 (by rfl) (by first | exact isRf_r | exact isRf_n | exact isRf_o | assumption) ?_
        refine g_dup dX7_append_48 (by rfl) ?_
        refine g_getf dX7_append_49 fX7_15 (by first | assumption | (repeat' (first | assumption | exact hu_same | exact Ne.symm (by assumption) | apply hu_n1))) (by rfl) ?_
        refine g_iconst (v := 1) dX7_append_52 (by decide) ?_
        refine g_iadd dX7_append_53 ?_
        refine g_putf (ty := .int) dX7_append_54 fX7_15 (by decide +kernel) (by rfl) (by rfl) (by first | assumption | (repeat' (first | assumption | exact hu_same | exact Ne.symm (by assumption) | apply hu_n1))) (by exact Nat.le_of_ble_eq_true rfl) ?_
        refine g_aload_n dX7_append_57 (by rfl) (by first | exact isRf_r | exact isRf_n | exact isRf_o | assumption) ?_
        refine g_getf dX7_append_58 fX7_15 (by first | assumption | (repeat' (first | assumption | exact hu_same | exact Ne.symm (by assumption) | apply hu_n1))) (by rfl) ?_
        refine g_iret dX7_append_61 rfl (Nat.le_refl _) (Nat.le_refl _) ?_
        refine ⟨?_, ⟨?_, ?_⟩, fun q q1 q2 => ?_⟩
        · unfold F_type
          rw [hb, decide_eq_true hlt, nI_1]
          rfl
        · unfold typN typOk
          rw [hb, decide_eq_true hlt, nI_1]
          exact hu_same
        · unfold typG typOk
          rw [hb, decide_eq_true hlt, hu_ne (Ne.symm n1), hu_same, nI_clamp (by omega), nr_up hlt]
          rfl
        · rw [hu_ne q1, hu_ne q2]
      · skip
        have hlt : ¬ n < 60 := fun z => c4 ((nI_ltI (b := 60) (by omega) (by omega)).mpr z)
        refine g_bipush (v := (-3)) dX7_append_33 (by decide) ?_
        refine g_iret dX7_append_35 rfl (Nat.le_refl _) (Nat.le_refl _) ?_
        refine ⟨?_, ?_, fun q _ _ => rfl⟩
        · unfold F_type
          rw [hb, decide_eq_false hlt]
          rfl
        · unfold typN typG typOk
          rw [hb, decide_eq_false hlt]
          exact ht
    · skip
      have hb : rngB 32 126 c = false := rngB_f2 c2
      refine g_iconst (v := (-1)) dX7_append_12 (by decide) ?_
      refine g_iret dX7_append_13 rfl (Nat.le_refl _) (Nat.le_refl _) ?_
      refine ⟨?_, ?_, fun q _ _ => rfl⟩
      · unfold F_type
        rw [hb]
        rfl
      · unfold typN typG typOk
        rw [hb]
        exact ht

set_option maxHeartbeats 4000000 in
set_option maxRecDepth 100000 in
theorem ct_X7_makeEmpty (X : Cx) {h : Hp} {a sa n : Nat} {g : Nat → Int32}  (ht : TxtAt X h a sa n g) : Ct X mX7_makeEmpty 0 0 0 [.ref a] h (fun u h1 => u = some (.int (nI n)) ∧ TxtAt X h1 a sa 0 g ∧ ∀ q, q ≠ a → h1 q = h q) := by
  obtain ⟨t1, t2⟩ := ht
  have n1 := ne_bc t1 t2
  refine Ct.ofG vX7_makeEmpty.1.2.2.1 (Nat.le_of_ble_eq_true rfl) ?_
  show G X RX7 cX7_makeEmpty 2 (some .int) "makeEmpty" (Rm 0 0 0) (Fm X (fun u h1 => u = some (.int (nI n)) ∧ TxtAt X h1 a sa 0 g ∧ ∀ q, q ≠ a → h1 q = h q) 0 0) 0 0 0 [(0, .ref a)] [] h
  refine g_aload_n dX7_makeEmpty_0 (by rfl) (by first | exact isRf_r | exact isRf_n | exact isRf_o | assumption) ?_
  refine g_getf dX7_makeEmpty_1 fX7_15 (by first | assumption | (repeat' (first | assumption | exact hu_same | exact Ne.symm (by assumption) | apply hu_n1))) (by rfl) ?_
  refine g_istore_n (L1 := [(0, _), (1, _)]) dX7_makeEmpty_4 (by decide) (by rfl) ?_
  refine g_aload_n dX7_makeEmpty_5 (by rfl) (by first | exact isRf_r | exact isRf_n | exact isRf_o | assumption) ?_
  refine g_iconst (v := 0) dX7_makeEmpty_6 (by decide) ?_
  refine g_putf (ty := .int) dX7_makeEmpty_7 fX7_15 (by decide +kernel) (by rfl) (by rfl) (by first | assumption | (repeat' (first | assumption | exact hu_same | exact Ne.symm (by assumption) | apply hu_n1))) (by exact Nat.le_of_ble_eq_true rfl) ?_
  refine g_iload_n dX7_makeEmpty_10 (by rfl) ?_
  refine g_iret dX7_makeEmpty_11 rfl (Nat.le_refl _) (Nat.le_refl _) ?_
  refine ⟨rfl, ⟨hu_same, ?_⟩, fun q q1 => hu_ne q1⟩
  rw [hu_ne (Ne.symm n1)]
  exact t2

set_option maxHeartbeats 4000000 in
set_option maxRecDepth 100000 in
theorem ct_signAtV (X : Cx) {h : Hp} {a sa n p : Nat} {g : Nat → Int32}  (hk : TOk n g) (hlt : p < n) (ht : TxtAt X h a sa n g) : Ct X mX7_signAt 0 0 0 [.ref a, .int (nI p)] h (Ex (.int (g p)) h) := by
  obtain ⟨t1, t2⟩ := ht
  have hn := hk.1
  refine Ct.ofG vX7_signAt.1.2.2.1 (Nat.le_of_ble_eq_true rfl) ?_
  show G X RX7 cX7_signAt 3 (some .char) "signAt" (Rm 0 0 0) (Fm X (Ex (.int (g p)) h) 0 0) 0 0 0 [(0, .ref a), (1, .int (nI p))] [] h
  refine g_iload_n dX7_signAt_0 (by rfl) ?_
  refine g_if_lt (tgt := 25) dX7_signAt_1 (by decide) (fun c1 => absurd c1 (c_neg (by omega))) (fun c1 => ?_)
  refine g_iload_n dX7_signAt_4 (by rfl) ?_
  refine g_aload_n dX7_signAt_5 (by rfl) (by first | exact isRf_r | exact isRf_n | exact isRf_o | assumption) ?_
  refine g_getf dX7_signAt_6 fX7_15 (by first | assumption | (repeat' (first | assumption | exact hu_same | exact Ne.symm (by assumption) | apply hu_n1))) (by rfl) ?_
  refine g_icmp_ge (tgt := 25) dX7_signAt_9 (by decide) (fun c2 => absurd (c_ge (by omega) (by omega) c2) (by omega)) (fun c2 => ?_)
  refine g_iload_n dX7_signAt_12 (by rfl) ?_
  refine g_aload_n dX7_signAt_13 (by rfl) (by first | exact isRf_r | exact isRf_n | exact isRf_o | assumption) ?_
  refine g_getf dX7_signAt_14 fX7_11 (by first | assumption | (repeat' (first | assumption | exact hu_same | exact Ne.symm (by assumption) | apply hu_n1))) (by rfl) ?_
  refine g_alenC dX7_signAt_17 (by first | assumption | (repeat' (first | assumption | exact hu_same | exact Ne.symm (by assumption) | apply hu_n1))) ?_
  refine g_icmp_ge (tgt := 25) dX7_signAt_18 (by decide) (fun c3 => absurd (c_ge (a := 60) (by omega) (by omega) c3) (by omega)) (fun c3 => ?_)
  refine g_iconst (v := 1) dX7_signAt_21 (by decide) ?_
  refine g_goto (tgt := 26) dX7_signAt_22 (by decide) ?_
  refine g_istore_n (L1 := [(0, _), (1, _), (2, _)]) dX7_signAt_26 (by decide) (by rfl) ?_
  refine g_iload_n dX7_signAt_27 (by rfl) ?_
  refine g_if_eq (tgt := 40) dX7_signAt_28 (by decide) (fun c4 => absurd c4 (by decide)) (fun c4 => ?_)
  refine g_aload_n dX7_signAt_31 (by rfl) (by first | exact isRf_r | exact isRf_n | exact isRf_o | assumption) ?_
  refine g_getf dX7_signAt_32 fX7_11 (by first | assumption | (repeat' (first | assumption | exact hu_same | exact Ne.symm (by assumption) | apply hu_n1))) (by rfl) ?_
  refine g_iload_n dX7_signAt_35 (by rfl) ?_
  refine g_cald dX7_signAt_36 (by first | assumption | (repeat' (first | assumption | exact hu_same | exact Ne.symm (by assumption) | apply hu_n1))) (vp_in_nI (by omega) (by omega)) ?_
  refine g_goto (tgt := 41) dX7_signAt_37 (by decide) ?_
  refine g_zret dX7_signAt_41 rfl (by rw [nI_clamp (by omega), nr_lt (by omega), ← sg_in (g := g) hlt]; exact sg_nar hk) (Nat.le_refl _) (Nat.le_refl _) ?_
  exact Ex.i (by rw [nI_clamp (by omega), nr_lt (by omega)]) rfl

set_option maxHeartbeats 4000000 in
set_option maxRecDepth 100000 in
theorem ct_signAtI (X : Cx) {h : Hp} {a sa n p : Nat} {g : Nat → Int32}  (hlt : ¬ p < n) (hn : n < 1000) (hp : p < 1000) (ht : TxtAt X h a sa n g) : Ct X mX7_signAt 0 0 0 [.ref a, .int (nI p)] h (Ex (.int 0) h) := by
  obtain ⟨t1, t2⟩ := ht
  refine Ct.ofG vX7_signAt.1.2.2.1 (Nat.le_of_ble_eq_true rfl) ?_
  show G X RX7 cX7_signAt 3 (some .char) "signAt" (Rm 0 0 0) (Fm X (Ex (.int 0) h) 0 0) 0 0 0 [(0, .ref a), (1, .int (nI p))] [] h
  refine g_iload_n dX7_signAt_0 (by rfl) ?_
  refine g_if_lt (tgt := 25) dX7_signAt_1 (by decide) (fun c1 => absurd c1 (c_neg (by omega))) (fun c1 => ?_)
  refine g_iload_n dX7_signAt_4 (by rfl) ?_
  refine g_aload_n dX7_signAt_5 (by rfl) (by first | exact isRf_r | exact isRf_n | exact isRf_o | assumption) ?_
  refine g_getf dX7_signAt_6 fX7_15 (by first | assumption | (repeat' (first | assumption | exact hu_same | exact Ne.symm (by assumption) | apply hu_n1))) (by rfl) ?_
  refine g_icmp_ge (tgt := 25) dX7_signAt_9 (by decide) (fun c2 => ?_) (fun c2 => absurd (c_nge (by omega) (by omega) c2) (by omega))
  refine g_iconst (v := 0) dX7_signAt_25 (by decide) ?_
  refine g_istore_n (L1 := [(0, _), (1, _), (2, _)]) dX7_signAt_26 (by decide) (by rfl) ?_
  refine g_iload_n dX7_signAt_27 (by rfl) ?_
  refine g_if_eq (tgt := 40) dX7_signAt_28 (by decide) (fun c3 => ?_) (fun c3 => absurd rfl c3)
  refine g_iconst (v := 0) dX7_signAt_40 (by decide) ?_
  refine g_zret dX7_signAt_41 rfl (by decide) (Nat.le_refl _) (Nat.le_refl _) ?_
  exact ⟨rfl, rfl⟩

theorem ct_X7_signAt (X : Cx) {h : Hp} {a sa n p : Nat} {g : Nat → Int32} (hk : TOk n g) (hp : p < 1000) (ht : TxtAt X h a sa n g) : Ct X mX7_signAt 0 0 0 [.ref a, .int (nI p)] h (Ex (.int (sg n g p)) h) := by
  have hn := hk.1
  by_cases hlt : p < n
  · rw [sg_in hlt]
    exact ct_signAtV X hk hlt ht
  · rw [sg_out hlt]
    exact ct_signAtI X hlt (by omega) hp ht
def dg (c : Int32) : Int32 := cond (rngB 48 57 c) (c - 48) (-1)
def rdN (n : Nat) (g : Nat → Int32) (p : Nat) : Int32 × Nat := cond (decide (0 ≤ dg (sg n g p))) (cond (decide (0 ≤ dg (sg n g (p + 1)))) (dg (sg n g p) * 10 + dg (sg n g (p + 1)), p + 2) (dg (sg n g p), p + 1)) (-1, p)
theorem rdN_2 {n p : Nat} {g : Nat → Int32} : (rdN n g p).2 ≤ p + 2 ∧ p ≤ (rdN n g p).2 := by
  unfold rdN
  cases decide (0 ≤ dg (sg n g p)) with
  | false => exact ⟨by show p ≤ p + 2; omega, Nat.le_refl _⟩
  | true =>
    cases decide (0 ≤ dg (sg n g (p + 1))) with
    | false => exact ⟨by show p + 1 ≤ p + 2; omega, by show p ≤ p + 1; omega⟩
    | true => exact ⟨Nat.le_refl _, by show p ≤ p + 2; omega⟩
def scrL (wd fp fr fc pl kd fi se : Int32) : List Value := [.int wd, .int fp, .int fr, .int fc, .int pl, .int kd, .int fi, .int se]

set_option maxHeartbeats 4000000 in
set_option maxRecDepth 100000 in
theorem ct_X5_digitOf (X : Cx) {h : Hp} {c : Int32}  : Ct X mX5_digitOf 0 0 0 [.int c] h (Ex (.int (dg c)) h) := by
  refine Ct.ofG vX5_digitOf.1.2.2.1 (Nat.le_of_ble_eq_true rfl) ?_
  show G X RX5 cX5_digitOf 1 (some .int) "digitOf" (Rm 0 0 0) (Fm X (Ex (.int (dg c)) h) 0 0) 0 0 0 [(0, .int c)] [] h
  refine g_iload_n dX5_digitOf_0 (by rfl) ?_
  refine g_bipush (v := 48) dX5_digitOf_1 (by decide) ?_
  refine g_icmp_lt (tgt := 19) dX5_digitOf_3 (by decide) (fun c1 => ?_) (fun c1 => ?_)
  · skip
    have hb : rngB 48 57 c = false := rngB_f1 (i_nle c1)
    refine g_iconst (v := (-1)) dX5_digitOf_19 (by decide) ?_
    refine g_iret dX5_digitOf_20 rfl (Nat.le_refl _) (Nat.le_refl _) ?_
    exact Ex.i (by unfold dg; rw [hb]; rfl) rfl
  · skip
    have hq := c1
    refine g_iload_n dX5_digitOf_6 (by rfl) ?_
    refine g_bipush (v := 57) dX5_digitOf_7 (by decide) ?_
    refine g_icmp_gt (tgt := 19) dX5_digitOf_9 (by decide) (fun c2 => ?_) (fun c2 => ?_)
    · skip
      have hb : rngB 48 57 c = false := rngB_f2 (i_nle c2)
      refine g_iconst (v := (-1)) dX5_digitOf_19 (by decide) ?_
      refine g_iret dX5_digitOf_20 rfl (Nat.le_refl _) (Nat.le_refl _) ?_
      exact Ex.i (by unfold dg; rw [hb]; rfl) rfl
    · skip
      have hb : rngB 48 57 c = true := rngB_t (i_nlt hq) (Int32.not_lt.mp c2)
      refine g_iload_n dX5_digitOf_12 (by rfl) ?_
      refine g_bipush (v := 48) dX5_digitOf_13 (by decide) ?_
      refine g_isub dX5_digitOf_15 ?_
      refine g_goto (tgt := 20) dX5_digitOf_16 (by decide) ?_
      refine g_iret dX5_digitOf_20 rfl (Nat.le_refl _) (Nat.le_refl _) ?_
      exact Ex.i (by unfold dg; rw [hb]; rfl) rfl

set_option maxHeartbeats 4000000 in
set_option maxRecDepth 100000 in
theorem ct_X5_readNumber (X : Cx) {h : Hp} {a b sb n p : Nat} {g : Nat → Int32} {wd fp fr fc kd fi se : Int32}  (hk : TOk n g) (hp : p < 900) (ht : TxtAt X h b sb n g) (hs : h a = some (ob 5 (scrL wd fp fr fc (nI p) kd fi se))) : Ct X mX5_readNumber 1 0 0 [.ref a, .ref b] h (Ex (.int (rdN n g p).1) (hu h a (ob 5 (scrL wd fp fr fc (nI (rdN n g p).2) kd fi se)))) := by
  unfold scrL at hs
  have hb0 := ht.1
  have n1 := ne_ob hb0 hs (by decide)
  have n2 := ne_bc hs ht.2
  refine Ct.ofG vX5_readNumber.1.2.2.1 (Nat.le_of_ble_eq_true rfl) ?_
  show G X RX5 cX5_readNumber 4 (some .int) "readNumber" (Rm 1 0 0) (Fm X (Ex (.int (rdN n g p).1) (hu h a (ob 5 (scrL wd fp fr fc (nI (rdN n g p).2) kd fi se)))) 0 0) 0 0 0 [(0, .ref a), (1, .ref b)] [] h
  refine g_aload_n dX5_readNumber_0 (by rfl) (by first | exact isRf_r | exact isRf_n | exact isRf_o | assumption) ?_
  refine g_aload_n dX5_readNumber_1 (by rfl) (by first | exact isRf_r | exact isRf_n | exact isRf_o | assumption) ?_
  refine g_getf dX5_readNumber_2 fX5_16 (by first | assumption | (repeat' (first | assumption | exact hu_same | exact Ne.symm (by assumption) | apply hu_n1))) (by rfl) ?_
  refine g_cV1x dX5_readNumber_5 lX5_54 vX7_signAt (ct_X7_signAt X hk (by omega) ht) (by first | assumption | (repeat' (first | assumption | exact hu_same | exact Ne.symm (by assumption) | apply hu_n1))) rfl ⟨Nat.le_of_ble_eq_true rfl, Nat.le_of_ble_eq_true rfl⟩ (Nat.le_of_ble_eq_true rfl) ⟨Nat.le_of_ble_eq_true rfl, Nat.le_of_ble_eq_true rfl⟩ ?_
  refine g_cS1x dX5_readNumber_8 lX5_66 rfl vX5_digitOf (ct_X5_digitOf X) ⟨Nat.le_of_ble_eq_true rfl, Nat.le_of_ble_eq_true rfl⟩ (Nat.le_of_ble_eq_true rfl) ⟨Nat.le_of_ble_eq_true rfl, Nat.le_of_ble_eq_true rfl⟩ ?_
  refine g_istore_n (L1 := [(0, _), (1, _), (2, _)]) dX5_readNumber_11 (by decide) (by rfl) ?_
  refine g_iload_n dX5_readNumber_12 (by rfl) ?_
  refine g_if_ge (tgt := 18) dX5_readNumber_13 (by decide) (fun c1 => ?_) (fun c1 => ?_)
  · skip
    have hq := c1
    refine g_aload_n dX5_readNumber_18 (by rfl) (by first | exact isRf_r | exact isRf_n | exact isRf_o | assumption) ?_
    refine g_dup dX5_readNumber_19 (by rfl) ?_
    refine g_getf dX5_readNumber_20 fX5_16 (by first | assumption | (repeat' (first | assumption | exact hu_same | exact Ne.symm (by assumption) | apply hu_n1))) (by rfl) ?_
    refine g_iconst (v := 1) dX5_readNumber_23 (by decide) ?_
    refine g_iadd dX5_readNumber_24 ?_
    rw [nI_1]
    refine g_putf (ty := .int) dX5_readNumber_25 fX5_16 (by decide +kernel) (by rfl) (by rfl) (by first | assumption | (repeat' (first | assumption | exact hu_same | exact Ne.symm (by assumption) | apply hu_n1))) (by exact Nat.le_of_ble_eq_true rfl) ?_
    refine g_aload_n dX5_readNumber_28 (by rfl) (by first | exact isRf_r | exact isRf_n | exact isRf_o | assumption) ?_
    refine g_aload_n dX5_readNumber_29 (by rfl) (by first | exact isRf_r | exact isRf_n | exact isRf_o | assumption) ?_
    refine g_getf dX5_readNumber_30 fX5_16 (by first | assumption | (repeat' (first | assumption | exact hu_same | exact Ne.symm (by assumption) | apply hu_n1))) (by rfl) ?_
    refine g_cV1x dX5_readNumber_33 lX5_54 vX7_signAt (ct_X7_signAt X hk (p := p + 1) (by omega) ⟨hu_n1 n1 ht.1, hu_n1 (Ne.symm n2) ht.2⟩) (by first | assumption | (repeat' (first | assumption | exact hu_same | exact Ne.symm (by assumption) | apply hu_n1))) rfl ⟨Nat.le_of_ble_eq_true rfl, Nat.le_of_ble_eq_true rfl⟩ (Nat.le_of_ble_eq_true rfl) ⟨Nat.le_of_ble_eq_true rfl, Nat.le_of_ble_eq_true rfl⟩ ?_
    refine g_cS1x dX5_readNumber_36 lX5_66 rfl vX5_digitOf (ct_X5_digitOf X) ⟨Nat.le_of_ble_eq_true rfl, Nat.le_of_ble_eq_true rfl⟩ (Nat.le_of_ble_eq_true rfl) ⟨Nat.le_of_ble_eq_true rfl, Nat.le_of_ble_eq_true rfl⟩ ?_
    refine g_istore_n (L1 := [(0, _), (1, _), (2, _), (3, _)]) dX5_readNumber_39 (by decide) (by rfl) ?_
    refine g_iload_n dX5_readNumber_40 (by rfl) ?_
    refine g_if_ge (tgt := 46) dX5_readNumber_41 (by decide) (fun c2 => ?_) (fun c2 => ?_)
    · skip
      have e : rdN n g p = (dg (sg n g p) * 10 + dg (sg n g (p + 1)), p + 2) := by unfold rdN; rw [decide_eq_true hq, decide_eq_true c2]; rfl
      refine g_aload_n dX5_readNumber_46 (by rfl) (by first | exact isRf_r | exact isRf_n | exact isRf_o | assumption) ?_
      refine g_dup dX5_readNumber_47 (by rfl) ?_
      refine g_getf dX5_readNumber_48 fX5_16 (by first | assumption | (repeat' (first | assumption | exact hu_same | exact Ne.symm (by assumption) | apply hu_n1))) (by rfl) ?_
      refine g_iconst (v := 1) dX5_readNumber_51 (by decide) ?_
      refine g_iadd dX5_readNumber_52 ?_
      rw [nI_1]
      refine g_putf (ty := .int) dX5_readNumber_53 fX5_16 (by decide +kernel) (by rfl) (by rfl) (by first | assumption | (repeat' (first | assumption | exact hu_same | exact Ne.symm (by assumption) | apply hu_n1))) (by exact Nat.le_of_ble_eq_true rfl) ?_
      refine g_iload_n dX5_readNumber_56 (by rfl) ?_
      refine g_bipush (v := 10) dX5_readNumber_57 (by decide) ?_
      refine g_imul dX5_readNumber_59 ?_
      refine g_iload_n dX5_readNumber_60 (by rfl) ?_
      refine g_iadd dX5_readNumber_61 ?_
      refine g_iret dX5_readNumber_62 rfl (Nat.le_refl _) (Nat.le_refl _) ?_
      rw [e]
      exact ⟨rfl, by rw [hu_hu]; rfl⟩
    · skip
      have e : rdN n g p = (dg (sg n g p), p + 1) := by unfold rdN; rw [decide_eq_true hq, decide_eq_false c2]; rfl
      refine g_iload_n dX5_readNumber_44 (by rfl) ?_
      refine g_iret dX5_readNumber_45 rfl (Nat.le_refl _) (Nat.le_refl _) ?_
      rw [e]
      exact ⟨rfl, rfl⟩
  · skip
    have e : rdN n g p = (-1, p) := by unfold rdN; rw [decide_eq_false c1]; rfl
    refine g_iconst (v := (-1)) dX5_readNumber_16 (by decide) ?_
    refine g_iret dX5_readNumber_17 rfl (Nat.le_refl _) (Nat.le_refl _) ?_
    rw [e]
    exact ⟨rfl, (hu_id hs).symm⟩

set_option maxHeartbeats 4000000 in
set_option maxRecDepth 100000 in
theorem ct_X5_passes (X : Cx) {h : Hp} {a b sb n p : Nat} {c : Int32} {g : Nat → Int32} {wd fp fr fc kd fi se : Int32}  (hk : TOk n g) (hp : p < 900) (ht : TxtAt X h b sb n g) (hs : h a = some (ob 5 (scrL wd fp fr fc (nI p) kd fi se))) : Ct X mX5_passes 1 0 0 [.ref a, .ref b, .int c] h (fun u h1 => (sg n g p = c ∧ u = some (.int 1) ∧ h1 = hu h a (ob 5 (scrL wd fp fr fc (nI (p + 1)) kd fi se))) ∨ (¬ sg n g p = c ∧ u = some (.int 0) ∧ h1 = h)) := by
  unfold scrL at hs
  have hb0 := ht.1
  refine Ct.ofG vX5_passes.1.2.2.1 (Nat.le_of_ble_eq_true rfl) ?_
  show G X RX5 cX5_passes 3 (some .boolean) "passes" (Rm 1 0 0) (Fm X (fun u h1 => (sg n g p = c ∧ u = some (.int 1) ∧ h1 = hu h a (ob 5 (scrL wd fp fr fc (nI (p + 1)) kd fi se))) ∨ (¬ sg n g p = c ∧ u = some (.int 0) ∧ h1 = h)) 0 0) 0 0 0 [(0, .ref a), (1, .ref b), (2, .int c)] [] h
  refine g_aload_n dX5_passes_0 (by rfl) (by first | exact isRf_r | exact isRf_n | exact isRf_o | assumption) ?_
  refine g_aload_n dX5_passes_1 (by rfl) (by first | exact isRf_r | exact isRf_n | exact isRf_o | assumption) ?_
  refine g_getf dX5_passes_2 fX5_16 (by first | assumption | (repeat' (first | assumption | exact hu_same | exact Ne.symm (by assumption) | apply hu_n1))) (by rfl) ?_
  refine g_cV1x dX5_passes_5 lX5_54 vX7_signAt (ct_X7_signAt X hk (by omega) ht) (by first | assumption | (repeat' (first | assumption | exact hu_same | exact Ne.symm (by assumption) | apply hu_n1))) rfl ⟨Nat.le_of_ble_eq_true rfl, Nat.le_of_ble_eq_true rfl⟩ (Nat.le_of_ble_eq_true rfl) ⟨Nat.le_of_ble_eq_true rfl, Nat.le_of_ble_eq_true rfl⟩ ?_
  refine g_iload_n dX5_passes_8 (by rfl) ?_
  refine g_icmp_eq (tgt := 14) dX5_passes_9 (by decide) (fun c1 => ?_) (fun c1 => ?_)
  · skip
    refine g_aload_n dX5_passes_14 (by rfl) (by first | exact isRf_r | exact isRf_n | exact isRf_o | assumption) ?_
    refine g_dup dX5_passes_15 (by rfl) ?_
    refine g_getf dX5_passes_16 fX5_16 (by first | assumption | (repeat' (first | assumption | exact hu_same | exact Ne.symm (by assumption) | apply hu_n1))) (by rfl) ?_
    refine g_iconst (v := 1) dX5_passes_19 (by decide) ?_
    refine g_iadd dX5_passes_20 ?_
    rw [nI_1]
    refine g_putf (ty := .int) dX5_passes_21 fX5_16 (by decide +kernel) (by rfl) (by rfl) (by first | assumption | (repeat' (first | assumption | exact hu_same | exact Ne.symm (by assumption) | apply hu_n1))) (by exact Nat.le_of_ble_eq_true rfl) ?_
    refine g_iconst (v := 1) dX5_passes_24 (by decide) ?_
    refine g_zret dX5_passes_25 rfl (by decide) (Nat.le_refl _) (Nat.le_refl _) ?_
    exact Or.inl ⟨c1, rfl, rfl⟩
  · skip
    refine g_iconst (v := 0) dX5_passes_12 (by decide) ?_
    refine g_zret dX5_passes_13 rfl (by decide) (Nat.le_refl _) (Nat.le_refl _) ?_
    exact Or.inr ⟨c1, rfl, rfl⟩
