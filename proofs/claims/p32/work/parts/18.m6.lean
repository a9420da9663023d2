def vt (r : Nat → Int32) (v : Nat) : Nat → Int32 := fun k => r (19 + 4 * v + k)
def ltx (r : Nat → Int32) (l : Nat) : Nat → Int32 := fun k => r (43 + 15 * l + k)
def od (r : Nat → Int32) (o : Nat) : Nat → Int32 := fun k => r (343 + 5 * o + k)
def vaR (A : Nat → Nat) : Nat → Option Nat := fun v => if v < 6 then some (A (8 + v)) else none
def laR (A : Nat → Nat) : Nat → Option Nat := fun l => if l < 20 then some (A (14 + 3 * l)) else none
def oaR (A : Nat → Nat) : Nat → Option Nat := fun o => if o < 60 then some (A (74 + 2 * o)) else none
def hobC (A : Nat → Nat) (r : Nat → Int32) : List Value := [.ref (A 1), .ref (A 2), .ref (A 3), .int (r 7), .int (r 8), .int (r 9), .int (r 10), .ref (A 4), .ref (A 5), .ref (A 6)]
/-- a house at the addresses A holds the row r -/
def HouseAt (X : Cx) (h : Hp) (A : Nat → Nat) (r : Nat → Int32) : Prop :=
  h (A 0) = some (ob 1 (hobC A r)) ∧ h (A 1) = some (oR X 2 6 (vaR A)) ∧ h (A 2) = some (oR X 3 20 (laR A)) ∧ h (A 3) = some (oR X 4 60 (oaR A)) ∧
  h (A 4) = some (oI X 4 (nr 4 (fun d => r (11 + d)))) ∧ h (A 5) = some (oI X 4 (nr 4 (fun d => r (15 + d)))) ∧ SetAt X h (A 6) (A 7) r ∧
  (∀ v, v < 6 → VatAt h (A (8 + v)) (vt r v)) ∧ (∀ l, l < 20 → LotAt X h (A (14 + 3 * l)) (A (15 + 3 * l)) (A (16 + 3 * l)) (ltx r l)) ∧ ∀ o, o < 60 → OrdAt X h (A (74 + 2 * o)) (A (75 + 2 * o)) (od r o)
def InjA (A : Nat → Nat) : Prop := ∀ i j, i < 194 → j < 194 → A i = A j → i = j
def Dj (A B : Nat → Nat) : Prop := ∀ i j, i < 194 → j < 194 → A i ≠ B j
def inH (A : Nat → Nat) (q : Nat) : Prop := ∃ i, i < 194 ∧ q = A i
theorem InjA.ne {A : Nat → Nat} (k : InjA A) {i j : Nat} (hi : i < 194) (hj : j < 194) (n : i ≠ j) : A i ≠ A j := fun e => n (k i j hi hj e)
theorem VatAt.ext {h : Hp} {a : Nat} {y z : Nat → Int32} (k : VatAt h a y) (e : ∀ j, j < 4 → y j = z j) : VatAt h a z := by
  unfold VatAt at k ⊢
  rw [← e 0 (by omega), ← e 1 (by omega), ← e 2 (by omega), ← e 3 (by omega)]
  exact k
theorem LotAt.ext {X : Cx} {h : Hp} {a af al : Nat} {y z : Nat → Int32} (k : LotAt X h a af al y) (e : ∀ j, j < 15 → y j = z j) : LotAt X h a af al z := by
  obtain ⟨k1, k2, k3⟩ := k
  refine ⟨?_, ?_, ?_⟩
  · unfold lotC at k1 ⊢
    rw [← e 0 (by omega), ← e 1 (by omega), ← e 10 (by omega), ← e 11 (by omega), ← e 12 (by omega), ← e 13 (by omega), ← e 14 (by omega)]
    exact k1
  · rw [k2]
    unfold fixA
    rw [nr_ext (fun j hj => e (2 + j) (by omega))]
  · rw [k3]
    unfold looA
    rw [nr_ext (fun j hj => e (6 + j) (by omega))]
theorem OrdAt.ext {X : Cx} {h : Hp} {a sa : Nat} {y z : Nat → Int32} (k : OrdAt X h a sa y) (e : ∀ j, j < 5 → y j = z j) : OrdAt X h a sa z := by
  obtain ⟨k1, k2⟩ := k
  refine ⟨?_, ?_⟩
  · unfold ordC at k1 ⊢
    rw [← e 4 (by omega)]
    exact k1
  · rw [k2, nr_ext (fun j hj => e j (by omega))]
theorem SetAt.ext {X : Cx} {h : Hp} {s v : Nat} {y z : Nat → Int32} (k : SetAt X h s v y) (e : ∀ j, j < 7 → y j = z j) : SetAt X h s v z := by
  obtain ⟨k1, k2⟩ := k
  exact ⟨k1, by rw [k2, nr_ext (fun j hj => e j (by omega))]⟩
theorem VatAt.kept {h h1 : Hp} {a : Nat} {y : Nat → Int32} (k : VatAt h a y) (e : h1 a = h a) : VatAt h1 a y := by
  unfold VatAt at k ⊢
  rw [e]
  exact k
theorem LotAt.kept {X : Cx} {h h1 : Hp} {a af al : Nat} {y : Nat → Int32} (k : LotAt X h a af al y) (e : h1 a = h a) (e1 : h1 af = h af) (e2 : h1 al = h al) : LotAt X h1 a af al y := ⟨e.trans k.1, e1.trans k.2.1, e2.trans k.2.2⟩
theorem OrdAt.kept {X : Cx} {h h1 : Hp} {a sa : Nat} {y : Nat → Int32} (k : OrdAt X h a sa y) (e : h1 a = h a) (e1 : h1 sa = h sa) : OrdAt X h1 a sa y := ⟨e.trans k.1, e1.trans k.2⟩
theorem SetAt.kept {X : Cx} {h h1 : Hp} {s v : Nat} {y : Nat → Int32} (k : SetAt X h s v y) (e : h1 s = h s) (e1 : h1 v = h v) : SetAt X h1 s v y := ⟨e.trans k.1, e1.trans k.2⟩
theorem fnd {w : Int32} {n : Nat} (hn : n < 2 ^ 31) (c1 : ¬ w < 0) (c2 : ¬ nI n ≤ w) : ∃ j, j < n ∧ w = nI j := by
  refine i_sm ?_ ?_ hn
  · simp only [i_lt, Int32.reduceToInt] at c1
    omega
  · rw [i_le, nI_toInt hn] at c2
    omega
theorem HouseAt.kept {X : Cx} {h h1 : Hp} {A : Nat → Nat} {r : Nat → Int32} (k : HouseAt X h A r) (e : ∀ i, i < 194 → h1 (A i) = h (A i)) : HouseAt X h1 A r := by
  obtain ⟨k0, k1, k2, k3, k4, k5, k6, kv, kl, ko⟩ := k
  exact ⟨(e 0 (by omega)).trans k0, (e 1 (by omega)).trans k1, (e 2 (by omega)).trans k2, (e 3 (by omega)).trans k3, (e 4 (by omega)).trans k4, (e 5 (by omega)).trans k5, k6.kept (e 6 (by omega)) (e 7 (by omega)), fun v hv => (kv v hv).kept (e _ (by omega)), fun l hl => (kl l hl).kept (e _ (by omega)) (e _ (by omega)) (e _ (by omega)), fun o ho => (ko o ho).kept (e _ (by omega)) (e _ (by omega))⟩
theorem HouseAt.ext {X : Cx} {h : Hp} {A : Nat → Nat} {r t : Nat → Int32} (k : HouseAt X h A r) (e : ∀ p, p < 643 → r p = t p) : HouseAt X h A t := by
  obtain ⟨k0, k1, k2, k3, k4, k5, k6, kv, kl, ko⟩ := k
  refine ⟨?_, k1, k2, k3, ?_, ?_, k6.ext (fun j hj => e j (by omega)), fun v hv => (kv v hv).ext (fun j hj => e _ (by omega)), fun l hl => (kl l hl).ext (fun j hj => e _ (by omega)), fun o ho => (ko o ho).ext (fun j hj => e _ (by omega))⟩
  · rw [k0]
    unfold hobC
    rw [e 7 (by omega), e 8 (by omega), e 9 (by omega), e 10 (by omega)]
  · rw [k4, nr_ext (fun j hj => e (11 + j) (by omega))]
  · rw [k5, nr_ext (fun j hj => e (15 + j) (by omega))]

theorem ne_ro {X : Cx} {h : Hp} {a b k n : Nat} {f : Nat → Option Nat} {e : va_E} (h1 : h a = some (oR X k n f)) (h2 : h b = some e) (he : ∀ j m g, e ≠ oR X j m g := by intro j m g; simp [oR, ob, oI, lotC, fixA, looA, ordC]) : a ≠ b := by
  intro z
  subst z
  rw [h1] at h2
  exact he _ _ _ (Option.some.inj h2).symm

set_option maxHeartbeats 4000000 in
set_option maxRecDepth 100000 in
theorem ct_findVat (X : Cx) {h : Hp} {a p0 p1 p2 p3 p4 p5 n : Nat} {c1 c2 c3 : Int32} {f : Nat → Option Nat} {j q : Nat}  (hn : n ≤ 6) (ha : h a = some (ob 1 [.ref p0, .ref p1, .ref p2, .int (nI n), .int c1, .int c2, .int c3, .ref p3, .ref p4, .ref p5])) (hp : h p0 = some (oR X 2 6 f)) (hj : j < n) (hf : f j = some q) : Ct X mX1_findVat 0 0 0 [.ref a, .int (nI j)] h (Ex (.ref q) h) := by
  refine Ct.ofG vX1_findVat.1.2.2.1 (Nat.le_of_ble_eq_true rfl) ?_
  show G X RX1 cX1_findVat 3 (some (.object "DarkVats$Vat")) "findVat" (Rm 0 0 0) (Fm X (Ex (.ref q) h) 0 0) 0 0 0 [(0, .ref a), (1, .int (nI j))] [] h
  refine g_iload_n dX1_findVat_0 (by rfl) ?_
  refine g_if_lt (tgt := 25) dX1_findVat_1 (by decide) (fun c1 => absurd c1 (c_neg (by omega))) (fun c1 => ?_)
  refine g_iload_n dX1_findVat_4 (by rfl) ?_
  refine g_aload_n dX1_findVat_5 (by rfl) (by first | exact isRf_r | exact isRf_n | exact isRf_o | assumption) ?_
  refine g_getf dX1_findVat_6 fX1_46 (by first | assumption | (repeat' (first | assumption | exact hu_same | exact Ne.symm (by assumption) | apply hu_n1))) (by rfl) ?_
  refine g_icmp_ge (tgt := 25) dX1_findVat_9 (by decide) (fun c2 => absurd (c_ge (by omega) (by omega) c2) (by omega)) (fun c2 => ?_)
  refine g_iload_n dX1_findVat_12 (by rfl) ?_
  refine g_aload_n dX1_findVat_13 (by rfl) (by first | exact isRf_r | exact isRf_n | exact isRf_o | assumption) ?_
  refine g_getf dX1_findVat_14 fX1_11 (by first | assumption | (repeat' (first | assumption | exact hu_same | exact Ne.symm (by assumption) | apply hu_n1))) (by rfl) ?_
  refine g_alenR dX1_findVat_17 (by first | assumption | (repeat' (first | assumption | exact hu_same | exact Ne.symm (by assumption) | apply hu_n1))) (by decide) ?_
  refine g_icmp_ge (tgt := 25) dX1_findVat_18 (by decide) (fun c3 => absurd (c_ge (a := 6) (by omega) (by omega) c3) (by omega)) (fun c3 => ?_)
  refine g_iconst (v := 1) dX1_findVat_21 (by decide) ?_
  refine g_goto (tgt := 26) dX1_findVat_22 (by decide) ?_
  refine g_istore_n (L1 := [(0, _), (1, _), (2, _)]) dX1_findVat_26 (by decide) (by rfl) ?_
  refine g_iload_n dX1_findVat_27 (by rfl) ?_
  refine g_if_eq (tgt := 40) dX1_findVat_28 (by decide) (fun c4 => absurd c4 (by decide)) (fun c4 => ?_)
  refine g_aload_n dX1_findVat_31 (by rfl) (by first | exact isRf_r | exact isRf_n | exact isRf_o | assumption) ?_
  refine g_getf dX1_findVat_32 fX1_11 (by first | assumption | (repeat' (first | assumption | exact hu_same | exact Ne.symm (by assumption) | apply hu_n1))) (by rfl) ?_
  refine g_iload_n dX1_findVat_35 (by rfl) ?_
  refine g_aaN dX1_findVat_36 (by first | assumption | (repeat' (first | assumption | exact hu_same | exact Ne.symm (by assumption) | apply hu_n1))) rfl (by omega) (by omega) hf ?_
  refine g_goto (tgt := 41) dX1_findVat_37 (by decide) ?_
  refine g_aret dX1_findVat_41 rfl (by first | exact isRf_r | exact isRf_n | exact isRf_o | assumption) (Nat.le_refl _) (Nat.le_refl _) ?_
  exact ⟨rfl, rfl⟩

set_option maxHeartbeats 4000000 in
set_option maxRecDepth 100000 in
theorem ct_findVatN (X : Cx) {h : Hp} {a p0 p1 p2 p3 p4 p5 n : Nat} {c1 c2 c3 : Int32} {f : Nat → Option Nat} {w : Int32}  (hn : n ≤ 6) (ha : h a = some (ob 1 [.ref p0, .ref p1, .ref p2, .int (nI n), .int c1, .int c2, .int c3, .ref p3, .ref p4, .ref p5])) (hp : h p0 = some (oR X 2 6 f)) (hbad : ¬ ∃ j, j < n ∧ w = nI j) : Ct X mX1_findVat 0 0 0 [.ref a, .int w] h (Ex .null h) := by
  refine Ct.ofG vX1_findVat.1.2.2.1 (Nat.le_of_ble_eq_true rfl) ?_
  show G X RX1 cX1_findVat 3 (some (.object "DarkVats$Vat")) "findVat" (Rm 0 0 0) (Fm X (Ex .null h) 0 0) 0 0 0 [(0, .ref a), (1, .int w)] [] h
  refine g_iload_n dX1_findVat_0 (by rfl) ?_
  refine g_if_lt (tgt := 25) dX1_findVat_1 (by decide) (fun c1 => ?_) (fun c1 => ?_)
  · skip
    refine g_iconst (v := 0) dX1_findVat_25 (by decide) ?_
    refine g_istore_n (L1 := [(0, _), (1, _), (2, _)]) dX1_findVat_26 (by decide) (by rfl) ?_
    refine g_iload_n dX1_findVat_27 (by rfl) ?_
    refine g_if_eq (tgt := 40) dX1_findVat_28 (by decide) (fun c2 => ?_) (fun c2 => absurd rfl c2)
    refine g_null dX1_findVat_40 ?_
    refine g_aret dX1_findVat_41 rfl (by first | exact isRf_r | exact isRf_n | exact isRf_o | assumption) (Nat.le_refl _) (Nat.le_refl _) ?_
    exact ⟨rfl, rfl⟩
  · skip
    refine g_iload_n dX1_findVat_4 (by rfl) ?_
    refine g_aload_n dX1_findVat_5 (by rfl) (by first | exact isRf_r | exact isRf_n | exact isRf_o | assumption) ?_
    refine g_getf dX1_findVat_6 fX1_46 (by first | assumption | (repeat' (first | assumption | exact hu_same | exact Ne.symm (by assumption) | apply hu_n1))) (by rfl) ?_
    refine g_icmp_ge (tgt := 25) dX1_findVat_9 (by decide) (fun c3 => ?_) (fun c3 => (hbad (fnd (by omega) c1 c3)).elim)
    refine g_iconst (v := 0) dX1_findVat_25 (by decide) ?_
    refine g_istore_n (L1 := [(0, _), (1, _), (2, _)]) dX1_findVat_26 (by decide) (by rfl) ?_
    refine g_iload_n dX1_findVat_27 (by rfl) ?_
    refine g_if_eq (tgt := 40) dX1_findVat_28 (by decide) (fun c4 => ?_) (fun c4 => absurd rfl c4)
    refine g_null dX1_findVat_40 ?_
    refine g_aret dX1_findVat_41 rfl (by first | exact isRf_r | exact isRf_n | exact isRf_o | assumption) (Nat.le_refl _) (Nat.le_refl _) ?_
    exact ⟨rfl, rfl⟩

set_option maxHeartbeats 4000000 in
set_option maxRecDepth 100000 in
theorem ct_findLot (X : Cx) {h : Hp} {a p0 p1 p2 p3 p4 p5 n : Nat} {c0 c2 c3 : Int32} {f : Nat → Option Nat} {j q : Nat}  (hn : n ≤ 20) (ha : h a = some (ob 1 [.ref p0, .ref p1, .ref p2, .int c0, .int (nI n), .int c2, .int c3, .ref p3, .ref p4, .ref p5])) (hp : h p1 = some (oR X 3 20 f)) (hj : j < n) (hf : f j = some q) : Ct X mX1_findLot 0 0 0 [.ref a, .int (nI j)] h (Ex (.ref q) h) := by
  refine Ct.ofG vX1_findLot.1.2.2.1 (Nat.le_of_ble_eq_true rfl) ?_
  show G X RX1 cX1_findLot 3 (some (.object "DarkVats$Lot")) "findLot" (Rm 0 0 0) (Fm X (Ex (.ref q) h) 0 0) 0 0 0 [(0, .ref a), (1, .int (nI j))] [] h
  refine g_iload_n dX1_findLot_0 (by rfl) ?_
  refine g_if_lt (tgt := 25) dX1_findLot_1 (by decide) (fun c1 => absurd c1 (c_neg (by omega))) (fun c1 => ?_)
  refine g_iload_n dX1_findLot_4 (by rfl) ?_
  refine g_aload_n dX1_findLot_5 (by rfl) (by first | exact isRf_r | exact isRf_n | exact isRf_o | assumption) ?_
  refine g_getf dX1_findLot_6 fX1_50 (by first | assumption | (repeat' (first | assumption | exact hu_same | exact Ne.symm (by assumption) | apply hu_n1))) (by rfl) ?_
  refine g_icmp_ge (tgt := 25) dX1_findLot_9 (by decide) (fun c2 => absurd (c_ge (by omega) (by omega) c2) (by omega)) (fun c2 => ?_)
  refine g_iload_n dX1_findLot_12 (by rfl) ?_
  refine g_aload_n dX1_findLot_13 (by rfl) (by first | exact isRf_r | exact isRf_n | exact isRf_o | assumption) ?_
  refine g_getf dX1_findLot_14 fX1_19 (by first | assumption | (repeat' (first | assumption | exact hu_same | exact Ne.symm (by assumption) | apply hu_n1))) (by rfl) ?_
  refine g_alenR dX1_findLot_17 (by first | assumption | (repeat' (first | assumption | exact hu_same | exact Ne.symm (by assumption) | apply hu_n1))) (by decide) ?_
  refine g_icmp_ge (tgt := 25) dX1_findLot_18 (by decide) (fun c3 => absurd (c_ge (a := 20) (by omega) (by omega) c3) (by omega)) (fun c3 => ?_)
  refine g_iconst (v := 1) dX1_findLot_21 (by decide) ?_
  refine g_goto (tgt := 26) dX1_findLot_22 (by decide) ?_
  refine g_istore_n (L1 := [(0, _), (1, _), (2, _)]) dX1_findLot_26 (by decide) (by rfl) ?_
  refine g_iload_n dX1_findLot_27 (by rfl) ?_
  refine g_if_eq (tgt := 40) dX1_findLot_28 (by decide) (fun c4 => absurd c4 (by decide)) (fun c4 => ?_)
  refine g_aload_n dX1_findLot_31 (by rfl) (by first | exact isRf_r | exact isRf_n | exact isRf_o | assumption) ?_
  refine g_getf dX1_findLot_32 fX1_19 (by first | assumption | (repeat' (first | assumption | exact hu_same | exact Ne.symm (by assumption) | apply hu_n1))) (by rfl) ?_
  refine g_iload_n dX1_findLot_35 (by rfl) ?_
  refine g_aaN dX1_findLot_36 (by first | assumption | (repeat' (first | assumption | exact hu_same | exact Ne.symm (by assumption) | apply hu_n1))) rfl (by omega) (by omega) hf ?_
  refine g_goto (tgt := 41) dX1_findLot_37 (by decide) ?_
  refine g_aret dX1_findLot_41 rfl (by first | exact isRf_r | exact isRf_n | exact isRf_o | assumption) (Nat.le_refl _) (Nat.le_refl _) ?_
  exact ⟨rfl, rfl⟩

set_option maxHeartbeats 4000000 in
set_option maxRecDepth 100000 in
theorem ct_findLotN (X : Cx) {h : Hp} {a p0 p1 p2 p3 p4 p5 n : Nat} {c0 c2 c3 : Int32} {f : Nat → Option Nat} {w : Int32}  (hn : n ≤ 20) (ha : h a = some (ob 1 [.ref p0, .ref p1, .ref p2, .int c0, .int (nI n), .int c2, .int c3, .ref p3, .ref p4, .ref p5])) (hp : h p1 = some (oR X 3 20 f)) (hbad : ¬ ∃ j, j < n ∧ w = nI j) : Ct X mX1_findLot 0 0 0 [.ref a, .int w] h (Ex .null h) := by
  refine Ct.ofG vX1_findLot.1.2.2.1 (Nat.le_of_ble_eq_true rfl) ?_
  show G X RX1 cX1_findLot 3 (some (.object "DarkVats$Lot")) "findLot" (Rm 0 0 0) (Fm X (Ex .null h) 0 0) 0 0 0 [(0, .ref a), (1, .int w)] [] h
  refine g_iload_n dX1_findLot_0 (by rfl) ?_
  refine g_if_lt (tgt := 25) dX1_findLot_1 (by decide) (fun c1 => ?_) (fun c1 => ?_)
  · skip
    refine g_iconst (v := 0) dX1_findLot_25 (by decide) ?_
    refine g_istore_n (L1 := [(0, _), (1, _), (2, _)]) dX1_findLot_26 (by decide) (by rfl) ?_
    refine g_iload_n dX1_findLot_27 (by rfl) ?_
    refine g_if_eq (tgt := 40) dX1_findLot_28 (by decide) (fun c2 => ?_) (fun c2 => absurd rfl c2)
    refine g_null dX1_findLot_40 ?_
    refine g_aret dX1_findLot_41 rfl (by first | exact isRf_r | exact isRf_n | exact isRf_o | assumption) (Nat.le_refl _) (Nat.le_refl _) ?_
    exact ⟨rfl, rfl⟩
  · skip
    refine g_iload_n dX1_findLot_4 (by rfl) ?_
    refine g_aload_n dX1_findLot_5 (by rfl) (by first | exact isRf_r | exact isRf_n | exact isRf_o | assumption) ?_
    refine g_getf dX1_findLot_6 fX1_50 (by first | assumption | (repeat' (first | assumption | exact hu_same | exact Ne.symm (by assumption) | apply hu_n1))) (by rfl) ?_
    refine g_icmp_ge (tgt := 25) dX1_findLot_9 (by decide) (fun c3 => ?_) (fun c3 => (hbad (fnd (by omega) c1 c3)).elim)
    refine g_iconst (v := 0) dX1_findLot_25 (by decide) ?_
    refine g_istore_n (L1 := [(0, _), (1, _), (2, _)]) dX1_findLot_26 (by decide) (by rfl) ?_
    refine g_iload_n dX1_findLot_27 (by rfl) ?_
    refine g_if_eq (tgt := 40) dX1_findLot_28 (by decide) (fun c4 => ?_) (fun c4 => absurd rfl c4)
    refine g_null dX1_findLot_40 ?_
    refine g_aret dX1_findLot_41 rfl (by first | exact isRf_r | exact isRf_n | exact isRf_o | assumption) (Nat.le_refl _) (Nat.le_refl _) ?_
    exact ⟨rfl, rfl⟩

set_option maxHeartbeats 4000000 in
set_option maxRecDepth 100000 in
theorem ct_findOrder (X : Cx) {h : Hp} {a p0 p1 p2 p3 p4 p5 n : Nat} {c0 c1 c3 : Int32} {f : Nat → Option Nat} {j q : Nat}  (hn : n ≤ 60) (ha : h a = some (ob 1 [.ref p0, .ref p1, .ref p2, .int c0, .int c1, .int (nI n), .int c3, .ref p3, .ref p4, .ref p5])) (hp : h p2 = some (oR X 4 60 f)) (hj : j < n) (hf : f j = some q) : Ct X mX1_findOrder 0 0 0 [.ref a, .int (nI j)] h (Ex (.ref q) h) := by
  refine Ct.ofG vX1_findOrder.1.2.2.1 (Nat.le_of_ble_eq_true rfl) ?_
  show G X RX1 cX1_findOrder 3 (some (.object "DarkVats$Order")) "findOrder" (Rm 0 0 0) (Fm X (Ex (.ref q) h) 0 0) 0 0 0 [(0, .ref a), (1, .int (nI j))] [] h
  refine g_iload_n dX1_findOrder_0 (by rfl) ?_
  refine g_if_lt (tgt := 25) dX1_findOrder_1 (by decide) (fun c1 => absurd c1 (c_neg (by omega))) (fun c1 => ?_)
  refine g_iload_n dX1_findOrder_4 (by rfl) ?_
  refine g_aload_n dX1_findOrder_5 (by rfl) (by first | exact isRf_r | exact isRf_n | exact isRf_o | assumption) ?_
  refine g_getf dX1_findOrder_6 fX1_53 (by first | assumption | (repeat' (first | assumption | exact hu_same | exact Ne.symm (by assumption) | apply hu_n1))) (by rfl) ?_
  refine g_icmp_ge (tgt := 25) dX1_findOrder_9 (by decide) (fun c2 => absurd (c_ge (by omega) (by omega) c2) (by omega)) (fun c2 => ?_)
  refine g_iload_n dX1_findOrder_12 (by rfl) ?_
  refine g_aload_n dX1_findOrder_13 (by rfl) (by first | exact isRf_r | exact isRf_n | exact isRf_o | assumption) ?_
  refine g_getf dX1_findOrder_14 fX1_25 (by first | assumption | (repeat' (first | assumption | exact hu_same | exact Ne.symm (by assumption) | apply hu_n1))) (by rfl) ?_
  refine g_alenR dX1_findOrder_17 (by first | assumption | (repeat' (first | assumption | exact hu_same | exact Ne.symm (by assumption) | apply hu_n1))) (by decide) ?_
  refine g_icmp_ge (tgt := 25) dX1_findOrder_18 (by decide) (fun c3 => absurd (c_ge (a := 60) (by omega) (by omega) c3) (by omega)) (fun c3 => ?_)
  refine g_iconst (v := 1) dX1_findOrder_21 (by decide) ?_
  refine g_goto (tgt := 26) dX1_findOrder_22 (by decide) ?_
  refine g_istore_n (L1 := [(0, _), (1, _), (2, _)]) dX1_findOrder_26 (by decide) (by rfl) ?_
  refine g_iload_n dX1_findOrder_27 (by rfl) ?_
  refine g_if_eq (tgt := 40) dX1_findOrder_28 (by decide) (fun c4 => absurd c4 (by decide)) (fun c4 => ?_)
  refine g_aload_n dX1_findOrder_31 (by rfl) (by first | exact isRf_r | exact isRf_n | exact isRf_o | assumption) ?_
  refine g_getf dX1_findOrder_32 fX1_25 (by first | assumption | (repeat' (first | assumption | exact hu_same | exact Ne.symm (by assumption) | apply hu_n1))) (by rfl) ?_
  refine g_iload_n dX1_findOrder_35 (by rfl) ?_
  refine g_aaN dX1_findOrder_36 (by first | assumption | (repeat' (first | assumption | exact hu_same | exact Ne.symm (by assumption) | apply hu_n1))) rfl (by omega) (by omega) hf ?_
  refine g_goto (tgt := 41) dX1_findOrder_37 (by decide) ?_
  refine g_aret dX1_findOrder_41 rfl (by first | exact isRf_r | exact isRf_n | exact isRf_o | assumption) (Nat.le_refl _) (Nat.le_refl _) ?_
  exact ⟨rfl, rfl⟩

set_option maxHeartbeats 4000000 in
set_option maxRecDepth 100000 in
theorem ct_findOrderN (X : Cx) {h : Hp} {a p0 p1 p2 p3 p4 p5 n : Nat} {c0 c1 c3 : Int32} {f : Nat → Option Nat} {w : Int32}  (hn : n ≤ 60) (ha : h a = some (ob 1 [.ref p0, .ref p1, .ref p2, .int c0, .int c1, .int (nI n), .int c3, .ref p3, .ref p4, .ref p5])) (hp : h p2 = some (oR X 4 60 f)) (hbad : ¬ ∃ j, j < n ∧ w = nI j) : Ct X mX1_findOrder 0 0 0 [.ref a, .int w] h (Ex .null h) := by
  refine Ct.ofG vX1_findOrder.1.2.2.1 (Nat.le_of_ble_eq_true rfl) ?_
  show G X RX1 cX1_findOrder 3 (some (.object "DarkVats$Order")) "findOrder" (Rm 0 0 0) (Fm X (Ex .null h) 0 0) 0 0 0 [(0, .ref a), (1, .int w)] [] h
  refine g_iload_n dX1_findOrder_0 (by rfl) ?_
  refine g_if_lt (tgt := 25) dX1_findOrder_1 (by decide) (fun c1 => ?_) (fun c1 => ?_)
  · skip
    refine g_iconst (v := 0) dX1_findOrder_25 (by decide) ?_
    refine g_istore_n (L1 := [(0, _), (1, _), (2, _)]) dX1_findOrder_26 (by decide) (by rfl) ?_
    refine g_iload_n dX1_findOrder_27 (by rfl) ?_
    refine g_if_eq (tgt := 40) dX1_findOrder_28 (by decide) (fun c2 => ?_) (fun c2 => absurd rfl c2)
    refine g_null dX1_findOrder_40 ?_
    refine g_aret dX1_findOrder_41 rfl (by first | exact isRf_r | exact isRf_n | exact isRf_o | assumption) (Nat.le_refl _) (Nat.le_refl _) ?_
    exact ⟨rfl, rfl⟩
  · skip
    refine g_iload_n dX1_findOrder_4 (by rfl) ?_
    refine g_aload_n dX1_findOrder_5 (by rfl) (by first | exact isRf_r | exact isRf_n | exact isRf_o | assumption) ?_
    refine g_getf dX1_findOrder_6 fX1_53 (by first | assumption | (repeat' (first | assumption | exact hu_same | exact Ne.symm (by assumption) | apply hu_n1))) (by rfl) ?_
    refine g_icmp_ge (tgt := 25) dX1_findOrder_9 (by decide) (fun c3 => ?_) (fun c3 => (hbad (fnd (by omega) c1 c3)).elim)
    refine g_iconst (v := 0) dX1_findOrder_25 (by decide) ?_
    refine g_istore_n (L1 := [(0, _), (1, _), (2, _)]) dX1_findOrder_26 (by decide) (by rfl) ?_
    refine g_iload_n dX1_findOrder_27 (by rfl) ?_
    refine g_if_eq (tgt := 40) dX1_findOrder_28 (by decide) (fun c4 => ?_) (fun c4 => absurd rfl c4)
    refine g_null dX1_findOrder_40 ?_
    refine g_aret dX1_findOrder_41 rfl (by first | exact isRf_r | exact isRf_n | exact isRf_o | assumption) (Nat.le_refl _) (Nat.le_refl _) ?_
    exact ⟨rfl, rfl⟩

set_option maxHeartbeats 4000000 in
set_option maxRecDepth 100000 in
theorem ct_X1_isAskable (X : Cx) {h : Hp} {d : Int32}  : Ct X mX1_isAskable 0 0 0 [.int d] h (Ex (.int (bI (decide (0 ≤ d ∧ d ≤ 20000)))) h) := by
  refine Ct.ofG vX1_isAskable.1.2.2.1 (Nat.le_of_ble_eq_true rfl) ?_
  show G X RX1 cX1_isAskable 1 (some .boolean) "isAskable" (Rm 0 0 0) (Fm X (Ex (.int (bI (decide (0 ≤ d ∧ d ≤ 20000)))) h) 0 0) 0 0 0 [(0, .int d)] [] h
  refine g_iload_n dX1_isAskable_0 (by rfl) ?_
  refine g_if_lt (tgt := 15) dX1_isAskable_1 (by decide) (fun c1 => ?_) (fun c1 => ?_)
  · skip
    refine g_iconst (v := 0) dX1_isAskable_15 (by decide) ?_
    refine g_zret dX1_isAskable_16 rfl (by decide) (Nat.le_refl _) (Nat.le_refl _) ?_
    exact Ex.i (by first | exact bI_t ⟨by simpa using c1, by simp only [i_lt, i_le] at *; omega⟩ | exact bI_f (fun z => by have z1 := z.1; have z2 := z.2; simp only [i_lt, i_le] at *; omega)) rfl
  · skip
    refine g_iload_n dX1_isAskable_4 (by rfl) ?_
    refine g_sipush (v := 20000) dX1_isAskable_5 (by decide) ?_
    refine g_icmp_gt (tgt := 15) dX1_isAskable_8 (by decide) (fun c2 => ?_) (fun c2 => ?_)
    · skip
      refine g_iconst (v := 0) dX1_isAskable_15 (by decide) ?_
      refine g_zret dX1_isAskable_16 rfl (by decide) (Nat.le_refl _) (Nat.le_refl _) ?_
      exact Ex.i (by first | exact bI_t ⟨by simpa using c1, by simp only [i_lt, i_le] at *; omega⟩ | exact bI_f (fun z => by have z1 := z.1; have z2 := z.2; simp only [i_lt, i_le] at *; omega)) rfl
    · skip
      refine g_iconst (v := 1) dX1_isAskable_11 (by decide) ?_
      refine g_goto (tgt := 16) dX1_isAskable_12 (by decide) ?_
      refine g_zret dX1_isAskable_16 rfl (by decide) (Nat.le_refl _) (Nat.le_refl _) ?_
      exact Ex.i (by first | exact bI_t ⟨by simpa using c1, by simp only [i_lt, i_le] at *; omega⟩ | exact bI_f (fun z => by have z1 := z.1; have z2 := z.2; simp only [i_lt, i_le] at *; omega)) rfl

set_option maxHeartbeats 4000000 in
set_option maxRecDepth 100000 in
theorem ct_X1_copyVats (X : Cx) {h : Hp} {A B : Nat → Nat} {p0 p1 p2 p3 p4 p5 b : Nat} {c0 c1 c2 c3 : Int32} {r t : Nat → Int32}  (hI : InjA A) (hD : Dj A B) (ha : h (A 0) = some (ob 1 [.ref p0, .ref p1, .ref p2, .int c0, .int c1, .int c2, .int c3, .ref p3, .ref p4, .ref p5])) (hp : h p0 = some (oR X 2 6 (vaR A))) (hq : h b = some (oR X 2 6 (vaR B))) (hA : ∀ v, v < 6 → VatAt h (A (8 + v)) (vt r v)) (hB : ∀ v, v < 6 → VatAt h (B (8 + v)) (vt t v)) : Ct X mX1_copyVats 1 0 0 [.ref (A 0), .ref b] h (fun u h1 => u = none ∧ (∀ v, v < 6 → VatAt h1 (A (8 + v)) (vt t v)) ∧ (∀ q, (∀ v, v < 6 → q ≠ A (8 + v)) → h1 q = h q)) := by
  have hD2 : ∀ i j, i < 194 → j < 194 → A i ≠ B j := hD
  have hA0 : ∀ v, v < 6 → A 0 ≠ A (8 + v) := fun v hv => hI.ne (by omega) (by omega) (by omega)
  have hp0 : ∀ v, v < 6 → p0 ≠ A (8 + v) := fun v hv => ne_ro hp (hA v hv)
  have hq0 : ∀ v, v < 6 → b ≠ A (8 + v) := fun v hv => ne_ro hq (hA v hv)
  refine Ct.ofG vX1_copyVats.1.2.2.1 (Nat.le_of_ble_eq_true rfl) ?_
  show G X RX1 cX1_copyVats 5 none "copyVats" (Rm 1 0 0) (Fm X (fun u h1 => u = none ∧ (∀ v, v < 6 → VatAt h1 (A (8 + v)) (vt t v)) ∧ (∀ q, (∀ v, v < 6 → q ≠ A (8 + v)) → h1 q = h q)) 0 0) 0 0 0 [(0, .ref (A 0)), (1, .ref b)] [] h
  refine g_iconst (v := 0) dX1_copyVats_0 (by decide) ?_
  refine g_istore_n (L1 := [(0, _), (1, _), (2, _)]) dX1_copyVats_1 (by decide) (by rfl) ?_
  have loop2 : ∀ j, j ≤ 6 → ∀ h1, (∀ v, v < j → VatAt h1 (A (8 + v)) (vt t v)) → (∀ v, v < 6 → j ≤ v → VatAt h1 (A (8 + v)) (vt r v)) → (∀ q, (∀ v, v < 6 → q ≠ A (8 + v)) → h1 q = h q) → G X RX1 cX1_copyVats 5 none "copyVats" (Rm 1 0 0) (Fm X (fun u h1 => u = none ∧ (∀ v, v < 6 → VatAt h1 (A (8 + v)) (vt t v)) ∧ (∀ q, (∀ v, v < 6 → q ≠ A (8 + v)) → h1 q = h q)) 0 0) 0 0 2 [(0, .ref (A 0)), (1, .ref b), (2, .int (nI j))] [] h1 := by
    refine up_ind 6 (fun j hj ih => ?_)
    intro h1 hdone hcur hF
    have ha1 : h1 (A 0) = _ := (hF (A 0) (fun v hv => hI.ne (by omega) (by omega) (by omega))).trans ha
    have hp1 : h1 p0 = _ := (hF p0 hp0).trans hp
    have hq1 : h1 b = _ := (hF b hq0).trans hq
    have hsrc : ∀ v, v < 6 → VatAt h1 (B (8 + v)) (vt t v) := fun v hv => (hB v hv).kept (hF _ (fun w hw => (hD2 _ _ (by omega) (by omega)).symm))
    refine g_iload_n dX1_copyVats_2 (by rfl) ?_
    refine g_aload_n dX1_copyVats_3 (by rfl) (by first | exact isRf_r | exact isRf_n | exact isRf_o | assumption) ?_
    refine g_getf dX1_copyVats_4 fX1_11 (by first | assumption | (repeat' (first | assumption | exact hu_same | exact Ne.symm (by assumption) | apply hu_n1))) (by rfl) ?_
    refine g_alenR dX1_copyVats_7 (by first | assumption | (repeat' (first | assumption | exact hu_same | exact Ne.symm (by assumption) | apply hu_n1))) (by decide) ?_
    refine g_icmp_ge (tgt := 50) dX1_copyVats_8 (by decide) (fun c1 => ?_) (fun c1 => ?_)
    · skip
      have hje : j = 6 := Nat.le_antisymm hj (c_ge (a := 6) (by omega) (by omega) c1)
      subst hje
      refine g_vret dX1_copyVats_50 rfl (Nat.le_refl _) (Nat.le_refl _) ?_
      exact ⟨rfl, hdone, hF⟩
    · skip
      have hlt : j < 6 := c_nge (a := 6) (b := j) (by omega) (by omega) c1
      refine g_iload_n dX1_copyVats_11 (by rfl) ?_
      refine g_aload_n dX1_copyVats_12 (by rfl) (by first | exact isRf_r | exact isRf_n | exact isRf_o | assumption) ?_
      refine g_alenR dX1_copyVats_13 (by first | assumption | (repeat' (first | assumption | exact hu_same | exact Ne.symm (by assumption) | apply hu_n1))) (by decide) ?_
      refine g_icmp_ge (tgt := 50) dX1_copyVats_14 (by decide) (fun c2 => absurd (c_ge (a := 6) (by omega) (by omega) c2) (by omega)) (fun c2 => ?_)
      refine g_aload_n dX1_copyVats_17 (by rfl) (by first | exact isRf_r | exact isRf_n | exact isRf_o | assumption) ?_
      refine g_iload_n dX1_copyVats_18 (by rfl) ?_
      refine g_aaN dX1_copyVats_19 (by first | assumption | (repeat' (first | assumption | exact hu_same | exact Ne.symm (by assumption) | apply hu_n1))) rfl hlt (by omega) (if_pos hlt) ?_
      refine g_astore_n (L1 := [(0, _), (1, _), (2, _), (3, _)]) dX1_copyVats_20 (by first | exact isRf_r | exact isRf_n | exact isRf_o | assumption) (by decide) (by rfl) ?_
      refine g_aload_n dX1_copyVats_21 (by rfl) (by first | exact isRf_r | exact isRf_n | exact isRf_o | assumption) ?_
      refine g_getf dX1_copyVats_22 fX1_11 (by first | assumption | (repeat' (first | assumption | exact hu_same | exact Ne.symm (by assumption) | apply hu_n1))) (by rfl) ?_
      refine g_iload_n dX1_copyVats_25 (by rfl) ?_
      refine g_aaN dX1_copyVats_26 (by first | assumption | (repeat' (first | assumption | exact hu_same | exact Ne.symm (by assumption) | apply hu_n1))) rfl hlt (by omega) (if_pos hlt) ?_
      refine g_astore (L1 := [(0, _), (1, _), (2, _), (3, _), (4, _)]) dX1_copyVats_27 (by first | exact isRf_r | exact isRf_n | exact isRf_o | assumption) (by decide) (by rfl) ?_
      refine g_aload_n dX1_copyVats_29 (by rfl) (by first | exact isRf_r | exact isRf_n | exact isRf_o | assumption) ?_
      refine g_ifnull (tgt := 44) dX1_copyVats_30 (by decide) (by first | exact isRf_r | exact isRf_n | exact isRf_o | assumption) (fun c3 => nomatch c3) (fun c3 => ?_)
      refine g_aload dX1_copyVats_33 (by rfl) (by first | exact isRf_r | exact isRf_n | exact isRf_o | assumption) ?_
      refine g_ifnull (tgt := 44) dX1_copyVats_35 (by decide) (by first | exact isRf_r | exact isRf_n | exact isRf_o | assumption) (fun c4 => nomatch c4) (fun c4 => ?_)
      refine g_aload dX1_copyVats_38 (by rfl) (by first | exact isRf_r | exact isRf_n | exact isRf_o | assumption) ?_
      refine g_aload_n dX1_copyVats_40 (by rfl) (by first | exact isRf_r | exact isRf_n | exact isRf_o | assumption) ?_
      have hcj := hcur j hlt (Nat.le_refl j)
      unfold VatAt at hcj
      refine g_cV1v dX1_copyVats_41 lX1_79 vX8_copyFrom (ct_X8_copyFrom X (hD2 _ _ (by omega) (by omega)).symm (hcur j hlt (Nat.le_refl j)) (hsrc j hlt)) (by first | assumption | (repeat' (first | assumption | exact hu_same | exact Ne.symm (by assumption) | apply hu_n1))) rfl ⟨Nat.le_of_ble_eq_true rfl, Nat.le_of_ble_eq_true rfl⟩ (Nat.le_of_ble_eq_true rfl) ⟨Nat.le_of_ble_eq_true rfl, Nat.le_of_ble_eq_true rfl⟩ ?_
      obtain ⟨h2, eh2⟩ : ∃ h2, h2 = hu h1 (A (8 + j)) (ob 8 [.int (vt t j 0), .int (vt t j 1), .int (vt t j 2), .int (vt t j 3)]) := ⟨_, rfl⟩
      rw [← eh2]
      have hnew : VatAt h2 (A (8 + j)) (vt t j) := by rw [eh2]; exact hu_same
      have hfr : ∀ q, q ≠ A (8 + j) → h2 q = h1 q := fun q q1 => by rw [eh2, hu_ne q1]
      refine g_iinc (v := nI (j + 1)) (L1 := [(0, _), (1, _), (2, _), (3, _), (4, _)]) dX1_copyVats_44 (by rfl) (nI_1 j) (by decide) (by rfl) ?_
      refine g_goto (tgt := 2) dX1_copyVats_47 (by decide) ?_
      refine g_pick [0, 1, 2] rfl ?_
      refine ih hlt h2 (fun v hv => ?_) (fun v hv hv2 => ?_) (fun q hq9 => ?_)
      · rcases Nat.lt_or_ge v j with z1 | z1
        · exact (hdone v z1).kept (hfr _ (hI.ne (by omega) (by omega) (by omega)))
        · have e : v = j := by omega
          subst e
          exact hnew
      · exact (hcur v hv (by omega)).kept (hfr _ (hI.ne (by omega) (by omega) (by omega)))
      · exact (hfr q (hq9 j hlt)).trans (hF q hq9)
  exact loop2 0 (by omega) h (fun v hv => absurd hv (by omega)) (fun v hv _ => hA v hv) (fun q _ => rfl)

set_option maxHeartbeats 4000000 in
set_option maxRecDepth 100000 in
theorem ct_X1_copyLots (X : Cx) {h : Hp} {A B : Nat → Nat} {p0 p1 p2 p3 p4 p5 b : Nat} {c0 c1 c2 c3 : Int32} {r t : Nat → Int32}  (hI : InjA A) (hD : Dj A B) (ha : h (A 0) = some (ob 1 [.ref p0, .ref p1, .ref p2, .int c0, .int c1, .int c2, .int c3, .ref p3, .ref p4, .ref p5])) (hp : h p1 = some (oR X 3 20 (laR A))) (hq : h b = some (oR X 3 20 (laR B))) (hA : ∀ v, v < 20 → LotAt X h (A (14 + 3 * v)) (A (15 + 3 * v)) (A (16 + 3 * v)) (ltx r v)) (hB : ∀ v, v < 20 → LotAt X h (B (14 + 3 * v)) (B (15 + 3 * v)) (B (16 + 3 * v)) (ltx t v)) (hb : ∀ l, l < 20 → bz (ltx t l 10) ∧ bz (ltx t l 11) ∧ bz (ltx t l 12)) : Ct X mX1_copyLots 2 0 0 [.ref (A 0), .ref b] h (fun u h1 => u = none ∧ (∀ v, v < 20 → LotAt X h1 (A (14 + 3 * v)) (A (15 + 3 * v)) (A (16 + 3 * v)) (ltx t v)) ∧ (∀ q, (∀ v, v < 20 → q ≠ A (14 + 3 * v) ∧ q ≠ A (15 + 3 * v) ∧ q ≠ A (16 + 3 * v)) → h1 q = h q)) := by
  have hD2 : ∀ i j, i < 194 → j < 194 → A i ≠ B j := hD
  have hA0 : ∀ v, v < 20 → A 0 ≠ A (14 + 3 * v) := fun v hv => hI.ne (by omega) (by omega) (by omega)
  have hp0 : ∀ v, v < 20 → p1 ≠ A (14 + 3 * v) ∧ p1 ≠ A (15 + 3 * v) ∧ p1 ≠ A (16 + 3 * v) := fun v hv => ⟨ne_ro hp ((hA v hv).1), ne_ro hp ((hA v hv).2.1), ne_ro hp ((hA v hv).2.2)⟩
  have hq0 : ∀ v, v < 20 → b ≠ A (14 + 3 * v) ∧ b ≠ A (15 + 3 * v) ∧ b ≠ A (16 + 3 * v) := fun v hv => ⟨ne_ro hq ((hA v hv).1), ne_ro hq ((hA v hv).2.1), ne_ro hq ((hA v hv).2.2)⟩
  refine Ct.ofG vX1_copyLots.1.2.2.1 (Nat.le_of_ble_eq_true rfl) ?_
  show G X RX1 cX1_copyLots 5 none "copyLots" (Rm 2 0 0) (Fm X (fun u h1 => u = none ∧ (∀ v, v < 20 → LotAt X h1 (A (14 + 3 * v)) (A (15 + 3 * v)) (A (16 + 3 * v)) (ltx t v)) ∧ (∀ q, (∀ v, v < 20 → q ≠ A (14 + 3 * v) ∧ q ≠ A (15 + 3 * v) ∧ q ≠ A (16 + 3 * v)) → h1 q = h q)) 0 0) 0 0 0 [(0, .ref (A 0)), (1, .ref b)] [] h
  refine g_iconst (v := 0) dX1_copyLots_0 (by decide) ?_
  refine g_istore_n (L1 := [(0, _), (1, _), (2, _)]) dX1_copyLots_1 (by decide) (by rfl) ?_
  have loop2 : ∀ j, j ≤ 20 → ∀ h1, (∀ v, v < j → LotAt X h1 (A (14 + 3 * v)) (A (15 + 3 * v)) (A (16 + 3 * v)) (ltx t v)) → (∀ v, v < 20 → j ≤ v → LotAt X h1 (A (14 + 3 * v)) (A (15 + 3 * v)) (A (16 + 3 * v)) (ltx r v)) → (∀ q, (∀ v, v < 20 → q ≠ A (14 + 3 * v) ∧ q ≠ A (15 + 3 * v) ∧ q ≠ A (16 + 3 * v)) → h1 q = h q) → G X RX1 cX1_copyLots 5 none "copyLots" (Rm 2 0 0) (Fm X (fun u h1 => u = none ∧ (∀ v, v < 20 → LotAt X h1 (A (14 + 3 * v)) (A (15 + 3 * v)) (A (16 + 3 * v)) (ltx t v)) ∧ (∀ q, (∀ v, v < 20 → q ≠ A (14 + 3 * v) ∧ q ≠ A (15 + 3 * v) ∧ q ≠ A (16 + 3 * v)) → h1 q = h q)) 0 0) 0 0 2 [(0, .ref (A 0)), (1, .ref b), (2, .int (nI j))] [] h1 := by
    refine up_ind 20 (fun j hj ih => ?_)
    intro h1 hdone hcur hF
    have ha1 : h1 (A 0) = _ := (hF (A 0) (fun v hv => ⟨hI.ne (by omega) (by omega) (by omega), hI.ne (by omega) (by omega) (by omega), hI.ne (by omega) (by omega) (by omega)⟩)).trans ha
    have hp1 : h1 p1 = _ := (hF p1 hp0).trans hp
    have hq1 : h1 b = _ := (hF b hq0).trans hq
    have hsrc : ∀ v, v < 20 → LotAt X h1 (B (14 + 3 * v)) (B (15 + 3 * v)) (B (16 + 3 * v)) (ltx t v) := fun v hv => (hB v hv).kept (hF _ (fun w hw => ⟨(hD2 _ _ (by omega) (by omega)).symm, (hD2 _ _ (by omega) (by omega)).symm, (hD2 _ _ (by omega) (by omega)).symm⟩)) (hF _ (fun w hw => ⟨(hD2 _ _ (by omega) (by omega)).symm, (hD2 _ _ (by omega) (by omega)).symm, (hD2 _ _ (by omega) (by omega)).symm⟩)) (hF _ (fun w hw => ⟨(hD2 _ _ (by omega) (by omega)).symm, (hD2 _ _ (by omega) (by omega)).symm, (hD2 _ _ (by omega) (by omega)).symm⟩))
    refine g_iload_n dX1_copyLots_2 (by rfl) ?_
    refine g_aload_n dX1_copyLots_3 (by rfl) (by first | exact isRf_r | exact isRf_n | exact isRf_o | assumption) ?_
    refine g_getf dX1_copyLots_4 fX1_19 (by first | assumption | (repeat' (first | assumption | exact hu_same | exact Ne.symm (by assumption) | apply hu_n1))) (by rfl) ?_
    refine g_alenR dX1_copyLots_7 (by first | assumption | (repeat' (first | assumption | exact hu_same | exact Ne.symm (by assumption) | apply hu_n1))) (by decide) ?_
    refine g_icmp_ge (tgt := 50) dX1_copyLots_8 (by decide) (fun c1 => ?_) (fun c1 => ?_)
    · skip
      have hje : j = 20 := Nat.le_antisymm hj (c_ge (a := 20) (by omega) (by omega) c1)
      subst hje
      refine g_vret dX1_copyLots_50 rfl (Nat.le_refl _) (Nat.le_refl _) ?_
      exact ⟨rfl, hdone, hF⟩
    · skip
      have hlt : j < 20 := c_nge (a := 20) (b := j) (by omega) (by omega) c1
      refine g_iload_n dX1_copyLots_11 (by rfl) ?_
      refine g_aload_n dX1_copyLots_12 (by rfl) (by first | exact isRf_r | exact isRf_n | exact isRf_o | assumption) ?_
      refine g_alenR dX1_copyLots_13 (by first | assumption | (repeat' (first | assumption | exact hu_same | exact Ne.symm (by assumption) | apply hu_n1))) (by decide) ?_
      refine g_icmp_ge (tgt := 50) dX1_copyLots_14 (by decide) (fun c2 => absurd (c_ge (a := 20) (by omega) (by omega) c2) (by omega)) (fun c2 => ?_)
      refine g_aload_n dX1_copyLots_17 (by rfl) (by first | exact isRf_r | exact isRf_n | exact isRf_o | assumption) ?_
      refine g_iload_n dX1_copyLots_18 (by rfl) ?_
      refine g_aaN dX1_copyLots_19 (by first | assumption | (repeat' (first | assumption | exact hu_same | exact Ne.symm (by assumption) | apply hu_n1))) rfl hlt (by omega) (if_pos hlt) ?_
      refine g_astore_n (L1 := [(0, _), (1, _), (2, _), (3, _)]) dX1_copyLots_20 (by first | exact isRf_r | exact isRf_n | exact isRf_o | assumption) (by decide) (by rfl) ?_
      refine g_aload_n dX1_copyLots_21 (by rfl) (by first | exact isRf_r | exact isRf_n | exact isRf_o | assumption) ?_
      refine g_getf dX1_copyLots_22 fX1_19 (by first | assumption | (repeat' (first | assumption | exact hu_same | exact Ne.symm (by assumption) | apply hu_n1))) (by rfl) ?_
      refine g_iload_n dX1_copyLots_25 (by rfl) ?_
      refine g_aaN dX1_copyLots_26 (by first | assumption | (repeat' (first | assumption | exact hu_same | exact Ne.symm (by assumption) | apply hu_n1))) rfl hlt (by omega) (if_pos hlt) ?_
      refine g_astore (L1 := [(0, _), (1, _), (2, _), (3, _), (4, _)]) dX1_copyLots_27 (by first | exact isRf_r | exact isRf_n | exact isRf_o | assumption) (by decide) (by rfl) ?_
      refine g_aload_n dX1_copyLots_29 (by rfl) (by first | exact isRf_r | exact isRf_n | exact isRf_o | assumption) ?_
      refine g_ifnull (tgt := 44) dX1_copyLots_30 (by decide) (by first | exact isRf_r | exact isRf_n | exact isRf_o | assumption) (fun c3 => nomatch c3) (fun c3 => ?_)
      refine g_aload dX1_copyLots_33 (by rfl) (by first | exact isRf_r | exact isRf_n | exact isRf_o | assumption) ?_
      refine g_ifnull (tgt := 44) dX1_copyLots_35 (by decide) (by first | exact isRf_r | exact isRf_n | exact isRf_o | assumption) (fun c4 => nomatch c4) (fun c4 => ?_)
      refine g_aload dX1_copyLots_38 (by rfl) (by first | exact isRf_r | exact isRf_n | exact isRf_o | assumption) ?_
      refine g_aload_n dX1_copyLots_40 (by rfl) (by first | exact isRf_r | exact isRf_n | exact isRf_o | assumption) ?_
      have hcj := (hcur j hlt (Nat.le_refl j)).1
      unfold lotC at hcj
      refine g_cV1 dX1_copyLots_41 lX1_82 vX2_copyFrom (ct_X2_copyFrom X (hcur j hlt (Nat.le_refl j)) (hsrc j hlt) (hb j hlt).1 (hb j hlt).2.1 (hb j hlt).2.2 (hD2 _ _ (by omega) (by omega)).symm (hD2 _ _ (by omega) (by omega)).symm (hD2 _ _ (by omega) (by omega)).symm (hD2 _ _ (by omega) (by omega)).symm (hD2 _ _ (by omega) (by omega)).symm (hI.ne (by omega) (by omega) (by omega))) (by first | assumption | (repeat' (first | assumption | exact hu_same | exact Ne.symm (by assumption) | apply hu_n1))) rfl ⟨Nat.le_of_ble_eq_true rfl, Nat.le_of_ble_eq_true rfl⟩ (Nat.le_of_ble_eq_true rfl) ⟨Nat.le_of_ble_eq_true rfl, Nat.le_of_ble_eq_true rfl⟩ ?_
      rintro _ h2 ⟨rfl, hnew, hfr0⟩
      have hfr : ∀ q, q ≠ A (14 + 3 * j) ∧ q ≠ A (15 + 3 * j) ∧ q ≠ A (16 + 3 * j) → h2 q = h1 q := fun q q1 => hfr0 q q1.1 q1.2.1 q1.2.2
      refine g_stk (st' := []) rfl ?_
      refine g_iinc (v := nI (j + 1)) (L1 := [(0, _), (1, _), (2, _), (3, _), (4, _)]) dX1_copyLots_44 (by rfl) (nI_1 j) (by decide) (by rfl) ?_
      refine g_goto (tgt := 2) dX1_copyLots_47 (by decide) ?_
      refine g_pick [0, 1, 2] rfl ?_
      refine ih hlt h2 (fun v hv => ?_) (fun v hv hv2 => ?_) (fun q hq9 => ?_)
      · rcases Nat.lt_or_ge v j with z1 | z1
        · exact (hdone v z1).kept (hfr _ (⟨hI.ne (by omega) (by omega) (by omega), hI.ne (by omega) (by omega) (by omega), hI.ne (by omega) (by omega) (by omega)⟩)) (hfr _ (⟨hI.ne (by omega) (by omega) (by omega), hI.ne (by omega) (by omega) (by omega), hI.ne (by omega) (by omega) (by omega)⟩)) (hfr _ (⟨hI.ne (by omega) (by omega) (by omega), hI.ne (by omega) (by omega) (by omega), hI.ne (by omega) (by omega) (by omega)⟩))
        · have e : v = j := by omega
          subst e
          exact hnew
      · exact (hcur v hv (by omega)).kept (hfr _ (⟨hI.ne (by omega) (by omega) (by omega), hI.ne (by omega) (by omega) (by omega), hI.ne (by omega) (by omega) (by omega)⟩)) (hfr _ (⟨hI.ne (by omega) (by omega) (by omega), hI.ne (by omega) (by omega) (by omega), hI.ne (by omega) (by omega) (by omega)⟩)) (hfr _ (⟨hI.ne (by omega) (by omega) (by omega), hI.ne (by omega) (by omega) (by omega), hI.ne (by omega) (by omega) (by omega)⟩))
      · exact (hfr q (hq9 j hlt)).trans (hF q hq9)
  exact loop2 0 (by omega) h (fun v hv => absurd hv (by omega)) (fun v hv _ => hA v hv) (fun q _ => rfl)

set_option maxHeartbeats 4000000 in
set_option maxRecDepth 100000 in
theorem ct_X1_copyOrders (X : Cx) {h : Hp} {A B : Nat → Nat} {p0 p1 p2 p3 p4 p5 b : Nat} {c0 c1 c2 c3 : Int32} {r t : Nat → Int32}  (hI : InjA A) (hD : Dj A B) (ha : h (A 0) = some (ob 1 [.ref p0, .ref p1, .ref p2, .int c0, .int c1, .int c2, .int c3, .ref p3, .ref p4, .ref p5])) (hp : h p2 = some (oR X 4 60 (oaR A))) (hq : h b = some (oR X 4 60 (oaR B))) (hA : ∀ v, v < 60 → OrdAt X h (A (74 + 2 * v)) (A (75 + 2 * v)) (od r v)) (hB : ∀ v, v < 60 → OrdAt X h (B (74 + 2 * v)) (B (75 + 2 * v)) (od t v)) (hb : ∀ o, o < 60 → bz (od t o 4)) : Ct X mX1_copyOrders 2 0 0 [.ref (A 0), .ref b] h (fun u h1 => u = none ∧ (∀ v, v < 60 → OrdAt X h1 (A (74 + 2 * v)) (A (75 + 2 * v)) (od t v)) ∧ (∀ q, (∀ v, v < 60 → q ≠ A (74 + 2 * v) ∧ q ≠ A (75 + 2 * v)) → h1 q = h q)) := by
  have hD2 : ∀ i j, i < 194 → j < 194 → A i ≠ B j := hD
  have hA0 : ∀ v, v < 60 → A 0 ≠ A (74 + 2 * v) := fun v hv => hI.ne (by omega) (by omega) (by omega)
  have hp0 : ∀ v, v < 60 → p2 ≠ A (74 + 2 * v) ∧ p2 ≠ A (75 + 2 * v) := fun v hv => ⟨ne_ro hp ((hA v hv).1), ne_ro hp ((hA v hv).2)⟩
  have hq0 : ∀ v, v < 60 → b ≠ A (74 + 2 * v) ∧ b ≠ A (75 + 2 * v) := fun v hv => ⟨ne_ro hq ((hA v hv).1), ne_ro hq ((hA v hv).2)⟩
  refine Ct.ofG vX1_copyOrders.1.2.2.1 (Nat.le_of_ble_eq_true rfl) ?_
  show G X RX1 cX1_copyOrders 5 none "copyOrders" (Rm 2 0 0) (Fm X (fun u h1 => u = none ∧ (∀ v, v < 60 → OrdAt X h1 (A (74 + 2 * v)) (A (75 + 2 * v)) (od t v)) ∧ (∀ q, (∀ v, v < 60 → q ≠ A (74 + 2 * v) ∧ q ≠ A (75 + 2 * v)) → h1 q = h q)) 0 0) 0 0 0 [(0, .ref (A 0)), (1, .ref b)] [] h
  refine g_iconst (v := 0) dX1_copyOrders_0 (by decide) ?_
  refine g_istore_n (L1 := [(0, _), (1, _), (2, _)]) dX1_copyOrders_1 (by decide) (by rfl) ?_
  have loop2 : ∀ j, j ≤ 60 → ∀ h1, (∀ v, v < j → OrdAt X h1 (A (74 + 2 * v)) (A (75 + 2 * v)) (od t v)) → (∀ v, v < 60 → j ≤ v → OrdAt X h1 (A (74 + 2 * v)) (A (75 + 2 * v)) (od r v)) → (∀ q, (∀ v, v < 60 → q ≠ A (74 + 2 * v) ∧ q ≠ A (75 + 2 * v)) → h1 q = h q) → G X RX1 cX1_copyOrders 5 none "copyOrders" (Rm 2 0 0) (Fm X (fun u h1 => u = none ∧ (∀ v, v < 60 → OrdAt X h1 (A (74 + 2 * v)) (A (75 + 2 * v)) (od t v)) ∧ (∀ q, (∀ v, v < 60 → q ≠ A (74 + 2 * v) ∧ q ≠ A (75 + 2 * v)) → h1 q = h q)) 0 0) 0 0 2 [(0, .ref (A 0)), (1, .ref b), (2, .int (nI j))] [] h1 := by
    refine up_ind 60 (fun j hj ih => ?_)
    intro h1 hdone hcur hF
    have ha1 : h1 (A 0) = _ := (hF (A 0) (fun v hv => ⟨hI.ne (by omega) (by omega) (by omega), hI.ne (by omega) (by omega) (by omega)⟩)).trans ha
    have hp1 : h1 p2 = _ := (hF p2 hp0).trans hp
    have hq1 : h1 b = _ := (hF b hq0).trans hq
    have hsrc : ∀ v, v < 60 → OrdAt X h1 (B (74 + 2 * v)) (B (75 + 2 * v)) (od t v) := fun v hv => (hB v hv).kept (hF _ (fun w hw => ⟨(hD2 _ _ (by omega) (by omega)).symm, (hD2 _ _ (by omega) (by omega)).symm⟩)) (hF _ (fun w hw => ⟨(hD2 _ _ (by omega) (by omega)).symm, (hD2 _ _ (by omega) (by omega)).symm⟩))
    refine g_iload_n dX1_copyOrders_2 (by rfl) ?_
    refine g_aload_n dX1_copyOrders_3 (by rfl) (by first | exact isRf_r | exact isRf_n | exact isRf_o | assumption) ?_
    refine g_getf dX1_copyOrders_4 fX1_25 (by first | assumption | (repeat' (first | assumption | exact hu_same | exact Ne.symm (by assumption) | apply hu_n1))) (by rfl) ?_
    refine g_alenR dX1_copyOrders_7 (by first | assumption | (repeat' (first | assumption | exact hu_same | exact Ne.symm (by assumption) | apply hu_n1))) (by decide) ?_
    refine g_icmp_ge (tgt := 50) dX1_copyOrders_8 (by decide) (fun c1 => ?_) (fun c1 => ?_)
    · skip
      have hje : j = 60 := Nat.le_antisymm hj (c_ge (a := 60) (by omega) (by omega) c1)
      subst hje
      refine g_vret dX1_copyOrders_50 rfl (Nat.le_refl _) (Nat.le_refl _) ?_
      exact ⟨rfl, hdone, hF⟩
    · skip
      have hlt : j < 60 := c_nge (a := 60) (b := j) (by omega) (by omega) c1
      refine g_iload_n dX1_copyOrders_11 (by rfl) ?_
      refine g_aload_n dX1_copyOrders_12 (by rfl) (by first | exact isRf_r | exact isRf_n | exact isRf_o | assumption) ?_
      refine g_alenR dX1_copyOrders_13 (by first | assumption | (repeat' (first | assumption | exact hu_same | exact Ne.symm (by assumption) | apply hu_n1))) (by decide) ?_
      refine g_icmp_ge (tgt := 50) dX1_copyOrders_14 (by decide) (fun c2 => absurd (c_ge (a := 60) (by omega) (by omega) c2) (by omega)) (fun c2 => ?_)
      refine g_aload_n dX1_copyOrders_17 (by rfl) (by first | exact isRf_r | exact isRf_n | exact isRf_o | assumption) ?_
      refine g_iload_n dX1_copyOrders_18 (by rfl) ?_
      refine g_aaN dX1_copyOrders_19 (by first | assumption | (repeat' (first | assumption | exact hu_same | exact Ne.symm (by assumption) | apply hu_n1))) rfl hlt (by omega) (if_pos hlt) ?_
      refine g_astore_n (L1 := [(0, _), (1, _), (2, _), (3, _)]) dX1_copyOrders_20 (by first | exact isRf_r | exact isRf_n | exact isRf_o | assumption) (by decide) (by rfl) ?_
      refine g_aload_n dX1_copyOrders_21 (by rfl) (by first | exact isRf_r | exact isRf_n | exact isRf_o | assumption) ?_
      refine g_getf dX1_copyOrders_22 fX1_25 (by first | assumption | (repeat' (first | assumption | exact hu_same | exact Ne.symm (by assumption) | apply hu_n1))) (by rfl) ?_
      refine g_iload_n dX1_copyOrders_25 (by rfl) ?_
      refine g_aaN dX1_copyOrders_26 (by first | assumption | (repeat' (first | assumption | exact hu_same | exact Ne.symm (by assumption) | apply hu_n1))) rfl hlt (by omega) (if_pos hlt) ?_
      refine g_astore (L1 := [(0, _), (1, _), (2, _), (3, _), (4, _)]) dX1_copyOrders_27 (by first | exact isRf_r | exact isRf_n | exact isRf_o | assumption) (by decide) (by rfl) ?_
      refine g_aload_n dX1_copyOrders_29 (by rfl) (by first | exact isRf_r | exact isRf_n | exact isRf_o | assumption) ?_
      refine g_ifnull (tgt := 44) dX1_copyOrders_30 (by decide) (by first | exact isRf_r | exact isRf_n | exact isRf_o | assumption) (fun c3 => nomatch c3) (fun c3 => ?_)
      refine g_aload dX1_copyOrders_33 (by rfl) (by first | exact isRf_r | exact isRf_n | exact isRf_o | assumption) ?_
      refine g_ifnull (tgt := 44) dX1_copyOrders_35 (by decide) (by first | exact isRf_r | exact isRf_n | exact isRf_o | assumption) (fun c4 => nomatch c4) (fun c4 => ?_)
      refine g_aload dX1_copyOrders_38 (by rfl) (by first | exact isRf_r | exact isRf_n | exact isRf_o | assumption) ?_
      refine g_aload_n dX1_copyOrders_40 (by rfl) (by first | exact isRf_r | exact isRf_n | exact isRf_o | assumption) ?_
      have hcj := (hcur j hlt (Nat.le_refl j)).1
      unfold ordC at hcj
      refine g_cV1 dX1_copyOrders_41 lX1_85 vX3_copyFrom (ct_X3_copyFrom X (hcur j hlt (Nat.le_refl j)) (hsrc j hlt) (hb j hlt) (hD2 _ _ (by omega) (by omega)).symm) (by first | assumption | (repeat' (first | assumption | exact hu_same | exact Ne.symm (by assumption) | apply hu_n1))) rfl ⟨Nat.le_of_ble_eq_true rfl, Nat.le_of_ble_eq_true rfl⟩ (Nat.le_of_ble_eq_true rfl) ⟨Nat.le_of_ble_eq_true rfl, Nat.le_of_ble_eq_true rfl⟩ ?_
      rintro _ h2 ⟨rfl, hnew, hfr0⟩
      have hfr : ∀ q, q ≠ A (74 + 2 * j) ∧ q ≠ A (75 + 2 * j) → h2 q = h1 q := fun q q1 => hfr0 q q1.1 q1.2
      refine g_stk (st' := []) rfl ?_
      refine g_iinc (v := nI (j + 1)) (L1 := [(0, _), (1, _), (2, _), (3, _), (4, _)]) dX1_copyOrders_44 (by rfl) (nI_1 j) (by decide) (by rfl) ?_
      refine g_goto (tgt := 2) dX1_copyOrders_47 (by decide) ?_
      refine g_pick [0, 1, 2] rfl ?_
      refine ih hlt h2 (fun v hv => ?_) (fun v hv hv2 => ?_) (fun q hq9 => ?_)
      · rcases Nat.lt_or_ge v j with z1 | z1
        · exact (hdone v z1).kept (hfr _ (⟨hI.ne (by omega) (by omega) (by omega), hI.ne (by omega) (by omega) (by omega)⟩)) (hfr _ (⟨hI.ne (by omega) (by omega) (by omega), hI.ne (by omega) (by omega) (by omega)⟩))
        · have e : v = j := by omega
          subst e
          exact hnew
      · exact (hcur v hv (by omega)).kept (hfr _ (⟨hI.ne (by omega) (by omega) (by omega), hI.ne (by omega) (by omega) (by omega)⟩)) (hfr _ (⟨hI.ne (by omega) (by omega) (by omega), hI.ne (by omega) (by omega) (by omega)⟩))
      · exact (hfr q (hq9 j hlt)).trans (hF q hq9)
  exact loop2 0 (by omega) h (fun v hv => absurd hv (by omega)) (fun v hv _ => hA v hv) (fun q _ => rfl)
