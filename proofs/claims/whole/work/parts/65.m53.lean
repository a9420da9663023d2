/-- a heap whose row at n1 is r -/
def hr (X : Cx) (h : Hp) (n1 : Nat) (r : Nat → Int32) : Hp := hu h n1 (oI X 643 (nr 643 r))
theorem hr_n {X : Cx} {h : Hp} {n1 : Nat} {r : Nat → Int32} : hr X h n1 r n1 = some (oI X 643 (nr 643 r)) := hu_same
theorem hr_o {X : Cx} {h : Hp} {n1 q : Nat} {r : Nat → Int32} (n : q ≠ n1) : hr X h n1 r q = h q := hu_ne n
theorem hr_a {X : Cx} {h : Hp} {n1 a : Nat} {r : Nat → Int32} {e : va_E} (n : a ≠ n1) (k : h a = some e) : hr X h n1 r a = some e := (hr_o n).trans k
theorem hrr {X : Cx} {h : Hp} {n1 : Nat} {r s : Nat → Int32} : hr X (hr X h n1 r) n1 s = hr X h n1 s := hu_hu
theorem hr_id {X : Cx} {h : Hp} {n1 : Nat} {r : Nat → Int32} (k : h n1 = some (oI X 643 (nr 643 r))) : hr X h n1 r = h := hu_id k
theorem hr_e {X : Cx} {h : Hp} {n1 : Nat} {r s : Nat → Int32} (e : ∀ p, p < 643 → r p = s p) : hr X h n1 r = hr X h n1 s := by
  unfold hr
  rw [nr_ext e]
theorem MoAt.ne {X : Cx} {h : Hp} {a n1 : Nat} {r : Nat → Int32} (k : MoAt X h a n1 r) : a ≠ n1 := by
  obtain ⟨⟨n2, st, n3, n4, le, n5, at0, lt, n6, fl, n7, m0⟩, m1⟩ := k
  exact ne_oo m0 m1
theorem MoAt.hr {X : Cx} {h : Hp} {a n1 : Nat} {r s : Nat → Int32} (k : MoAt X h a n1 r) : MoAt X (hr X h n1 s) a n1 s := by
  have n := k.ne
  obtain ⟨⟨n2, st, n3, n4, le, n5, at0, lt, n6, fl, n7, m0⟩, m1⟩ := k
  exact ⟨⟨n2, st, n3, n4, le, n5, at0, lt, n6, fl, n7, hr_a n m0⟩, hr_n⟩
section
variable {X : Cx} {own : String} {b : ByteArray} {mx : Nat} {rt : Option FieldType} {nm : String} {R : Room} {Qf : List Frame → Array Value → State → State → Prop} {c n pc : Nat} {L : List (Nat × Value)} {st : List Value} {h : Hp}
/-- a number of the row is read, or written -/
theorem g_ilM {n1 : Nat} {r : Nat → Int32} (j : Nat) {i : Int32} (hd : decode b pc = .ok (.iaload, 1)) (ha : h n1 = some (oI X 643 (nr 643 r))) (hi : i = nI j) (hj : j < 643) (k : G X own b mx rt nm R Qf c n (pc + 1) L (.int (r j) :: st) h) : G X own b mx rt nm R Qf c n pc L (.int i :: .ref n1 :: st) h := by
  subst hi
  exact g_iaN hd ha hj (by omega) (nr_lt hj) k
theorem g_isM {n1 : Nat} {r : Nat → Int32} (j : Nat) {i x : Int32} (hd : decode b pc = .ok (.iastore, 1)) (ha : h n1 = some (oI X 643 (nr 643 r))) (hi : i = nI j) (hj : j < 643) (k : G X own b mx rt nm R Qf c n (pc + 1) L st (hr X h n1 (upd r j x))) : G X own b mx rt nm R Qf c n pc L (.int x :: .int i :: .ref n1 :: st) h := by
  subst hi
  refine g_isN hd ha hj (by omega) ?_
  rw [nr_up hj]
  exact k
theorem g_isH {h0 : Hp} {n1 : Nat} {r : Nat → Int32} (j : Nat) {i x : Int32} (hd : decode b pc = .ok (.iastore, 1)) (hi : i = nI j) (hj : j < 643) (k : G X own b mx rt nm R Qf c n (pc + 1) L st (hr X h0 n1 (upd r j x))) : G X own b mx rt nm R Qf c n pc L (.int x :: .int i :: .ref n1 :: st) (hr X h0 n1 r) := by
  refine g_isM j hd hr_n hi hj ?_
  rw [hrr]
  exact k
end
theorem lin3a {c m i : Nat} : Int32.ofNat c + Int32.ofNat m * nI i = nI (c + m * i) := by
  show nI c + nI m * nI i = _
  rw [nI_mul, nI_add]
theorem linA {c i : Nat} : Int32.ofNat c + nI i = nI (c + i) := nI_add c i
theorem linB {c i : Nat} : nI i + Int32.ofNat c = nI (i + c) := nI_add i c
/-! ## the whole model -/
/-- the model at M: its row r, the row s that is laid aside, its states, its text -/
def MdS (X : Cx) (h : Hp) (M : Nat → Nat) (r s : Nat → Int32) (n : Nat) (rows : Nat → Nat → Int32) (tn : Nat) (tg : Nat → Int32) : Prop := (∀ i j, i < 8 → j < 8 → M i = M j → i = j) ∧ (∃ at0 lt fl, h (M 0) = some (ob 10 (mdl (M 1) (M 2) (nI n) (M 3) (M 4) (nI tn) (M 5) at0 lt (M 6) fl (M 7)))) ∧ h (M 1) = some (oI X 643 (nr 643 r)) ∧ (∃ g, h (M 2) = some (oI X 2572 g) ∧ Kept g n rows) ∧ h (M 3) = some (oI X 643 (nr 643 s)) ∧ h (M 4) = some (oI X 60 (nr 60 tg)) ∧ (∃ w, h (M 5) = some (oI X 4 (nr 4 w))) ∧ (∃ w, h (M 6) = some (oI X 2 (nr 2 w))) ∧ ∃ w, h (M 7) = some (oI X 3 (nr 3 w))
def MdAt (X : Cx) (h : Hp) (M : Nat → Nat) (r : Nat → Int32) (n : Nat) (rows : Nat → Nat → Int32) (tn : Nat) (tg : Nat → Int32) : Prop := ∃ s, MdS X h M r s n rows tn tg
def outM (M : Nat → Nat) (q : Nat) : Prop := ∀ i, i < 8 → q ≠ M i
def MdTo (X : Cx) (h h1 : Hp) (M : Nat → Nat) (r : Nat → Int32) (n : Nat) (rows : Nat → Nat → Int32) (tn : Nat) (tg : Nat → Int32) : Prop := MdAt X h1 M r n rows tn tg ∧ ∀ q, outM M q → h1 q = h q
theorem MdS.mo {X : Cx} {h : Hp} {M : Nat → Nat} {r s : Nat → Int32} {n tn : Nat} {rows : Nat → Nat → Int32} {tg : Nat → Int32} (k : MdS X h M r s n rows tn tg) : MoAt X h (M 0) (M 1) r := by
  obtain ⟨kd, ⟨at0, lt, fl, k0⟩, k1, -⟩ := k
  exact ⟨⟨_, _, _, _, _, _, _, _, _, _, _, k0⟩, k1⟩
theorem MdS.row {X : Cx} {h : Hp} {M : Nat → Nat} {r r2 s : Nat → Int32} {n tn : Nat} {rows : Nat → Nat → Int32} {tg : Nat → Int32} (k : MdS X h M r s n rows tn tg) : MdS X (hr X h (M 1) r2) M r2 s n rows tn tg := by
  obtain ⟨kd, ⟨at0, lt, fl, k0⟩, k1, ⟨g, k2, k2b⟩, k3, k4, ⟨w5, k5⟩, ⟨w6, k6⟩, w7, k7⟩ := k
  have ne : ∀ i, i < 8 → i ≠ 1 → M i ≠ M 1 := fun i hi n e => n (kd i 1 hi (by omega) e)
  exact ⟨kd, ⟨at0, lt, fl, hr_a (ne 0 (by omega) (by omega)) k0⟩, hr_n, ⟨g, hr_a (ne 2 (by omega) (by omega)) k2, k2b⟩, hr_a (ne 3 (by omega) (by omega)) k3, hr_a (ne 4 (by omega) (by omega)) k4, ⟨w5, hr_a (ne 5 (by omega) (by omega)) k5⟩, ⟨w6, hr_a (ne 6 (by omega) (by omega)) k6⟩, w7, hr_a (ne 7 (by omega) (by omega)) k7⟩
theorem hr_out {X : Cx} {h : Hp} {M : Nat → Nat} {r : Nat → Int32} : ∀ q, outM M q → hr X h (M 1) r q = h q := fun q hq => hr_o (hq 1 (by omega))
/-- what a deed does: asides, the deed, done -/
theorem ct_mAsides (X : Cx) {h : Hp} {M : Nat → Nat} {r : Nat → Int32} {n tn : Nat} {rows : Nat → Nat → Int32} {tg : Nat → Int32} (k : MdAt X h M r n rows tn tg) : Ct X mX10_asides 0 0 0 [.ref (M 0)] h (Ev (hu h (M 3) (oI X 643 (nr 643 r)))) ∧ MdS X (hu h (M 3) (oI X 643 (nr 643 r))) M r r n rows tn tg ∧ ∀ q, outM M q → hu h (M 3) (oI X 643 (nr 643 r)) q = h q := by
  obtain ⟨s, kd, ⟨at0, lt, fl, k0⟩, k1, ⟨g, k2, k2b⟩, k3, k4, ⟨w5, k5⟩, ⟨w6, k6⟩, w7, k7⟩ := k
  have ne : ∀ i, i < 8 → i ≠ 3 → M i ≠ M 3 := fun i hi n e => n (kd i 3 hi (by omega) e)
  refine ⟨ct_X10_asides X k0 k1 k3 (ne 1 (by omega) (by omega)) (ne 0 (by omega) (by omega)), ?_, fun q hq => hu_ne (hq 3 (by omega))⟩
  exact ⟨kd, ⟨at0, lt, fl, hu_n1 (ne 0 (by omega) (by omega)) k0⟩, hu_n1 (ne 1 (by omega) (by omega)) k1, ⟨g, hu_n1 (ne 2 (by omega) (by omega)) k2, k2b⟩, hu_same, hu_n1 (ne 4 (by omega) (by omega)) k4, ⟨w5, hu_n1 (ne 5 (by omega) (by omega)) k5⟩, ⟨w6, hu_n1 (ne 6 (by omega) (by omega)) k6⟩, w7, hu_n1 (ne 7 (by omega) (by omega)) k7⟩
theorem ct_mBacks (X : Cx) {h : Hp} {M : Nat → Nat} {r s : Nat → Int32} {n tn : Nat} {rows : Nat → Nat → Int32} {tg : Nat → Int32} (k : MdS X h M r s n rows tn tg) : Ct X mX10_backs 0 0 0 [.ref (M 0)] h (Ev (hr X h (M 1) s)) := by
  obtain ⟨kd, ⟨at0, lt, fl, k0⟩, k1, ⟨g, k2, k2b⟩, k3, k4, ⟨w5, k5⟩, ⟨w6, k6⟩, w7, k7⟩ := k
  exact ct_X10_backs X k0 k1 k3 (fun e => absurd (kd 1 3 (by omega) (by omega) e) (by omega)) (fun e => absurd (kd 0 1 (by omega) (by omega) e) (by omega))
theorem Ct.mono {X : Cx} {Y : Mt} {k mc ms : Nat} {av : List Value} {h : Hp} {P P2 : Option Value → Hp → Prop} (c : Ct X Y k mc ms av h P) (i : ∀ v h1, P v h1 → P2 v h1) : Ct X Y k mc ms av h P2 := by
  intro p e ha hf hc s m args below hfr hS hP hK
  obtain ⟨n, o, h1, h2, h3, ⟨⟨v, h', e1, q, hR⟩, hF⟩, hL⟩ := c p e ha hf hc s m args below hfr hS hP hK
  exact ⟨n, o, h1, h2, h3, ⟨⟨v, h', e1, i v h' q, hR⟩, hF⟩, hL⟩
theorem ct_mNotes (X : Cx) {h : Hp} {M : Nat → Nat} {r : Nat → Int32} {n tn : Nat} {rows : Nat → Nat → Int32} {tg : Nat → Int32} (hn : n ≤ 4) (k : MdAt X h M r n rows tn tg) : Ct X mX10_notes 0 0 0 [.ref (M 0)] h (fun u h1 => u = none ∧ MdTo X h h1 M r (hstN n) (hstR n r rows) tn tg) := by
  obtain ⟨s, kd, ⟨at0, lt, fl, k0⟩, k1, ⟨g, k2, k2b⟩, k3, k4, ⟨w5, k5⟩, ⟨w6, k6⟩, w7, k7⟩ := k
  have n1 : M 0 ≠ M 1 := fun e => absurd (kd 0 1 (by omega) (by omega) e) (by omega)
  have n2 : M 1 ≠ M 2 := fun e => absurd (kd 1 2 (by omega) (by omega) e) (by omega)
  have n3 : M 0 ≠ M 2 := fun e => absurd (kd 0 2 (by omega) (by omega) e) (by omega)
  have ne : ∀ i j, i < 8 → j < 8 → i ≠ j → M i ≠ M j := fun i j hi hj n e => n (kd i j hi hj e)
  rcases Nat.lt_or_ge n 4 with z | z
  · refine Ct.mono (ct_notes_lo X (st := 0) (s := r) k0 k1 k2 n1 n2 n3 z) ?_
    rintro v h1 ⟨e, w0, w2, f⟩
    have fr : ∀ i, i < 8 → i ≠ 0 → i ≠ 2 → h1 (M i) = h (M i) := fun i hi i0 i2 => f _ (ne i 0 hi (by omega) i0) (ne i 2 hi (by omega) i2)
    refine ⟨e, ⟨s, kd, ⟨at0, lt, fl, ?_⟩, (fr 1 (by omega) (by omega) (by omega)).trans k1, ⟨_, w2, Kept.lo k2b z⟩, (fr 3 (by omega) (by omega) (by omega)).trans k3, (fr 4 (by omega) (by omega) (by omega)).trans k4, ⟨w5, (fr 5 (by omega) (by omega) (by omega)).trans k5⟩, ⟨w6, (fr 6 (by omega) (by omega) (by omega)).trans k6⟩, w7, (fr 7 (by omega) (by omega) (by omega)).trans k7⟩, fun q hq => f q (hq 0 (by omega)) (hq 2 (by omega))⟩
    rw [show hstN n = n + 1 from if_pos z]
    exact w0
  · have z4 : n = 4 := by omega
    subst z4
    refine Ct.mono (ct_notes_hi X (st := 0) (s := r) k0 k1 k2 n1 n2 n3) ?_
    rintro v h1 ⟨e, w0, w2, f⟩
    have fr : ∀ i, i < 8 → i ≠ 0 → i ≠ 2 → h1 (M i) = h (M i) := fun i hi i0 i2 => f _ (ne i 0 hi (by omega) i0) (ne i 2 hi (by omega) i2)
    exact ⟨e, ⟨s, kd, ⟨at0, lt, fl, w0⟩, (fr 1 (by omega) (by omega) (by omega)).trans k1, ⟨_, w2, Kept.hi k2b⟩, (fr 3 (by omega) (by omega) (by omega)).trans k3, (fr 4 (by omega) (by omega) (by omega)).trans k4, ⟨w5, (fr 5 (by omega) (by omega) (by omega)).trans k5⟩, ⟨w6, (fr 6 (by omega) (by omega) (by omega)).trans k6⟩, w7, (fr 7 (by omega) (by omega) (by omega)).trans k7⟩, fun q hq => f q (hq 0 (by omega)) (hq 2 (by omega))⟩
theorem ct_mDone (X : Cx) {h : Hp} {M : Nat → Nat} {r s : Nat → Int32} {n tn : Nat} {rows : Nat → Nat → Int32} {tg : Nat → Int32} {x : Int32} (hn : n ≤ 4) (k : MdS X h M r s n rows tn tg) : Ct X mX10_done 1 0 0 [.ref (M 0), .int x] h (fun u h1 => u = some (.int x) ∧ MdTo X h h1 M r (sysN x n) (sysR x n s rows) tn tg) := by
  by_cases hx : x < 0
  · refine Ct.mono (ct_X10_doneN X hx) ?_
    rintro v h1 ⟨e, rfl⟩
    rw [show sysN x n = n from if_pos hx, show sysR x n s rows = rows from if_pos hx]
    exact ⟨e, ⟨s, k⟩, fun q _ => rfl⟩
  · rw [show sysN x n = hstN n from if_neg hx, show sysR x n s rows = hstR n s rows from if_neg hx]
    obtain ⟨kd, ⟨at0, lt, fl, k0⟩, k1, ⟨g, k2, k2b⟩, k3, k4, ⟨w5, k5⟩, ⟨w6, k6⟩, w7, k7⟩ := k
    have ne : ∀ i j, i < 8 → j < 8 → i ≠ j → M i ≠ M j := fun i j hi hj n e => n (kd i j hi hj e)
    have n1 : M 0 ≠ M 1 := ne 0 1 (by omega) (by omega) (by omega)
    have n2 : M 1 ≠ M 2 := ne 1 2 (by omega) (by omega) (by omega)
    have n3 : M 0 ≠ M 2 := ne 0 2 (by omega) (by omega) (by omega)
    have n4 : M 0 ≠ M 3 := ne 0 3 (by omega) (by omega) (by omega)
    have n5 : M 1 ≠ M 3 := ne 1 3 (by omega) (by omega) (by omega)
    have n6 : M 2 ≠ M 3 := ne 2 3 (by omega) (by omega) (by omega)
    have lst : ∀ h1 : Hp, (∀ q, q ≠ M 0 → q ≠ M 1 → q ≠ M 2 → q ≠ M 3 → h1 q = h q) → ∀ i, i < 8 → 3 < i → h1 (M i) = h (M i) := fun h1 f i hi i3 => f _ (ne i 0 hi (by omega) (by omega)) (ne i 1 hi (by omega) (by omega)) (ne i 2 hi (by omega) (by omega)) (ne i 3 hi (by omega) (by omega))
    rcases Nat.lt_or_ge n 4 with z | z
    · refine Ct.mono (ct_done_lo X (st := 0) k0 k1 k2 n1 n2 n3 k3 n4 n5 n6 hx z) ?_
      rintro v h1 ⟨e, w0, w2, w1, w3, f⟩
      have fr := lst h1 f
      refine ⟨e, ⟨r, kd, ⟨at0, lt, fl, ?_⟩, w1, ⟨_, w2, Kept.lo k2b z⟩, w3, (fr 4 (by omega) (by omega)).trans k4, ⟨w5, (fr 5 (by omega) (by omega)).trans k5⟩, ⟨w6, (fr 6 (by omega) (by omega)).trans k6⟩, w7, (fr 7 (by omega) (by omega)).trans k7⟩, fun q hq => f q (hq 0 (by omega)) (hq 1 (by omega)) (hq 2 (by omega)) (hq 3 (by omega))⟩
      rw [show hstN n = n + 1 from if_pos z]
      exact w0
    · have z4 : n = 4 := by omega
      subst z4
      refine Ct.mono (ct_done_hi X (st := 0) k0 k1 k2 n1 n2 n3 k3 n4 n5 n6 hx) ?_
      rintro v h1 ⟨e, w0, w2, w1, w3, f⟩
      have fr := lst h1 f
      exact ⟨e, ⟨r, kd, ⟨at0, lt, fl, w0⟩, w1, ⟨_, w2, Kept.hi k2b⟩, w3, (fr 4 (by omega) (by omega)).trans k4, ⟨w5, (fr 5 (by omega) (by omega)).trans k5⟩, ⟨w6, (fr 6 (by omega) (by omega)).trans k6⟩, w7, (fr 7 (by omega) (by omega)).trans k7⟩, fun q hq => f q (hq 0 (by omega)) (hq 1 (by omega)) (hq 2 (by omega)) (hq 3 (by omega))⟩
