set_option maxHeartbeats 4000000 in
set_option maxRecDepth 100000 in
theorem ct_X5_hasFault (X : Cx) {h : Hp} {a : Nat} {wd fp fr fc pl kd fi se : Int32}  (hs : h a = some (ob 5 (scrL wd fp fr fc pl kd fi se))) : Ct X mX5_hasFault 0 0 0 [.ref a] h (Ex (.int (bI (decide (¬ fr = 0)))) h) := by
  unfold scrL at hs
  refine Ct.ofG vX5_hasFault.1.2.2.1 (Nat.le_of_ble_eq_true rfl) ?_
  show G X RX5 cX5_hasFault 1 (some .boolean) "hasFault" (Rm 0 0 0) (Fm X (Ex (.int (bI (decide (¬ fr = 0)))) h) 0 0) 0 0 0 [(0, .ref a)] [] h
  refine g_aload_n dX5_hasFault_0 (by rfl) (by first | exact isRf_r | exact isRf_n | exact isRf_o | assumption) ?_
  refine g_getf dX5_hasFault_1 fX5_7 (by first | assumption | (repeat' (first | assumption | exact hu_same | exact Ne.symm (by assumption) | apply hu_n1))) (by rfl) ?_
  refine g_if_eq (tgt := 11) dX5_hasFault_4 (by decide) (fun c1 => ?_) (fun c1 => ?_)
  · skip
    refine g_iconst (v := 0) dX5_hasFault_11 (by decide) ?_
    refine g_zret dX5_hasFault_12 rfl (by decide) (Nat.le_refl _) (Nat.le_refl _) ?_
    exact Ex.i (by first | exact bI_t c1 | exact bI_f (fun z => z c1)) rfl
  · skip
    refine g_iconst (v := 1) dX5_hasFault_7 (by decide) ?_
    refine g_goto (tgt := 12) dX5_hasFault_8 (by decide) ?_
    refine g_zret dX5_hasFault_12 rfl (by decide) (Nat.le_refl _) (Nat.le_refl _) ?_
    exact Ex.i (by first | exact bI_t c1 | exact bI_f (fun z => z c1)) rfl

set_option maxHeartbeats 4000000 in
set_option maxRecDepth 100000 in
theorem ct_X5_noteFault (X : Cx) {h : Hp} {a : Nat} {wd fp fr fc pl kd fi se x y z : Int32}  (hs : h a = some (ob 5 (scrL wd fp fr fc pl kd fi se))) : Ct X mX5_noteFault 0 0 0 [.ref a, .int x, .int y, .int z] h (Ev (hu h a (ob 5 (scrL wd x y z pl kd fi se)))) := by
  unfold scrL at hs
  refine Ct.ofG vX5_noteFault.1.2.2.1 (Nat.le_of_ble_eq_true rfl) ?_
  show G X RX5 cX5_noteFault 4 none "noteFault" (Rm 0 0 0) (Fm X (Ev (hu h a (ob 5 (scrL wd x y z pl kd fi se)))) 0 0) 0 0 0 [(0, .ref a), (1, .int x), (2, .int y), (3, .int z)] [] h
  refine g_aload_n dX5_noteFault_0 (by rfl) (by first | exact isRf_r | exact isRf_n | exact isRf_o | assumption) ?_
  refine g_iload_n dX5_noteFault_1 (by rfl) ?_
  refine g_putf (ty := .int) dX5_noteFault_2 fX5_48 (by decide +kernel) (by rfl) (by rfl) (by first | assumption | (repeat' (first | assumption | exact hu_same | exact Ne.symm (by assumption) | apply hu_n1))) (by exact Nat.le_of_ble_eq_true rfl) ?_
  refine g_aload_n dX5_noteFault_5 (by rfl) (by first | exact isRf_r | exact isRf_n | exact isRf_o | assumption) ?_
  refine g_iload_n dX5_noteFault_6 (by rfl) ?_
  refine g_putf (ty := .int) dX5_noteFault_7 fX5_7 (by decide +kernel) (by rfl) (by rfl) (by first | assumption | (repeat' (first | assumption | exact hu_same | exact Ne.symm (by assumption) | apply hu_n1))) (by exact Nat.le_of_ble_eq_true rfl) ?_
  refine g_aload_n dX5_noteFault_10 (by rfl) (by first | exact isRf_r | exact isRf_n | exact isRf_o | assumption) ?_
  refine g_iload_n dX5_noteFault_11 (by rfl) ?_
  refine g_putf (ty := .int) dX5_noteFault_12 fX5_51 (by decide +kernel) (by rfl) (by rfl) (by first | assumption | (repeat' (first | assumption | exact hu_same | exact Ne.symm (by assumption) | apply hu_n1))) (by exact Nat.le_of_ble_eq_true rfl) ?_
  refine g_vret dX5_noteFault_15 rfl (Nat.le_refl _) (Nat.le_refl _) ?_
  exact ⟨rfl, by rw [hu_hu, hu_hu]; rfl⟩

/-- the orders of work from p on, one behind the other: the fault, the row then, how many were done -/
noncomputable def plF (n : Nat) (g : Nat → Int32) : Nat → (Nat → Int32) → Nat → Nat → Option (Nat × Int32 × Int32) × (Nat → Int32) × Nat
  | 0, r, _, k => (none, r, k)
  | f + 1, r, p, k => cond (decide (p < n)) (match rdW n g p with
    | none => (some (p, 1, 0), r, k)
    | some (c, a, b, q) => cond (decide ((F_work (cl c) r a b).1 < 0)) (some (p, 2, (F_work (cl c) r a b).1), (F_work (cl c) r a b).2, k) (plF n g f (F_work (cl c) r a b).2 q (k + 1))) (none, r, k)
theorem plF_end {n f : Nat} {g : Nat → Int32} {r : Nat → Int32} {p k : Nat} (h : ¬ p < n) : plF n g f r p k = (none, r, k) := by
  cases f with
  | zero => rfl
  | succ f =>
    rw [plF, decide_eq_false h]
    rfl
theorem plF_bad {n f : Nat} {g : Nat → Int32} {r : Nat → Int32} {p k : Nat} (h : p < n) (e : rdW n g p = none) : plF n g (f + 1) r p k = (some (p, 1, 0), r, k) := by
  rw [plF, decide_eq_true h, e]
  rfl
theorem plF_no {n f : Nat} {g : Nat → Int32} {r : Nat → Int32} {p k q : Nat} {c a b : Int32} (h : p < n) (e : rdW n g p = some (c, a, b, q)) (z : (F_work (cl c) r a b).1 < 0) : plF n g (f + 1) r p k = (some (p, 2, (F_work (cl c) r a b).1), (F_work (cl c) r a b).2, k) := by
  rw [plF, decide_eq_true h, e]
  show cond (decide ((F_work (cl c) r a b).1 < 0)) _ _ = _
  rw [decide_eq_true z]
  rfl
theorem plF_go {n f : Nat} {g : Nat → Int32} {r : Nat → Int32} {p k q : Nat} {c a b : Int32} (h : p < n) (e : rdW n g p = some (c, a, b, q)) (z : ¬ (F_work (cl c) r a b).1 < 0) : plF n g (f + 1) r p k = plF n g f (F_work (cl c) r a b).2 q (k + 1) := by
  rw [plF, decide_eq_true h, e]
  show cond (decide ((F_work (cl c) r a b).1 < 0)) _ _ = _
  rw [decide_eq_false z]
  rfl
def kcs (kc : Nat) : Prop := kc = 100 ∨ kc = 101 ∨ kc = 104 ∨ kc = 114 ∨ kc = 115 ∨ kc = 116
theorem rdW_c {n p q : Nat} {g : Nat → Int32} {c a b : Int32} (e : rdW n g p = some (c, a, b, q)) : (∃ kc, kcs kc ∧ c = nI kc) ∧ q ≤ p + 8 ∧ p < q := by
  have r1 := rdN_2 (n := n) (p := p + 1) (g := g)
  have r2 := rdN_2 (n := n) (p := (rdN n g (p + 1)).2 + 1) (g := g)
  unfold rdW at e
  cases h2 : twoB (sg n g p) with
  | true =>
    rw [h2] at e
    cases h3 : (decide (0 ≤ (rdN n g (p + 1)).1) && decide (sg n g (rdN n g (p + 1)).2 = 44)) with
    | false => rw [h3] at e; cases e
    | true =>
      rw [h3] at e
      cases h4 : (decide (0 ≤ (rdN n g ((rdN n g (p + 1)).2 + 1)).1) && decide (sg n g (rdN n g ((rdN n g (p + 1)).2 + 1)).2 = 59)) with
      | false => rw [h4] at e; cases e
      | true =>
        rw [h4] at e
        cases e
        refine ⟨?_, by omega, by omega⟩
        simp only [twoB, Bool.or_eq_true, decide_eq_true_eq] at h2
        rcases h2 with z | z | z
        · exact ⟨100, Or.inl rfl, z⟩
        · exact ⟨104, Or.inr (Or.inr (Or.inl rfl)), z⟩
        · exact ⟨115, Or.inr (Or.inr (Or.inr (Or.inr (Or.inl rfl)))), z⟩
  | false =>
    rw [h2] at e
    cases h5 : oneB (sg n g p) with
    | false => rw [h5] at e; cases e
    | true =>
      rw [h5] at e
      cases h3 : (decide (0 ≤ (rdN n g (p + 1)).1) && decide (sg n g (rdN n g (p + 1)).2 = 59)) with
      | false => rw [h3] at e; cases e
      | true =>
        rw [h3] at e
        cases e
        refine ⟨?_, by omega, by omega⟩
        simp only [oneB, Bool.or_eq_true, decide_eq_true_eq] at h5
        rcases h5 with z | z | z
        · exact ⟨114, Or.inr (Or.inr (Or.inr (Or.inl rfl))), z⟩
        · exact ⟨116, Or.inr (Or.inr (Or.inr (Or.inr (Or.inr rfl)))), z⟩
        · exact ⟨101, Or.inr (Or.inl rfl), z⟩
def fltR (o : Option (Nat × Int32 × Int32)) : Int32 := match o with
  | none => 0
  | some (_, y, _) => y

set_option maxHeartbeats 4000000 in
set_option maxRecDepth 100000 in
theorem ct_X5_doAll (X : Cx) {h : Hp} {A : Nat → Nat} {a b sb n : Nat} {g r : Nat → Int32} {wd fp fr fc pl kd fi se : Int32}  (hI : InjA A) (hO : Ok r) (hA : HouseAt X h A r) (hk : TOk n g) (ht : TxtAt X h b sb n g) (hb : outA A b) (hsb : outA A sb) (ha : outA A a) (hs : h a = some (ob 5 (scrL wd fp fr fc pl kd fi se))) : Ct X mX5_doAll 5 0 0 [.ref a, .ref b, .ref (A 0)] h (fun u h1 => u = none ∧ (∃ fp2 fc2 pl2 kd2 fi2 se2, h1 a = some (ob 5 (scrL (nI (plF n g 60 r 0 0).2.2) fp2 (fltR (plF n g 60 r 0 0).1) fc2 pl2 kd2 fi2 se2)) ∧ ∀ q y z, (plF n g 60 r 0 0).1 = some (q, y, z) → fp2 = nI q ∧ fc2 = z) ∧ HouseAt X h1 A (plF n g 60 r 0 0).2.1 ∧ ∀ q, outA A q → q ≠ a → h1 q = h q) := by
  unfold scrL at hs
  have hb0 := ht.1
  have nb := ne_ob hb0 hs (by decide)
  have nsb : sb ≠ a := Ne.symm (ne_bc hs ht.2)
  have hn := hk.1
  refine Ct.ofG vX5_doAll.1.2.2.1 (Nat.le_of_ble_eq_true rfl) ?_
  show G X RX5 cX5_doAll 6 none "doAll" (Rm 5 0 0) (Fm X (fun u h1 => u = none ∧ (∃ fp2 fc2 pl2 kd2 fi2 se2, h1 a = some (ob 5 (scrL (nI (plF n g 60 r 0 0).2.2) fp2 (fltR (plF n g 60 r 0 0).1) fc2 pl2 kd2 fi2 se2)) ∧ ∀ q y z, (plF n g 60 r 0 0).1 = some (q, y, z) → fp2 = nI q ∧ fc2 = z) ∧ HouseAt X h1 A (plF n g 60 r 0 0).2.1 ∧ ∀ q, outA A q → q ≠ a → h1 q = h q) 0 0) 0 0 0 [(0, .ref a), (1, .ref b), (2, .ref (A 0))] [] h
  refine g_aload_n dX5_doAll_0 (by rfl) (by first | exact isRf_r | exact isRf_n | exact isRf_o | assumption) ?_
  refine g_iconst (v := 0) dX5_doAll_1 (by decide) ?_
  refine g_putf (ty := .int) dX5_doAll_2 fX5_13 (by decide +kernel) (by rfl) (by rfl) (by first | assumption | (repeat' (first | assumption | exact hu_same | exact Ne.symm (by assumption) | apply hu_n1))) (by exact Nat.le_of_ble_eq_true rfl) ?_
  refine g_aload_n dX5_doAll_5 (by rfl) (by first | exact isRf_r | exact isRf_n | exact isRf_o | assumption) ?_
  refine g_iconst (v := 0) dX5_doAll_6 (by decide) ?_
  refine g_putf (ty := .int) dX5_doAll_7 fX5_7 (by decide +kernel) (by rfl) (by rfl) (by first | assumption | (repeat' (first | assumption | exact hu_same | exact Ne.symm (by assumption) | apply hu_n1))) (by exact Nat.le_of_ble_eq_true rfl) ?_
  refine g_aload_n dX5_doAll_10 (by rfl) (by first | exact isRf_r | exact isRf_n | exact isRf_o | assumption) ?_
  refine g_iconst (v := 0) dX5_doAll_11 (by decide) ?_
  refine g_putf (ty := .int) dX5_doAll_12 fX5_16 (by decide +kernel) (by rfl) (by rfl) (by first | assumption | (repeat' (first | assumption | exact hu_same | exact Ne.symm (by assumption) | apply hu_n1))) (by exact Nat.le_of_ble_eq_true rfl) ?_
  refine g_iconst (v := 0) dX5_doAll_15 (by decide) ?_
  refine g_istore_n (L1 := [(0, _), (1, _), (2, _), (3, _)]) dX5_doAll_16 (by decide) (by rfl) ?_
  have loop17 : ∀ i, i ≤ 60 → ∀ h1 r1 p k kd1 fi1 se1 fp1 fc1, plF n g (60 - i) r1 p k = plF n g 60 r 0 0 → p ≤ 70 → Ok r1 → HouseAt X h1 A r1 → h1 a = some (ob 5 (scrL (nI k) fp1 0 fc1 (nI p) kd1 fi1 se1)) → (∀ q, outA A q → q ≠ a → h1 q = h q) → G X RX5 cX5_doAll 6 none "doAll" (Rm 5 0 0) (Fm X (fun u h1 => u = none ∧ (∃ fp2 fc2 pl2 kd2 fi2 se2, h1 a = some (ob 5 (scrL (nI (plF n g 60 r 0 0).2.2) fp2 (fltR (plF n g 60 r 0 0).1) fc2 pl2 kd2 fi2 se2)) ∧ ∀ q y z, (plF n g 60 r 0 0).1 = some (q, y, z) → fp2 = nI q ∧ fc2 = z) ∧ HouseAt X h1 A (plF n g 60 r 0 0).2.1 ∧ ∀ q, outA A q → q ≠ a → h1 q = h q) 0 0) 0 0 17 [(0, .ref a), (1, .ref b), (2, .ref (A 0)), (3, .int (nI i))] [] h1 := by
    refine up_ind 60 (fun i hi ih => ?_)
    intro h1 r1 p k kd1 fi1 se1 fp1 fc1 ePl hp kO kH ks kf
    have ks0 := ks
    unfold scrL at ks0
    have tx : TxtAt X h1 b sb n g := ⟨(kf b hb nb).trans ht.1, (kf sb hsb nsb).trans ht.2⟩
    have tx0 := tx.1
    refine g_iload_n dX5_doAll_17 (by rfl) ?_
    refine g_bipush (v := 60) dX5_doAll_18 (by decide) ?_
    refine g_icmp_ge (tgt := 106) dX5_doAll_20 (by decide) (fun c1 => ?_) (fun c1 => ?_)
    · skip
      have hie : i = 60 := Nat.le_antisymm hi (c_ge (a := 60) (by omega) (by omega) c1)
      refine g_vret dX5_doAll_106 rfl (Nat.le_refl _) (Nat.le_refl _) ?_
      have ez : plF n g 60 r 0 0 = (none, r1, k) := by
        rw [← ePl]
        first
          | exact plF_end hpn
          | (rw [hie]; rfl)
      rw [ez]
      exact ⟨rfl, ⟨_, _, _, _, _, _, ks, fun q y z e => nomatch e⟩, kH, kf⟩
    · skip
      have hlt : i < 60 := c_nge (a := 60) (b := i) (by omega) (by omega) c1
      refine g_aload_n dX5_doAll_23 (by rfl) (by first | exact isRf_r | exact isRf_n | exact isRf_o | assumption) ?_
      refine g_getf dX5_doAll_24 fX5_16 (by first | assumption | (repeat' (first | assumption | exact hu_same | exact Ne.symm (by assumption) | apply hu_n1))) (by rfl) ?_
      refine g_aload_n dX5_doAll_27 (by rfl) (by first | exact isRf_r | exact isRf_n | exact isRf_o | assumption) ?_
      refine g_getf dX5_doAll_28 fX5_21 (by first | assumption | (repeat' (first | assumption | exact hu_same | exact Ne.symm (by assumption) | apply hu_n1))) (by rfl) ?_
      refine g_icmp_ge (tgt := 106) dX5_doAll_31 (by decide) (fun c2 => ?_) (fun c2 => ?_)
      · skip
        have hpn : ¬ p < n := Nat.not_lt.mpr (c_ge (by omega) (by omega) c2)
        refine g_vret dX5_doAll_106 rfl (Nat.le_refl _) (Nat.le_refl _) ?_
        have ez : plF n g 60 r 0 0 = (none, r1, k) := by
          rw [← ePl]
          first
            | exact plF_end hpn
            | (rw [hie]; rfl)
        rw [ez]
        exact ⟨rfl, ⟨_, _, _, _, _, _, ks, fun q y z e => nomatch e⟩, kH, kf⟩
      · skip
        have hpn : p < n := c_nge (by omega) (by omega) c2
        refine g_aload_n dX5_doAll_34 (by rfl) (by first | exact isRf_r | exact isRf_n | exact isRf_o | assumption) ?_
        refine g_getf dX5_doAll_35 fX5_16 (by first | assumption | (repeat' (first | assumption | exact hu_same | exact Ne.symm (by assumption) | apply hu_n1))) (by rfl) ?_
        refine g_istore (L1 := [(0, _), (1, _), (2, _), (3, _), (4, _)]) dX5_doAll_38 (by decide) (by rfl) ?_
        refine g_aload_n dX5_doAll_40 (by rfl) (by first | exact isRf_r | exact isRf_n | exact isRf_o | assumption) ?_
        refine g_aload_n dX5_doAll_41 (by rfl) (by first | exact isRf_r | exact isRf_n | exact isRf_o | assumption) ?_
        refine g_cV1 dX5_doAll_42 lX5_24 vX5_readWork (ct_X5_readWork X hk (by omega) tx ks) (by first | assumption | (repeat' (first | assumption | exact hu_same | exact Ne.symm (by assumption) | apply hu_n1))) rfl ⟨Nat.le_of_ble_eq_true rfl, Nat.le_of_ble_eq_true rfl⟩ (Nat.le_of_ble_eq_true rfl) ⟨Nat.le_of_ble_eq_true rfl, Nat.le_of_ble_eq_true rfl⟩ ?_
        rintro _ h2 ⟨rfl, pl3, kd3, fi3, se3, k2, hrd, kfr⟩
        refine g_stk (st' := [.int (bI (rdW n g p).isSome)]) rfl ?_
        have k20 := k2
        unfold scrL at k20
        have kf2 : ∀ q, q ≠ a → outA A q → h2 q = h q := fun q q1 q2 => (kfr q q1).trans (kf q q2 q1)
        have kH2 : HouseAt X h2 A r1 := kH.kept (fun q hq => kfr _ (Ne.symm (ha q hq)))
        refine g_if_ne (tgt := 57) dX5_doAll_45 (by decide) (fun c3 => ?_) (fun c3 => ?_)
        · skip
          have cso := c3
          obtain ⟨⟨c0, a0, b0, q⟩, eR⟩ := Option.isSome_iff_exists.mp (bI_1 cso)
          obtain ⟨ek, ef, es, ep⟩ := hrd _ _ _ _ eR
          obtain ⟨⟨kc, hkc, ec⟩, hq1, hq2⟩ := rdW_c eR
          subst ef
          subst es
          rw [ek, ec] at k2 k20
          have hkl : kc < 127 := by unfold kcs at hkc; omega
          have ecl : F_work (cl c0) r1 fi3 se3 = F_work kc r1 fi3 se3 := by rw [ec, cl_nI (by omega)]
          refine g_aload_n dX5_doAll_57 (by rfl) (by first | exact isRf_r | exact isRf_n | exact isRf_o | assumption) ?_
          refine g_aload_n dX5_doAll_58 (by rfl) (by first | exact isRf_r | exact isRf_n | exact isRf_o | assumption) ?_
          refine g_getf dX5_doAll_59 fX5_32 (by first | assumption | (repeat' (first | assumption | exact hu_same | exact Ne.symm (by assumption) | apply hu_n1))) (by rfl) ?_
          refine g_aload_n dX5_doAll_62 (by rfl) (by first | exact isRf_r | exact isRf_n | exact isRf_o | assumption) ?_
          refine g_getf dX5_doAll_63 fX5_36 (by first | assumption | (repeat' (first | assumption | exact hu_same | exact Ne.symm (by assumption) | apply hu_n1))) (by rfl) ?_
          refine g_aload_n dX5_doAll_66 (by rfl) (by first | exact isRf_r | exact isRf_n | exact isRf_o | assumption) ?_
          refine g_getf dX5_doAll_67 fX5_39 (by first | assumption | (repeat' (first | assumption | exact hu_same | exact Ne.symm (by assumption) | apply hu_n1))) (by rfl) ?_
          have k2A := kH2.1
          refine g_cV3 dX5_doAll_70 lX5_42 vX1_doWork (ct_X1_doWork X hkc hI kO kH2) (by first | assumption | (repeat' (first | assumption | exact hu_same | exact Ne.symm (by assumption) | apply hu_n1))) rfl ⟨Nat.le_of_ble_eq_true rfl, Nat.le_of_ble_eq_true rfl⟩ (Nat.le_of_ble_eq_true rfl) ⟨Nat.le_of_ble_eq_true rfl, Nat.le_of_ble_eq_true rfl⟩ ?_
          rintro _ h3 ⟨rfl, kH3, kf3⟩
          refine g_stk (st' := [.int (F_work kc r1 fi3 se3).1]) rfl ?_
          have k3 : h3 a = some (ob 5 (scrL (nI k) fp1 0 fc1 pl3 (nI kc) fi3 se3)) := (kf3 a ha).trans k2
          have k30 := k3
          unfold scrL at k30
          refine g_istore (L1 := [(0, _), (1, _), (2, _), (3, _), (4, _), (5, _)]) dX5_doAll_73 (by decide) (by rfl) ?_
          refine g_iload dX5_doAll_75 (by rfl) ?_
          refine g_if_ge (tgt := 90) dX5_doAll_77 (by decide) (fun c4 => ?_) (fun c4 => ?_)
          · skip
            have hge : ¬ (F_work kc r1 fi3 se3).1 < 0 := fun z => i_nle z c4
            refine g_aload_n dX5_doAll_90 (by rfl) (by first | exact isRf_r | exact isRf_n | exact isRf_o | assumption) ?_
            refine g_dup dX5_doAll_91 (by rfl) ?_
            refine g_getf dX5_doAll_92 fX5_13 (by first | assumption | (repeat' (first | assumption | exact hu_same | exact Ne.symm (by assumption) | apply hu_n1))) (by rfl) ?_
            refine g_iconst (v := 1) dX5_doAll_95 (by decide) ?_
            refine g_iadd dX5_doAll_96 ?_
            refine g_putf (ty := .int) dX5_doAll_97 fX5_13 (by decide +kernel) (by rfl) (by rfl) (by first | assumption | (repeat' (first | assumption | exact hu_same | exact Ne.symm (by assumption) | apply hu_n1))) (by exact Nat.le_of_ble_eq_true rfl) ?_
            refine g_iinc (v := nI (i + 1)) (L1 := [(0, _), (1, _), (2, _), (3, _), (4, _), (5, _)]) dX5_doAll_100 (by rfl) (nI_1 i) (by decide) (by rfl) ?_
            refine g_goto (tgt := 17) dX5_doAll_103 (by decide) ?_
            refine g_pick [0, 1, 2, 3] rfl ?_
            refine ih hlt _ (F_work kc r1 fi3 se3).2 q (k + 1) (nI kc) fi3 se3 fp1 fc1 ?_ (by omega) (Ok_work (kc := kc) (a := fi3) (b := se3) kO) ?_ ?_ ?_
            · rw [← ePl, show 60 - i = (60 - (i + 1)) + 1 by omega, plF_go hpn eR (by rw [ecl]; exact hge), ecl]
            · exact kH3.kept (fun q hq => hu_ne (Ne.symm (ha q hq)))
            · rw [nI_1, ep]
              exact hu_same
            · intro w w1 w2
              rw [hu_ne w2, kf3 w w1]
              exact kf2 w w2 w1
          · skip
            have hge : (F_work kc r1 fi3 se3).1 < 0 := i_ngt c4
            refine g_aload_n dX5_doAll_80 (by rfl) (by first | exact isRf_r | exact isRf_n | exact isRf_o | assumption) ?_
            refine g_iload dX5_doAll_81 (by rfl) ?_
            refine g_iconst (v := 2) dX5_doAll_83 (by decide) ?_
            refine g_iload dX5_doAll_84 (by rfl) ?_
            refine g_cV3v dX5_doAll_86 lX5_28 vX5_noteFault (ct_X5_noteFault X (by assumption)) (by first | assumption | (repeat' (first | assumption | exact hu_same | exact Ne.symm (by assumption) | apply hu_n1))) rfl ⟨Nat.le_of_ble_eq_true rfl, Nat.le_of_ble_eq_true rfl⟩ (Nat.le_of_ble_eq_true rfl) ⟨Nat.le_of_ble_eq_true rfl, Nat.le_of_ble_eq_true rfl⟩ ?_
            refine g_vret dX5_doAll_89 rfl (Nat.le_refl _) (Nat.le_refl _) ?_
            have ez : plF n g 60 r 0 0 = (some (p, 2, (F_work kc r1 fi3 se3).1), (F_work kc r1 fi3 se3).2, k) := by rw [← ePl, show 60 - i = (60 - (i + 1)) + 1 by omega, ← ecl]; rw [← ecl] at hge; exact plF_no hpn eR hge
            rw [ez]
            refine ⟨rfl, ⟨_, _, _, _, _, _, hu_same, fun q y z e => ?_⟩, kH3.kept (fun q hq => hu_ne (Ne.symm (ha q hq))), fun q q1 q2 => by rw [hu_ne q2, kf3 q q1]; exact kf2 q q2 q1⟩
            cases e
            exact ⟨rfl, rfl⟩
        · skip
          have eR : rdW n g p = none := Option.not_isSome_iff_eq_none.mp (by rw [bI_0 c3]; decide)
          refine g_aload_n dX5_doAll_48 (by rfl) (by first | exact isRf_r | exact isRf_n | exact isRf_o | assumption) ?_
          refine g_iload dX5_doAll_49 (by rfl) ?_
          refine g_iconst (v := 1) dX5_doAll_51 (by decide) ?_
          refine g_iconst (v := 0) dX5_doAll_52 (by decide) ?_
          refine g_cV3v dX5_doAll_53 lX5_28 vX5_noteFault (ct_X5_noteFault X (by assumption)) (by first | assumption | (repeat' (first | assumption | exact hu_same | exact Ne.symm (by assumption) | apply hu_n1))) rfl ⟨Nat.le_of_ble_eq_true rfl, Nat.le_of_ble_eq_true rfl⟩ (Nat.le_of_ble_eq_true rfl) ⟨Nat.le_of_ble_eq_true rfl, Nat.le_of_ble_eq_true rfl⟩ ?_
          refine g_vret dX5_doAll_56 rfl (Nat.le_refl _) (Nat.le_refl _) ?_
          have ez : plF n g 60 r 0 0 = (some (p, 1, 0), r1, k) := by rw [← ePl, show 60 - i = (60 - (i + 1)) + 1 by omega, plF_bad hpn eR]
          rw [ez]
          refine ⟨rfl, ⟨_, _, _, _, _, _, hu_same, fun q y z e => ?_⟩, kH2.kept (fun q hq => hu_ne (Ne.symm (ha q hq))), fun q q1 q2 => by rw [hu_ne q2]; exact kf2 q q2 q1⟩
          cases e
          exact ⟨rfl, rfl⟩
  exact loop17 0 (by omega) _ r 0 0 kd fi se fp fc rfl (by omega) hO (hA.kept (fun q hq => by rw [hu_hu, hu_hu]; exact hu_ne (Ne.symm (ha q hq)))) (by rw [hu_hu, hu_hu]; exact hu_same) (fun q q1 q2 => by rw [hu_hu, hu_hu]; exact hu_ne q2)
