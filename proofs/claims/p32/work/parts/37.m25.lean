theorem SysAt.fs {X : Cx} {h : Hp} {A B m : Nat → Nat} {C : Nat → Nat → Nat} {r : Nat → Int32} {n tn : Nat} {rows : Nat → Nat → Int32} {tg : Nat → Int32} (k : SysAt X h A B m C r n rows tn tg) : ∃ fs : Nat → List Value, ∀ j, j < 5 → h (C j 0) = some (ob 1 (fs j)) := by
  obtain ⟨k0, k1, k2, k3, k4, k5, -⟩ := k
  have q : ∀ j, ∃ l : List Value, j < 5 → h (C j 0) = some (ob 1 l) := by
    intro j
    by_cases z : j < 5
    · obtain ⟨t, ht, -⟩ := k5 j z
      exact ⟨_, fun _ => ht.1⟩
    · exact ⟨[], fun y => absurd y z⟩
  exact ⟨fun j => Classical.choose (q j), fun j hj => Classical.choose_spec (q j) hj⟩
theorem SysAt.done {X : Cx} {h h1 h2 h3 : Hp} {A B m : Nat → Nat} {C : Nat → Nat → Nat} {r r2 : Nat → Int32} {x : Int32} {n tn : Nat} {rows : Nat → Nat → Int32} {tg : Nat → Int32} (hS : SepS A B m C) (hn : n ≤ 4) (k : SysAt X h A B m C r n rows tn tg) (c1 : HouseAt X h1 (C n) r) (f1 : ∀ q, outA (C n) q → h1 q = h q) (c2 : HouseAt X h2 A r2) (f2 : ∀ q, outA A q → h2 q = h1 q) (hc : (x < 0 ∧ h3 = h2) ∨ (¬ x < 0 ∧ h3 (m 1) = some (ob 0 [.ref (m 2), .int (nI (hstN n))]) ∧ h3 (m 2) = some (oR X 5 5 (stR (hstC n C))) ∧ ∀ q, q ≠ m 1 → q ≠ m 2 → h3 q = h2 q)) : SysTo X h h3 A B m C r2 (sysN x n) (sysR x n r rows) tn tg := by
  have Y1 := SysAt.inC hS (by omega) k c1 f1
  have Y2 := SysAt.inA hS Y1 c2 f2
  have f12 : ∀ q, outS A B m C q → h2 q = h q := fun q hq => (f2 q hq.1).trans (f1 q (hq.2.2.1 n (by omega)))
  unfold sysN sysR
  rcases hc with ⟨hx, rfl⟩ | ⟨hx, e1, e2, f3⟩
  · rw [if_pos hx, if_pos hx]
    exact ⟨C, Y2, hS, fun q hq => hq, f12⟩
  · rw [if_neg hx, if_neg hx]
    have c3 : HouseAt X h2 (C n) r := c1.kept (fun i hi => f2 _ (fun j hj e => hS.2.2.2.2.1 n (by omega) j i hj hi e.symm))
    obtain ⟨C2, q1, q2, q3, q4⟩ := SysAt.keep hS hn Y2 c3 e1 e2 f3
    exact ⟨C2, q1, q2, q3, fun q hq => (q4 q hq).trans (f12 q hq)⟩

set_option maxHeartbeats 4000000 in
set_option maxRecDepth 100000 in
theorem ct_X9_vat (X : Cx) {h : Hp} {A B m : Nat → Nat} {C : Nat → Nat → Nat} {r : Nat → Int32} {n tn : Nat} {rows : Nat → Nat → Int32} {tg : Nat → Int32} {d li : Int32}  (hS : SepS A B m C) (hn : n ≤ 4) (hO : Ok r) (hY : SysAt X h A B m C r n rows tn tg) : Ct X mX9_vat 5 0 0 [.ref (m 0), .int d, .int li] h (fun u h1 => u = some (.int (F_vat r d li).1) ∧ SysTo X h h1 A B m C (F_vat r d li).2 (sysN (F_vat r d li).1 n) (sysR (F_vat r d li).1 n r rows) tn tg) := by
  obtain ⟨y0, yA, ⟨t, yB⟩, y1, y2, yC, yT, ⟨wd, fp, fr, fc, pl, kd, fi, se, yS⟩, yP, yd, ⟨path, yp⟩, ⟨xs, yl⟩, yst⟩ := id hY
  obtain ⟨s1, s2, s3, s4, s5, s6, s7, s8, s9⟩ := id hS
  have a00 := yA.1
  unfold hobC at a00
  refine Ct.ofG vX9_vat.1.2.2.1 (Nat.le_of_ble_eq_true rfl) ?_
  show G X RX9 cX9_vat 3 (some .int) "vat" (Rm 5 0 0) (Fm X (fun u h1 => u = some (.int (F_vat r d li).1) ∧ SysTo X h h1 A B m C (F_vat r d li).2 (sysN (F_vat r d li).1 n) (sysR (F_vat r d li).1 n r rows) tn tg) 0 0) 0 0 0 [(0, .ref (m 0)), (1, .int d), (2, .int li)] [] h
  refine g_aload_n dX9_vat_0 (by rfl) (by first | exact isRf_r | exact isRf_n | exact isRf_o | assumption) ?_
  refine g_getf dX9_vat_1 fX9_22 (by first | assumption | (repeat' (first | assumption | exact hu_same | exact Ne.symm (by assumption) | apply hu_n1))) (by rfl) ?_
  refine g_aload_n dX9_vat_4 (by rfl) (by first | exact isRf_r | exact isRf_n | exact isRf_o | assumption) ?_
  refine g_getf dX9_vat_5 fX9_10 (by first | assumption | (repeat' (first | assumption | exact hu_same | exact Ne.symm (by assumption) | apply hu_n1))) (by rfl) ?_
  obtain ⟨tc, kc, -⟩ := yC n (by omega)
  refine g_cV1 dX9_vat_8 lX9_47 vX0_noteState (ct_X0_noteState X hn y1 y2 (s3 n (by omega)) (fun i j hi hj e => s5 n (by omega) j i hj hi e.symm) hO.rb kc yA) (by first | assumption | (repeat' (first | assumption | exact hu_same | exact Ne.symm (by assumption) | apply hu_n1))) rfl ⟨Nat.le_of_ble_eq_true rfl, Nat.le_of_ble_eq_true rfl⟩ (Nat.le_of_ble_eq_true rfl) ⟨Nat.le_of_ble_eq_true rfl, Nat.le_of_ble_eq_true rfl⟩ ?_
  rintro _ h1 ⟨rfl, kC1, f1⟩
  refine g_stk (st' := []) rfl ?_
  have Y1 := SysAt.inC hS (by omega) hY kC1 f1
  obtain ⟨z0, zA, ⟨tz, zB⟩, z1, z2, zC, zT, -, zP, zd, -, -, zst⟩ := id Y1
  have za00 := zA.1
  unfold hobC at za00
  refine g_aload_n dX9_vat_11 (by rfl) (by first | exact isRf_r | exact isRf_n | exact isRf_o | assumption) ?_
  refine g_getf dX9_vat_12 fX9_22 (by first | assumption | (repeat' (first | assumption | exact hu_same | exact Ne.symm (by assumption) | apply hu_n1))) (by rfl) ?_
  refine g_aload_n dX9_vat_15 (by rfl) (by first | exact isRf_r | exact isRf_n | exact isRf_o | assumption) ?_
  refine g_getf dX9_vat_16 fX9_10 (by first | assumption | (repeat' (first | assumption | exact hu_same | exact Ne.symm (by assumption) | apply hu_n1))) (by rfl) ?_
  refine g_iload_n dX9_vat_19 (by rfl) ?_
  refine g_iload_n dX9_vat_20 (by rfl) ?_
  refine g_cV2 dX9_vat_21 lX9_51 vX1_addVat (ct_X1_addVat X s1 hO zA) (by first | assumption | (repeat' (first | assumption | exact hu_same | exact Ne.symm (by assumption) | apply hu_n1))) rfl ⟨Nat.le_of_ble_eq_true rfl, Nat.le_of_ble_eq_true rfl⟩ (Nat.le_of_ble_eq_true rfl) ⟨Nat.le_of_ble_eq_true rfl, Nat.le_of_ble_eq_true rfl⟩ ?_
  rintro _ h2 ⟨rfl, kA2, f2⟩
  refine g_stk (st' := [.int (F_vat r d li).1, .ref (m 1)]) rfl ?_
  have Y2 := SysAt.inA hS Y1 kA2 f2
  obtain ⟨w0, wA, -, w1, w2, -⟩ := id Y2
  obtain ⟨fs, hfs⟩ := Y2.fs
  refine g_cV1 dX9_vat_24 lX9_55 vX0_keepNoted (ct_X0_keepNoted X hn w1 w2 hfs) (by first | assumption | (repeat' (first | assumption | exact hu_same | exact Ne.symm (by assumption) | apply hu_n1))) rfl ⟨Nat.le_of_ble_eq_true rfl, Nat.le_of_ble_eq_true rfl⟩ (Nat.le_of_ble_eq_true rfl) ⟨Nat.le_of_ble_eq_true rfl, Nat.le_of_ble_eq_true rfl⟩ ?_
  rintro _ h3 ⟨rfl, hcase⟩
  refine g_stk (st' := [.int (F_vat r d li).1]) rfl ?_
  refine g_iret dX9_vat_27 rfl (Nat.le_refl _) (Nat.le_refl _) ?_
  exact ⟨rfl, SysAt.done hS hn hY kC1 f1 kA2 f2 hcase⟩

set_option maxHeartbeats 4000000 in
set_option maxRecDepth 100000 in
theorem ct_X9_weigh (X : Cx) {h : Hp} {A B m : Nat → Nat} {C : Nat → Nat → Nat} {r : Nat → Int32} {n tn : Nat} {rows : Nat → Nat → Int32} {tg : Nat → Int32} {w g : Int32}  (hS : SepS A B m C) (hn : n ≤ 4) (hO : Ok r) (hY : SysAt X h A B m C r n rows tn tg) : Ct X mX9_weigh 5 0 0 [.ref (m 0), .int w, .int g] h (fun u h1 => u = some (.int (F_weigh r w g).1) ∧ SysTo X h h1 A B m C (F_weigh r w g).2 (sysN (F_weigh r w g).1 n) (sysR (F_weigh r w g).1 n r rows) tn tg) := by
  obtain ⟨y0, yA, ⟨t, yB⟩, y1, y2, yC, yT, ⟨wd, fp, fr, fc, pl, kd, fi, se, yS⟩, yP, yd, ⟨path, yp⟩, ⟨xs, yl⟩, yst⟩ := id hY
  obtain ⟨s1, s2, s3, s4, s5, s6, s7, s8, s9⟩ := id hS
  have a00 := yA.1
  unfold hobC at a00
  refine Ct.ofG vX9_weigh.1.2.2.1 (Nat.le_of_ble_eq_true rfl) ?_
  show G X RX9 cX9_weigh 3 (some .int) "weigh" (Rm 5 0 0) (Fm X (fun u h1 => u = some (.int (F_weigh r w g).1) ∧ SysTo X h h1 A B m C (F_weigh r w g).2 (sysN (F_weigh r w g).1 n) (sysR (F_weigh r w g).1 n r rows) tn tg) 0 0) 0 0 0 [(0, .ref (m 0)), (1, .int w), (2, .int g)] [] h
  refine g_aload_n dX9_weigh_0 (by rfl) (by first | exact isRf_r | exact isRf_n | exact isRf_o | assumption) ?_
  refine g_getf dX9_weigh_1 fX9_22 (by first | assumption | (repeat' (first | assumption | exact hu_same | exact Ne.symm (by assumption) | apply hu_n1))) (by rfl) ?_
  refine g_aload_n dX9_weigh_4 (by rfl) (by first | exact isRf_r | exact isRf_n | exact isRf_o | assumption) ?_
  refine g_getf dX9_weigh_5 fX9_10 (by first | assumption | (repeat' (first | assumption | exact hu_same | exact Ne.symm (by assumption) | apply hu_n1))) (by rfl) ?_
  obtain ⟨tc, kc, -⟩ := yC n (by omega)
  refine g_cV1 dX9_weigh_8 lX9_47 vX0_noteState (ct_X0_noteState X hn y1 y2 (s3 n (by omega)) (fun i j hi hj e => s5 n (by omega) j i hj hi e.symm) hO.rb kc yA) (by first | assumption | (repeat' (first | assumption | exact hu_same | exact Ne.symm (by assumption) | apply hu_n1))) rfl ⟨Nat.le_of_ble_eq_true rfl, Nat.le_of_ble_eq_true rfl⟩ (Nat.le_of_ble_eq_true rfl) ⟨Nat.le_of_ble_eq_true rfl, Nat.le_of_ble_eq_true rfl⟩ ?_
  rintro _ h1 ⟨rfl, kC1, f1⟩
  refine g_stk (st' := []) rfl ?_
  have Y1 := SysAt.inC hS (by omega) hY kC1 f1
  obtain ⟨z0, zA, ⟨tz, zB⟩, z1, z2, zC, zT, -, zP, zd, -, -, zst⟩ := id Y1
  have za00 := zA.1
  unfold hobC at za00
  refine g_aload_n dX9_weigh_11 (by rfl) (by first | exact isRf_r | exact isRf_n | exact isRf_o | assumption) ?_
  refine g_getf dX9_weigh_12 fX9_22 (by first | assumption | (repeat' (first | assumption | exact hu_same | exact Ne.symm (by assumption) | apply hu_n1))) (by rfl) ?_
  refine g_aload_n dX9_weigh_15 (by rfl) (by first | exact isRf_r | exact isRf_n | exact isRf_o | assumption) ?_
  refine g_getf dX9_weigh_16 fX9_10 (by first | assumption | (repeat' (first | assumption | exact hu_same | exact Ne.symm (by assumption) | apply hu_n1))) (by rfl) ?_
  refine g_iload_n dX9_weigh_19 (by rfl) ?_
  refine g_iload_n dX9_weigh_20 (by rfl) ?_
  refine g_cV2 dX9_weigh_21 lX9_59 vX1_weighInto (ct_X1_weighInto X s1 hO zA) (by first | assumption | (repeat' (first | assumption | exact hu_same | exact Ne.symm (by assumption) | apply hu_n1))) rfl ⟨Nat.le_of_ble_eq_true rfl, Nat.le_of_ble_eq_true rfl⟩ (Nat.le_of_ble_eq_true rfl) ⟨Nat.le_of_ble_eq_true rfl, Nat.le_of_ble_eq_true rfl⟩ ?_
  rintro _ h2 ⟨rfl, kA2, f2⟩
  refine g_stk (st' := [.int (F_weigh r w g).1, .ref (m 1)]) rfl ?_
  have Y2 := SysAt.inA hS Y1 kA2 f2
  obtain ⟨w0, wA, -, w1, w2, -⟩ := id Y2
  obtain ⟨fs, hfs⟩ := Y2.fs
  refine g_cV1 dX9_weigh_24 lX9_55 vX0_keepNoted (ct_X0_keepNoted X hn w1 w2 hfs) (by first | assumption | (repeat' (first | assumption | exact hu_same | exact Ne.symm (by assumption) | apply hu_n1))) rfl ⟨Nat.le_of_ble_eq_true rfl, Nat.le_of_ble_eq_true rfl⟩ (Nat.le_of_ble_eq_true rfl) ⟨Nat.le_of_ble_eq_true rfl, Nat.le_of_ble_eq_true rfl⟩ ?_
  rintro _ h3 ⟨rfl, hcase⟩
  refine g_stk (st' := [.int (F_weigh r w g).1]) rfl ?_
  refine g_iret dX9_weigh_27 rfl (Nat.le_refl _) (Nat.le_refl _) ?_
  exact ⟨rfl, SysAt.done hS hn hY kC1 f1 kA2 f2 hcase⟩

set_option maxHeartbeats 4000000 in
set_option maxRecDepth 100000 in
theorem ct_X9_drain (X : Cx) {h : Hp} {A B m : Nat → Nat} {C : Nat → Nat → Nat} {r : Nat → Int32} {n tn : Nat} {rows : Nat → Nat → Int32} {tg : Nat → Int32} {w : Int32}  (hS : SepS A B m C) (hn : n ≤ 4) (hO : Ok r) (hY : SysAt X h A B m C r n rows tn tg) : Ct X mX9_drain 5 0 0 [.ref (m 0), .int w] h (fun u h1 => u = some (.int (F_drain r w).1) ∧ SysTo X h h1 A B m C (F_drain r w).2 (sysN (F_drain r w).1 n) (sysR (F_drain r w).1 n r rows) tn tg) := by
  obtain ⟨y0, yA, ⟨t, yB⟩, y1, y2, yC, yT, ⟨wd, fp, fr, fc, pl, kd, fi, se, yS⟩, yP, yd, ⟨path, yp⟩, ⟨xs, yl⟩, yst⟩ := id hY
  obtain ⟨s1, s2, s3, s4, s5, s6, s7, s8, s9⟩ := id hS
  have a00 := yA.1
  unfold hobC at a00
  refine Ct.ofG vX9_drain.1.2.2.1 (Nat.le_of_ble_eq_true rfl) ?_
  show G X RX9 cX9_drain 2 (some .int) "drain" (Rm 5 0 0) (Fm X (fun u h1 => u = some (.int (F_drain r w).1) ∧ SysTo X h h1 A B m C (F_drain r w).2 (sysN (F_drain r w).1 n) (sysR (F_drain r w).1 n r rows) tn tg) 0 0) 0 0 0 [(0, .ref (m 0)), (1, .int w)] [] h
  refine g_aload_n dX9_drain_0 (by rfl) (by first | exact isRf_r | exact isRf_n | exact isRf_o | assumption) ?_
  refine g_getf dX9_drain_1 fX9_22 (by first | assumption | (repeat' (first | assumption | exact hu_same | exact Ne.symm (by assumption) | apply hu_n1))) (by rfl) ?_
  refine g_aload_n dX9_drain_4 (by rfl) (by first | exact isRf_r | exact isRf_n | exact isRf_o | assumption) ?_
  refine g_getf dX9_drain_5 fX9_10 (by first | assumption | (repeat' (first | assumption | exact hu_same | exact Ne.symm (by assumption) | apply hu_n1))) (by rfl) ?_
  obtain ⟨tc, kc, -⟩ := yC n (by omega)
  refine g_cV1 dX9_drain_8 lX9_47 vX0_noteState (ct_X0_noteState X hn y1 y2 (s3 n (by omega)) (fun i j hi hj e => s5 n (by omega) j i hj hi e.symm) hO.rb kc yA) (by first | assumption | (repeat' (first | assumption | exact hu_same | exact Ne.symm (by assumption) | apply hu_n1))) rfl ⟨Nat.le_of_ble_eq_true rfl, Nat.le_of_ble_eq_true rfl⟩ (Nat.le_of_ble_eq_true rfl) ⟨Nat.le_of_ble_eq_true rfl, Nat.le_of_ble_eq_true rfl⟩ ?_
  rintro _ h1 ⟨rfl, kC1, f1⟩
  refine g_stk (st' := []) rfl ?_
  have Y1 := SysAt.inC hS (by omega) hY kC1 f1
  obtain ⟨z0, zA, ⟨tz, zB⟩, z1, z2, zC, zT, -, zP, zd, -, -, zst⟩ := id Y1
  have za00 := zA.1
  unfold hobC at za00
  refine g_aload_n dX9_drain_11 (by rfl) (by first | exact isRf_r | exact isRf_n | exact isRf_o | assumption) ?_
  refine g_getf dX9_drain_12 fX9_22 (by first | assumption | (repeat' (first | assumption | exact hu_same | exact Ne.symm (by assumption) | apply hu_n1))) (by rfl) ?_
  refine g_aload_n dX9_drain_15 (by rfl) (by first | exact isRf_r | exact isRf_n | exact isRf_o | assumption) ?_
  refine g_getf dX9_drain_16 fX9_10 (by first | assumption | (repeat' (first | assumption | exact hu_same | exact Ne.symm (by assumption) | apply hu_n1))) (by rfl) ?_
  refine g_iload_n dX9_drain_19 (by rfl) ?_
  refine g_cV1 dX9_drain_20 lX9_62 vX1_drainVat (ct_X1_drainVat X s1 hO zA) (by first | assumption | (repeat' (first | assumption | exact hu_same | exact Ne.symm (by assumption) | apply hu_n1))) rfl ⟨Nat.le_of_ble_eq_true rfl, Nat.le_of_ble_eq_true rfl⟩ (Nat.le_of_ble_eq_true rfl) ⟨Nat.le_of_ble_eq_true rfl, Nat.le_of_ble_eq_true rfl⟩ ?_
  rintro _ h2 ⟨rfl, kA2, f2⟩
  refine g_stk (st' := [.int (F_drain r w).1, .ref (m 1)]) rfl ?_
  have Y2 := SysAt.inA hS Y1 kA2 f2
  obtain ⟨w0, wA, -, w1, w2, -⟩ := id Y2
  obtain ⟨fs, hfs⟩ := Y2.fs
  refine g_cV1 dX9_drain_23 lX9_55 vX0_keepNoted (ct_X0_keepNoted X hn w1 w2 hfs) (by first | assumption | (repeat' (first | assumption | exact hu_same | exact Ne.symm (by assumption) | apply hu_n1))) rfl ⟨Nat.le_of_ble_eq_true rfl, Nat.le_of_ble_eq_true rfl⟩ (Nat.le_of_ble_eq_true rfl) ⟨Nat.le_of_ble_eq_true rfl, Nat.le_of_ble_eq_true rfl⟩ ?_
  rintro _ h3 ⟨rfl, hcase⟩
  refine g_stk (st' := [.int (F_drain r w).1]) rfl ?_
  refine g_iret dX9_drain_26 rfl (Nat.le_refl _) (Nat.le_refl _) ?_
  exact ⟨rfl, SysAt.done hS hn hY kC1 f1 kA2 f2 hcase⟩

set_option maxHeartbeats 4000000 in
set_option maxRecDepth 100000 in
theorem ct_X9_lot (X : Cx) {h : Hp} {A B m : Nat → Nat} {C : Nat → Nat → Nat} {r : Nat → Int32} {n tn : Nat} {rows : Nat → Nat → Int32} {tg : Nat → Int32} {c w : Int32}  (hS : SepS A B m C) (hn : n ≤ 4) (hO : Ok r) (hY : SysAt X h A B m C r n rows tn tg) : Ct X mX9_lot 5 0 0 [.ref (m 0), .int c, .int w] h (fun u h1 => u = some (.int (F_lot r c w).1) ∧ SysTo X h h1 A B m C (F_lot r c w).2 (sysN (F_lot r c w).1 n) (sysR (F_lot r c w).1 n r rows) tn tg) := by
  obtain ⟨y0, yA, ⟨t, yB⟩, y1, y2, yC, yT, ⟨wd, fp, fr, fc, pl, kd, fi, se, yS⟩, yP, yd, ⟨path, yp⟩, ⟨xs, yl⟩, yst⟩ := id hY
  obtain ⟨s1, s2, s3, s4, s5, s6, s7, s8, s9⟩ := id hS
  have a00 := yA.1
  unfold hobC at a00
  refine Ct.ofG vX9_lot.1.2.2.1 (Nat.le_of_ble_eq_true rfl) ?_
  show G X RX9 cX9_lot 3 (some .int) "lot" (Rm 5 0 0) (Fm X (fun u h1 => u = some (.int (F_lot r c w).1) ∧ SysTo X h h1 A B m C (F_lot r c w).2 (sysN (F_lot r c w).1 n) (sysR (F_lot r c w).1 n r rows) tn tg) 0 0) 0 0 0 [(0, .ref (m 0)), (1, .int c), (2, .int w)] [] h
  refine g_aload_n dX9_lot_0 (by rfl) (by first | exact isRf_r | exact isRf_n | exact isRf_o | assumption) ?_
  refine g_getf dX9_lot_1 fX9_22 (by first | assumption | (repeat' (first | assumption | exact hu_same | exact Ne.symm (by assumption) | apply hu_n1))) (by rfl) ?_
  refine g_aload_n dX9_lot_4 (by rfl) (by first | exact isRf_r | exact isRf_n | exact isRf_o | assumption) ?_
  refine g_getf dX9_lot_5 fX9_10 (by first | assumption | (repeat' (first | assumption | exact hu_same | exact Ne.symm (by assumption) | apply hu_n1))) (by rfl) ?_
  obtain ⟨tc, kc, -⟩ := yC n (by omega)
  refine g_cV1 dX9_lot_8 lX9_47 vX0_noteState (ct_X0_noteState X hn y1 y2 (s3 n (by omega)) (fun i j hi hj e => s5 n (by omega) j i hj hi e.symm) hO.rb kc yA) (by first | assumption | (repeat' (first | assumption | exact hu_same | exact Ne.symm (by assumption) | apply hu_n1))) rfl ⟨Nat.le_of_ble_eq_true rfl, Nat.le_of_ble_eq_true rfl⟩ (Nat.le_of_ble_eq_true rfl) ⟨Nat.le_of_ble_eq_true rfl, Nat.le_of_ble_eq_true rfl⟩ ?_
  rintro _ h1 ⟨rfl, kC1, f1⟩
  refine g_stk (st' := []) rfl ?_
  have Y1 := SysAt.inC hS (by omega) hY kC1 f1
  obtain ⟨z0, zA, ⟨tz, zB⟩, z1, z2, zC, zT, -, zP, zd, -, -, zst⟩ := id Y1
  have za00 := zA.1
  unfold hobC at za00
  refine g_aload_n dX9_lot_11 (by rfl) (by first | exact isRf_r | exact isRf_n | exact isRf_o | assumption) ?_
  refine g_getf dX9_lot_12 fX9_22 (by first | assumption | (repeat' (first | assumption | exact hu_same | exact Ne.symm (by assumption) | apply hu_n1))) (by rfl) ?_
  refine g_aload_n dX9_lot_15 (by rfl) (by first | exact isRf_r | exact isRf_n | exact isRf_o | assumption) ?_
  refine g_getf dX9_lot_16 fX9_10 (by first | assumption | (repeat' (first | assumption | exact hu_same | exact Ne.symm (by assumption) | apply hu_n1))) (by rfl) ?_
  refine g_iload_n dX9_lot_19 (by rfl) ?_
  refine g_iload_n dX9_lot_20 (by rfl) ?_
  refine g_cV2 dX9_lot_21 lX9_102 vX1_addLot (ct_X1_addLot X s1 hO zA) (by first | assumption | (repeat' (first | assumption | exact hu_same | exact Ne.symm (by assumption) | apply hu_n1))) rfl ⟨Nat.le_of_ble_eq_true rfl, Nat.le_of_ble_eq_true rfl⟩ (Nat.le_of_ble_eq_true rfl) ⟨Nat.le_of_ble_eq_true rfl, Nat.le_of_ble_eq_true rfl⟩ ?_
  rintro _ h2 ⟨rfl, kA2, f2⟩
  refine g_stk (st' := [.int (F_lot r c w).1, .ref (m 1)]) rfl ?_
  have Y2 := SysAt.inA hS Y1 kA2 f2
  obtain ⟨w0, wA, -, w1, w2, -⟩ := id Y2
  obtain ⟨fs, hfs⟩ := Y2.fs
  refine g_cV1 dX9_lot_24 lX9_55 vX0_keepNoted (ct_X0_keepNoted X hn w1 w2 hfs) (by first | assumption | (repeat' (first | assumption | exact hu_same | exact Ne.symm (by assumption) | apply hu_n1))) rfl ⟨Nat.le_of_ble_eq_true rfl, Nat.le_of_ble_eq_true rfl⟩ (Nat.le_of_ble_eq_true rfl) ⟨Nat.le_of_ble_eq_true rfl, Nat.le_of_ble_eq_true rfl⟩ ?_
  rintro _ h3 ⟨rfl, hcase⟩
  refine g_stk (st' := [.int (F_lot r c w).1]) rfl ?_
  refine g_iret dX9_lot_27 rfl (Nat.le_refl _) (Nat.le_refl _) ?_
  exact ⟨rfl, SysAt.done hS hn hY kC1 f1 kA2 f2 hcase⟩

set_option maxHeartbeats 4000000 in
set_option maxRecDepth 100000 in
theorem ct_X9_dip (X : Cx) {h : Hp} {A B m : Nat → Nat} {C : Nat → Nat → Nat} {r : Nat → Int32} {n tn : Nat} {rows : Nat → Nat → Int32} {tg : Nat → Int32} {w o : Int32}  (hS : SepS A B m C) (hn : n ≤ 4) (hO : Ok r) (hY : SysAt X h A B m C r n rows tn tg) : Ct X mX9_dip 5 0 0 [.ref (m 0), .int w, .int o] h (fun u h1 => u = some (.int (F_dip r w o).1) ∧ SysTo X h h1 A B m C (F_dip r w o).2 (sysN (F_dip r w o).1 n) (sysR (F_dip r w o).1 n r rows) tn tg) := by
  obtain ⟨y0, yA, ⟨t, yB⟩, y1, y2, yC, yT, ⟨wd, fp, fr, fc, pl, kd, fi, se, yS⟩, yP, yd, ⟨path, yp⟩, ⟨xs, yl⟩, yst⟩ := id hY
  obtain ⟨s1, s2, s3, s4, s5, s6, s7, s8, s9⟩ := id hS
  have a00 := yA.1
  unfold hobC at a00
  refine Ct.ofG vX9_dip.1.2.2.1 (Nat.le_of_ble_eq_true rfl) ?_
  show G X RX9 cX9_dip 3 (some .int) "dip" (Rm 5 0 0) (Fm X (fun u h1 => u = some (.int (F_dip r w o).1) ∧ SysTo X h h1 A B m C (F_dip r w o).2 (sysN (F_dip r w o).1 n) (sysR (F_dip r w o).1 n r rows) tn tg) 0 0) 0 0 0 [(0, .ref (m 0)), (1, .int w), (2, .int o)] [] h
  refine g_aload_n dX9_dip_0 (by rfl) (by first | exact isRf_r | exact isRf_n | exact isRf_o | assumption) ?_
  refine g_getf dX9_dip_1 fX9_22 (by first | assumption | (repeat' (first | assumption | exact hu_same | exact Ne.symm (by assumption) | apply hu_n1))) (by rfl) ?_
  refine g_aload_n dX9_dip_4 (by rfl) (by first | exact isRf_r | exact isRf_n | exact isRf_o | assumption) ?_
  refine g_getf dX9_dip_5 fX9_10 (by first | assumption | (repeat' (first | assumption | exact hu_same | exact Ne.symm (by assumption) | apply hu_n1))) (by rfl) ?_
  obtain ⟨tc, kc, -⟩ := yC n (by omega)
  refine g_cV1 dX9_dip_8 lX9_47 vX0_noteState (ct_X0_noteState X hn y1 y2 (s3 n (by omega)) (fun i j hi hj e => s5 n (by omega) j i hj hi e.symm) hO.rb kc yA) (by first | assumption | (repeat' (first | assumption | exact hu_same | exact Ne.symm (by assumption) | apply hu_n1))) rfl ⟨Nat.le_of_ble_eq_true rfl, Nat.le_of_ble_eq_true rfl⟩ (Nat.le_of_ble_eq_true rfl) ⟨Nat.le_of_ble_eq_true rfl, Nat.le_of_ble_eq_true rfl⟩ ?_
  rintro _ h1 ⟨rfl, kC1, f1⟩
  refine g_stk (st' := []) rfl ?_
  have Y1 := SysAt.inC hS (by omega) hY kC1 f1
  obtain ⟨z0, zA, ⟨tz, zB⟩, z1, z2, zC, zT, -, zP, zd, -, -, zst⟩ := id Y1
  have za00 := zA.1
  unfold hobC at za00
  refine g_aload_n dX9_dip_11 (by rfl) (by first | exact isRf_r | exact isRf_n | exact isRf_o | assumption) ?_
  refine g_getf dX9_dip_12 fX9_22 (by first | assumption | (repeat' (first | assumption | exact hu_same | exact Ne.symm (by assumption) | apply hu_n1))) (by rfl) ?_
  refine g_aload_n dX9_dip_15 (by rfl) (by first | exact isRf_r | exact isRf_n | exact isRf_o | assumption) ?_
  refine g_getf dX9_dip_16 fX9_10 (by first | assumption | (repeat' (first | assumption | exact hu_same | exact Ne.symm (by assumption) | apply hu_n1))) (by rfl) ?_
  refine g_iload_n dX9_dip_19 (by rfl) ?_
  refine g_iload_n dX9_dip_20 (by rfl) ?_
  refine g_cV2 dX9_dip_21 lX9_105 vX1_dipLot (ct_X1_dipLot X s1 hO zA) (by first | assumption | (repeat' (first | assumption | exact hu_same | exact Ne.symm (by assumption) | apply hu_n1))) rfl ⟨Nat.le_of_ble_eq_true rfl, Nat.le_of_ble_eq_true rfl⟩ (Nat.le_of_ble_eq_true rfl) ⟨Nat.le_of_ble_eq_true rfl, Nat.le_of_ble_eq_true rfl⟩ ?_
  rintro _ h2 ⟨rfl, kA2, f2⟩
  refine g_stk (st' := [.int (F_dip r w o).1, .ref (m 1)]) rfl ?_
  have Y2 := SysAt.inA hS Y1 kA2 f2
  obtain ⟨w0, wA, -, w1, w2, -⟩ := id Y2
  obtain ⟨fs, hfs⟩ := Y2.fs
  refine g_cV1 dX9_dip_24 lX9_55 vX0_keepNoted (ct_X0_keepNoted X hn w1 w2 hfs) (by first | assumption | (repeat' (first | assumption | exact hu_same | exact Ne.symm (by assumption) | apply hu_n1))) rfl ⟨Nat.le_of_ble_eq_true rfl, Nat.le_of_ble_eq_true rfl⟩ (Nat.le_of_ble_eq_true rfl) ⟨Nat.le_of_ble_eq_true rfl, Nat.le_of_ble_eq_true rfl⟩ ?_
  rintro _ h3 ⟨rfl, hcase⟩
  refine g_stk (st' := [.int (F_dip r w o).1]) rfl ?_
  refine g_iret dX9_dip_27 rfl (Nat.le_refl _) (Nat.le_refl _) ?_
  exact ⟨rfl, SysAt.done hS hn hY kC1 f1 kA2 f2 hcase⟩

set_option maxHeartbeats 4000000 in
set_option maxRecDepth 100000 in
theorem ct_X9_rinse (X : Cx) {h : Hp} {A B m : Nat → Nat} {C : Nat → Nat → Nat} {r : Nat → Int32} {n tn : Nat} {rows : Nat → Nat → Int32} {tg : Nat → Int32} {w : Int32}  (hS : SepS A B m C) (hn : n ≤ 4) (hO : Ok r) (hY : SysAt X h A B m C r n rows tn tg) : Ct X mX9_rinse 5 0 0 [.ref (m 0), .int w] h (fun u h1 => u = some (.int (F_rinse r w).1) ∧ SysTo X h h1 A B m C (F_rinse r w).2 (sysN (F_rinse r w).1 n) (sysR (F_rinse r w).1 n r rows) tn tg) := by
  obtain ⟨y0, yA, ⟨t, yB⟩, y1, y2, yC, yT, ⟨wd, fp, fr, fc, pl, kd, fi, se, yS⟩, yP, yd, ⟨path, yp⟩, ⟨xs, yl⟩, yst⟩ := id hY
  obtain ⟨s1, s2, s3, s4, s5, s6, s7, s8, s9⟩ := id hS
  have a00 := yA.1
  unfold hobC at a00
  refine Ct.ofG vX9_rinse.1.2.2.1 (Nat.le_of_ble_eq_true rfl) ?_
  show G X RX9 cX9_rinse 2 (some .int) "rinse" (Rm 5 0 0) (Fm X (fun u h1 => u = some (.int (F_rinse r w).1) ∧ SysTo X h h1 A B m C (F_rinse r w).2 (sysN (F_rinse r w).1 n) (sysR (F_rinse r w).1 n r rows) tn tg) 0 0) 0 0 0 [(0, .ref (m 0)), (1, .int w)] [] h
  refine g_aload_n dX9_rinse_0 (by rfl) (by first | exact isRf_r | exact isRf_n | exact isRf_o | assumption) ?_
  refine g_getf dX9_rinse_1 fX9_22 (by first | assumption | (repeat' (first | assumption | exact hu_same | exact Ne.symm (by assumption) | apply hu_n1))) (by rfl) ?_
  refine g_aload_n dX9_rinse_4 (by rfl) (by first | exact isRf_r | exact isRf_n | exact isRf_o | assumption) ?_
  refine g_getf dX9_rinse_5 fX9_10 (by first | assumption | (repeat' (first | assumption | exact hu_same | exact Ne.symm (by assumption) | apply hu_n1))) (by rfl) ?_
  obtain ⟨tc, kc, -⟩ := yC n (by omega)
  refine g_cV1 dX9_rinse_8 lX9_47 vX0_noteState (ct_X0_noteState X hn y1 y2 (s3 n (by omega)) (fun i j hi hj e => s5 n (by omega) j i hj hi e.symm) hO.rb kc yA) (by first | assumption | (repeat' (first | assumption | exact hu_same | exact Ne.symm (by assumption) | apply hu_n1))) rfl ⟨Nat.le_of_ble_eq_true rfl, Nat.le_of_ble_eq_true rfl⟩ (Nat.le_of_ble_eq_true rfl) ⟨Nat.le_of_ble_eq_true rfl, Nat.le_of_ble_eq_true rfl⟩ ?_
  rintro _ h1 ⟨rfl, kC1, f1⟩
  refine g_stk (st' := []) rfl ?_
  have Y1 := SysAt.inC hS (by omega) hY kC1 f1
  obtain ⟨z0, zA, ⟨tz, zB⟩, z1, z2, zC, zT, -, zP, zd, -, -, zst⟩ := id Y1
  have za00 := zA.1
  unfold hobC at za00
  refine g_aload_n dX9_rinse_11 (by rfl) (by first | exact isRf_r | exact isRf_n | exact isRf_o | assumption) ?_
  refine g_getf dX9_rinse_12 fX9_22 (by first | assumption | (repeat' (first | assumption | exact hu_same | exact Ne.symm (by assumption) | apply hu_n1))) (by rfl) ?_
  refine g_aload_n dX9_rinse_15 (by rfl) (by first | exact isRf_r | exact isRf_n | exact isRf_o | assumption) ?_
  refine g_getf dX9_rinse_16 fX9_10 (by first | assumption | (repeat' (first | assumption | exact hu_same | exact Ne.symm (by assumption) | apply hu_n1))) (by rfl) ?_
  refine g_iload_n dX9_rinse_19 (by rfl) ?_
  refine g_cV1 dX9_rinse_20 lX9_108 vX1_rinseLot (ct_X1_rinseLot X s1 hO zA) (by first | assumption | (repeat' (first | assumption | exact hu_same | exact Ne.symm (by assumption) | apply hu_n1))) rfl ⟨Nat.le_of_ble_eq_true rfl, Nat.le_of_ble_eq_true rfl⟩ (Nat.le_of_ble_eq_true rfl) ⟨Nat.le_of_ble_eq_true rfl, Nat.le_of_ble_eq_true rfl⟩ ?_
  rintro _ h2 ⟨rfl, kA2, f2⟩
  refine g_stk (st' := [.int (F_rinse r w).1, .ref (m 1)]) rfl ?_
  have Y2 := SysAt.inA hS Y1 kA2 f2
  obtain ⟨w0, wA, -, w1, w2, -⟩ := id Y2
  obtain ⟨fs, hfs⟩ := Y2.fs
  refine g_cV1 dX9_rinse_23 lX9_55 vX0_keepNoted (ct_X0_keepNoted X hn w1 w2 hfs) (by first | assumption | (repeat' (first | assumption | exact hu_same | exact Ne.symm (by assumption) | apply hu_n1))) rfl ⟨Nat.le_of_ble_eq_true rfl, Nat.le_of_ble_eq_true rfl⟩ (Nat.le_of_ble_eq_true rfl) ⟨Nat.le_of_ble_eq_true rfl, Nat.le_of_ble_eq_true rfl⟩ ?_
  rintro _ h3 ⟨rfl, hcase⟩
  refine g_stk (st' := [.int (F_rinse r w).1]) rfl ?_
  refine g_iret dX9_rinse_26 rfl (Nat.le_refl _) (Nat.le_refl _) ?_
  exact ⟨rfl, SysAt.done hS hn hY kC1 f1 kA2 f2 hcase⟩

set_option maxHeartbeats 4000000 in
set_option maxRecDepth 100000 in
theorem ct_X9_hang (X : Cx) {h : Hp} {A B m : Nat → Nat} {C : Nat → Nat → Nat} {r : Nat → Int32} {n tn : Nat} {rows : Nat → Nat → Int32} {tg : Nat → Int32} {w k : Int32}  (hS : SepS A B m C) (hn : n ≤ 4) (hO : Ok r) (hY : SysAt X h A B m C r n rows tn tg) : Ct X mX9_hang 5 0 0 [.ref (m 0), .int w, .int k] h (fun u h1 => u = some (.int (F_hang r w k).1) ∧ SysTo X h h1 A B m C (F_hang r w k).2 (sysN (F_hang r w k).1 n) (sysR (F_hang r w k).1 n r rows) tn tg) := by
  obtain ⟨y0, yA, ⟨t, yB⟩, y1, y2, yC, yT, ⟨wd, fp, fr, fc, pl, kd, fi, se, yS⟩, yP, yd, ⟨path, yp⟩, ⟨xs, yl⟩, yst⟩ := id hY
  obtain ⟨s1, s2, s3, s4, s5, s6, s7, s8, s9⟩ := id hS
  have a00 := yA.1
  unfold hobC at a00
  refine Ct.ofG vX9_hang.1.2.2.1 (Nat.le_of_ble_eq_true rfl) ?_
  show G X RX9 cX9_hang 3 (some .int) "hang" (Rm 5 0 0) (Fm X (fun u h1 => u = some (.int (F_hang r w k).1) ∧ SysTo X h h1 A B m C (F_hang r w k).2 (sysN (F_hang r w k).1 n) (sysR (F_hang r w k).1 n r rows) tn tg) 0 0) 0 0 0 [(0, .ref (m 0)), (1, .int w), (2, .int k)] [] h
  refine g_aload_n dX9_hang_0 (by rfl) (by first | exact isRf_r | exact isRf_n | exact isRf_o | assumption) ?_
  refine g_getf dX9_hang_1 fX9_22 (by first | assumption | (repeat' (first | assumption | exact hu_same | exact Ne.symm (by assumption) | apply hu_n1))) (by rfl) ?_
  refine g_aload_n dX9_hang_4 (by rfl) (by first | exact isRf_r | exact isRf_n | exact isRf_o | assumption) ?_
  refine g_getf dX9_hang_5 fX9_10 (by first | assumption | (repeat' (first | assumption | exact hu_same | exact Ne.symm (by assumption) | apply hu_n1))) (by rfl) ?_
  obtain ⟨tc, kc, -⟩ := yC n (by omega)
  refine g_cV1 dX9_hang_8 lX9_47 vX0_noteState (ct_X0_noteState X hn y1 y2 (s3 n (by omega)) (fun i j hi hj e => s5 n (by omega) j i hj hi e.symm) hO.rb kc yA) (by first | assumption | (repeat' (first | assumption | exact hu_same | exact Ne.symm (by assumption) | apply hu_n1))) rfl ⟨Nat.le_of_ble_eq_true rfl, Nat.le_of_ble_eq_true rfl⟩ (Nat.le_of_ble_eq_true rfl) ⟨Nat.le_of_ble_eq_true rfl, Nat.le_of_ble_eq_true rfl⟩ ?_
  rintro _ h1 ⟨rfl, kC1, f1⟩
  refine g_stk (st' := []) rfl ?_
  have Y1 := SysAt.inC hS (by omega) hY kC1 f1
  obtain ⟨z0, zA, ⟨tz, zB⟩, z1, z2, zC, zT, -, zP, zd, -, -, zst⟩ := id Y1
  have za00 := zA.1
  unfold hobC at za00
  refine g_aload_n dX9_hang_11 (by rfl) (by first | exact isRf_r | exact isRf_n | exact isRf_o | assumption) ?_
  refine g_getf dX9_hang_12 fX9_22 (by first | assumption | (repeat' (first | assumption | exact hu_same | exact Ne.symm (by assumption) | apply hu_n1))) (by rfl) ?_
  refine g_aload_n dX9_hang_15 (by rfl) (by first | exact isRf_r | exact isRf_n | exact isRf_o | assumption) ?_
  refine g_getf dX9_hang_16 fX9_10 (by first | assumption | (repeat' (first | assumption | exact hu_same | exact Ne.symm (by assumption) | apply hu_n1))) (by rfl) ?_
  refine g_iload_n dX9_hang_19 (by rfl) ?_
  refine g_iload_n dX9_hang_20 (by rfl) ?_
  refine g_cV2 dX9_hang_21 lX9_111 vX1_hangLot (ct_X1_hangLot X s1 hO zA) (by first | assumption | (repeat' (first | assumption | exact hu_same | exact Ne.symm (by assumption) | apply hu_n1))) rfl ⟨Nat.le_of_ble_eq_true rfl, Nat.le_of_ble_eq_true rfl⟩ (Nat.le_of_ble_eq_true rfl) ⟨Nat.le_of_ble_eq_true rfl, Nat.le_of_ble_eq_true rfl⟩ ?_
  rintro _ h2 ⟨rfl, kA2, f2⟩
  refine g_stk (st' := [.int (F_hang r w k).1, .ref (m 1)]) rfl ?_
  have Y2 := SysAt.inA hS Y1 kA2 f2
  obtain ⟨w0, wA, -, w1, w2, -⟩ := id Y2
  obtain ⟨fs, hfs⟩ := Y2.fs
  refine g_cV1 dX9_hang_24 lX9_55 vX0_keepNoted (ct_X0_keepNoted X hn w1 w2 hfs) (by first | assumption | (repeat' (first | assumption | exact hu_same | exact Ne.symm (by assumption) | apply hu_n1))) rfl ⟨Nat.le_of_ble_eq_true rfl, Nat.le_of_ble_eq_true rfl⟩ (Nat.le_of_ble_eq_true rfl) ⟨Nat.le_of_ble_eq_true rfl, Nat.le_of_ble_eq_true rfl⟩ ?_
  rintro _ h3 ⟨rfl, hcase⟩
  refine g_stk (st' := [.int (F_hang r w k).1]) rfl ?_
  refine g_iret dX9_hang_27 rfl (Nat.le_refl _) (Nat.le_refl _) ?_
  exact ⟨rfl, SysAt.done hS hn hY kC1 f1 kA2 f2 hcase⟩

set_option maxHeartbeats 4000000 in
set_option maxRecDepth 100000 in
theorem ct_X9_take (X : Cx) {h : Hp} {A B m : Nat → Nat} {C : Nat → Nat → Nat} {r : Nat → Int32} {n tn : Nat} {rows : Nat → Nat → Int32} {tg : Nat → Int32} {w : Int32}  (hS : SepS A B m C) (hn : n ≤ 4) (hO : Ok r) (hY : SysAt X h A B m C r n rows tn tg) : Ct X mX9_take 5 0 0 [.ref (m 0), .int w] h (fun u h1 => u = some (.int (F_take r w).1) ∧ SysTo X h h1 A B m C (F_take r w).2 (sysN (F_take r w).1 n) (sysR (F_take r w).1 n r rows) tn tg) := by
  obtain ⟨y0, yA, ⟨t, yB⟩, y1, y2, yC, yT, ⟨wd, fp, fr, fc, pl, kd, fi, se, yS⟩, yP, yd, ⟨path, yp⟩, ⟨xs, yl⟩, yst⟩ := id hY
  obtain ⟨s1, s2, s3, s4, s5, s6, s7, s8, s9⟩ := id hS
  have a00 := yA.1
  unfold hobC at a00
  refine Ct.ofG vX9_take.1.2.2.1 (Nat.le_of_ble_eq_true rfl) ?_
  show G X RX9 cX9_take 2 (some .int) "take" (Rm 5 0 0) (Fm X (fun u h1 => u = some (.int (F_take r w).1) ∧ SysTo X h h1 A B m C (F_take r w).2 (sysN (F_take r w).1 n) (sysR (F_take r w).1 n r rows) tn tg) 0 0) 0 0 0 [(0, .ref (m 0)), (1, .int w)] [] h
  refine g_aload_n dX9_take_0 (by rfl) (by first | exact isRf_r | exact isRf_n | exact isRf_o | assumption) ?_
  refine g_getf dX9_take_1 fX9_22 (by first | assumption | (repeat' (first | assumption | exact hu_same | exact Ne.symm (by assumption) | apply hu_n1))) (by rfl) ?_
  refine g_aload_n dX9_take_4 (by rfl) (by first | exact isRf_r | exact isRf_n | exact isRf_o | assumption) ?_
  refine g_getf dX9_take_5 fX9_10 (by first | assumption | (repeat' (first | assumption | exact hu_same | exact Ne.symm (by assumption) | apply hu_n1))) (by rfl) ?_
  obtain ⟨tc, kc, -⟩ := yC n (by omega)
  refine g_cV1 dX9_take_8 lX9_47 vX0_noteState (ct_X0_noteState X hn y1 y2 (s3 n (by omega)) (fun i j hi hj e => s5 n (by omega) j i hj hi e.symm) hO.rb kc yA) (by first | assumption | (repeat' (first | assumption | exact hu_same | exact Ne.symm (by assumption) | apply hu_n1))) rfl ⟨Nat.le_of_ble_eq_true rfl, Nat.le_of_ble_eq_true rfl⟩ (Nat.le_of_ble_eq_true rfl) ⟨Nat.le_of_ble_eq_true rfl, Nat.le_of_ble_eq_true rfl⟩ ?_
  rintro _ h1 ⟨rfl, kC1, f1⟩
  refine g_stk (st' := []) rfl ?_
  have Y1 := SysAt.inC hS (by omega) hY kC1 f1
  obtain ⟨z0, zA, ⟨tz, zB⟩, z1, z2, zC, zT, -, zP, zd, -, -, zst⟩ := id Y1
  have za00 := zA.1
  unfold hobC at za00
  refine g_aload_n dX9_take_11 (by rfl) (by first | exact isRf_r | exact isRf_n | exact isRf_o | assumption) ?_
  refine g_getf dX9_take_12 fX9_22 (by first | assumption | (repeat' (first | assumption | exact hu_same | exact Ne.symm (by assumption) | apply hu_n1))) (by rfl) ?_
  refine g_aload_n dX9_take_15 (by rfl) (by first | exact isRf_r | exact isRf_n | exact isRf_o | assumption) ?_
  refine g_getf dX9_take_16 fX9_10 (by first | assumption | (repeat' (first | assumption | exact hu_same | exact Ne.symm (by assumption) | apply hu_n1))) (by rfl) ?_
  refine g_iload_n dX9_take_19 (by rfl) ?_
  refine g_cV1 dX9_take_20 lX9_114 vX1_takeDown (ct_X1_takeDown X s1 hO zA) (by first | assumption | (repeat' (first | assumption | exact hu_same | exact Ne.symm (by assumption) | apply hu_n1))) rfl ⟨Nat.le_of_ble_eq_true rfl, Nat.le_of_ble_eq_true rfl⟩ (Nat.le_of_ble_eq_true rfl) ⟨Nat.le_of_ble_eq_true rfl, Nat.le_of_ble_eq_true rfl⟩ ?_
  rintro _ h2 ⟨rfl, kA2, f2⟩
  refine g_stk (st' := [.int (F_take r w).1, .ref (m 1)]) rfl ?_
  have Y2 := SysAt.inA hS Y1 kA2 f2
  obtain ⟨w0, wA, -, w1, w2, -⟩ := id Y2
  obtain ⟨fs, hfs⟩ := Y2.fs
  refine g_cV1 dX9_take_23 lX9_55 vX0_keepNoted (ct_X0_keepNoted X hn w1 w2 hfs) (by first | assumption | (repeat' (first | assumption | exact hu_same | exact Ne.symm (by assumption) | apply hu_n1))) rfl ⟨Nat.le_of_ble_eq_true rfl, Nat.le_of_ble_eq_true rfl⟩ (Nat.le_of_ble_eq_true rfl) ⟨Nat.le_of_ble_eq_true rfl, Nat.le_of_ble_eq_true rfl⟩ ?_
  rintro _ h3 ⟨rfl, hcase⟩
  refine g_stk (st' := [.int (F_take r w).1]) rfl ?_
  refine g_iret dX9_take_26 rfl (Nat.le_refl _) (Nat.le_refl _) ?_
  exact ⟨rfl, SysAt.done hS hn hY kC1 f1 kA2 f2 hcase⟩

set_option maxHeartbeats 4000000 in
set_option maxRecDepth 100000 in
theorem ct_X9_order (X : Cx) {h : Hp} {A B m : Nat → Nat} {C : Nat → Nat → Nat} {r : Nat → Int32} {n tn : Nat} {rows : Nat → Nat → Int32} {tg : Nat → Int32} {a b c d : Int32}  (hS : SepS A B m C) (hn : n ≤ 4) (hO : Ok r) (hY : SysAt X h A B m C r n rows tn tg) : Ct X mX9_order 5 0 0 [.ref (m 0), .int a, .int b, .int c, .int d] h (fun u h1 => u = some (.int (F_order r a b c d).1) ∧ SysTo X h h1 A B m C (F_order r a b c d).2 (sysN (F_order r a b c d).1 n) (sysR (F_order r a b c d).1 n r rows) tn tg) := by
  obtain ⟨y0, yA, ⟨t, yB⟩, y1, y2, yC, yT, ⟨wd, fp, fr, fc, pl, kd, fi, se, yS⟩, yP, yd, ⟨path, yp⟩, ⟨xs, yl⟩, yst⟩ := id hY
  obtain ⟨s1, s2, s3, s4, s5, s6, s7, s8, s9⟩ := id hS
  have a00 := yA.1
  unfold hobC at a00
  refine Ct.ofG vX9_order.1.2.2.1 (Nat.le_of_ble_eq_true rfl) ?_
  show G X RX9 cX9_order 5 (some .int) "order" (Rm 5 0 0) (Fm X (fun u h1 => u = some (.int (F_order r a b c d).1) ∧ SysTo X h h1 A B m C (F_order r a b c d).2 (sysN (F_order r a b c d).1 n) (sysR (F_order r a b c d).1 n r rows) tn tg) 0 0) 0 0 0 [(0, .ref (m 0)), (1, .int a), (2, .int b), (3, .int c), (4, .int d)] [] h
  refine g_aload_n dX9_order_0 (by rfl) (by first | exact isRf_r | exact isRf_n | exact isRf_o | assumption) ?_
  refine g_getf dX9_order_1 fX9_22 (by first | assumption | (repeat' (first | assumption | exact hu_same | exact Ne.symm (by assumption) | apply hu_n1))) (by rfl) ?_
  refine g_aload_n dX9_order_4 (by rfl) (by first | exact isRf_r | exact isRf_n | exact isRf_o | assumption) ?_
  refine g_getf dX9_order_5 fX9_10 (by first | assumption | (repeat' (first | assumption | exact hu_same | exact Ne.symm (by assumption) | apply hu_n1))) (by rfl) ?_
  obtain ⟨tc, kc, -⟩ := yC n (by omega)
  refine g_cV1 dX9_order_8 lX9_47 vX0_noteState (ct_X0_noteState X hn y1 y2 (s3 n (by omega)) (fun i j hi hj e => s5 n (by omega) j i hj hi e.symm) hO.rb kc yA) (by first | assumption | (repeat' (first | assumption | exact hu_same | exact Ne.symm (by assumption) | apply hu_n1))) rfl ⟨Nat.le_of_ble_eq_true rfl, Nat.le_of_ble_eq_true rfl⟩ (Nat.le_of_ble_eq_true rfl) ⟨Nat.le_of_ble_eq_true rfl, Nat.le_of_ble_eq_true rfl⟩ ?_
  rintro _ h1 ⟨rfl, kC1, f1⟩
  refine g_stk (st' := []) rfl ?_
  have Y1 := SysAt.inC hS (by omega) hY kC1 f1
  obtain ⟨z0, zA, ⟨tz, zB⟩, z1, z2, zC, zT, -, zP, zd, -, -, zst⟩ := id Y1
  have za00 := zA.1
  unfold hobC at za00
  refine g_aload_n dX9_order_11 (by rfl) (by first | exact isRf_r | exact isRf_n | exact isRf_o | assumption) ?_
  refine g_getf dX9_order_12 fX9_22 (by first | assumption | (repeat' (first | assumption | exact hu_same | exact Ne.symm (by assumption) | apply hu_n1))) (by rfl) ?_
  refine g_aload_n dX9_order_15 (by rfl) (by first | exact isRf_r | exact isRf_n | exact isRf_o | assumption) ?_
  refine g_getf dX9_order_16 fX9_10 (by first | assumption | (repeat' (first | assumption | exact hu_same | exact Ne.symm (by assumption) | apply hu_n1))) (by rfl) ?_
  refine g_iload_n dX9_order_19 (by rfl) ?_
  refine g_iload_n dX9_order_20 (by rfl) ?_
  refine g_iload_n dX9_order_21 (by rfl) ?_
  refine g_iload dX9_order_22 (by rfl) ?_
  refine g_cV4 dX9_order_24 lX9_182 vX1_addOrder (ct_X1_addOrder X s1 hO zA) (by first | assumption | (repeat' (first | assumption | exact hu_same | exact Ne.symm (by assumption) | apply hu_n1))) rfl ⟨Nat.le_of_ble_eq_true rfl, Nat.le_of_ble_eq_true rfl⟩ (Nat.le_of_ble_eq_true rfl) ⟨Nat.le_of_ble_eq_true rfl, Nat.le_of_ble_eq_true rfl⟩ ?_
  rintro _ h2 ⟨rfl, kA2, f2⟩
  refine g_stk (st' := [.int (F_order r a b c d).1, .ref (m 1)]) rfl ?_
  have Y2 := SysAt.inA hS Y1 kA2 f2
  obtain ⟨w0, wA, -, w1, w2, -⟩ := id Y2
  obtain ⟨fs, hfs⟩ := Y2.fs
  refine g_cV1 dX9_order_27 lX9_55 vX0_keepNoted (ct_X0_keepNoted X hn w1 w2 hfs) (by first | assumption | (repeat' (first | assumption | exact hu_same | exact Ne.symm (by assumption) | apply hu_n1))) rfl ⟨Nat.le_of_ble_eq_true rfl, Nat.le_of_ble_eq_true rfl⟩ (Nat.le_of_ble_eq_true rfl) ⟨Nat.le_of_ble_eq_true rfl, Nat.le_of_ble_eq_true rfl⟩ ?_
  rintro _ h3 ⟨rfl, hcase⟩
  refine g_stk (st' := [.int (F_order r a b c d).1]) rfl ?_
  refine g_iret dX9_order_30 rfl (Nat.le_refl _) (Nat.le_refl _) ?_
  exact ⟨rfl, SysAt.done hS hn hY kC1 f1 kA2 f2 hcase⟩

set_option maxHeartbeats 4000000 in
set_option maxRecDepth 100000 in
theorem ct_X9_sell (X : Cx) {h : Hp} {A B m : Nat → Nat} {C : Nat → Nat → Nat} {r : Nat → Int32} {n tn : Nat} {rows : Nat → Nat → Int32} {tg : Nat → Int32} {w o : Int32}  (hS : SepS A B m C) (hn : n ≤ 4) (hO : Ok r) (hY : SysAt X h A B m C r n rows tn tg) : Ct X mX9_sell 5 0 0 [.ref (m 0), .int w, .int o] h (fun u h1 => u = some (.int (F_sell r w o).1) ∧ SysTo X h h1 A B m C (F_sell r w o).2 (sysN (F_sell r w o).1 n) (sysR (F_sell r w o).1 n r rows) tn tg) := by
  obtain ⟨y0, yA, ⟨t, yB⟩, y1, y2, yC, yT, ⟨wd, fp, fr, fc, pl, kd, fi, se, yS⟩, yP, yd, ⟨path, yp⟩, ⟨xs, yl⟩, yst⟩ := id hY
  obtain ⟨s1, s2, s3, s4, s5, s6, s7, s8, s9⟩ := id hS
  have a00 := yA.1
  unfold hobC at a00
  refine Ct.ofG vX9_sell.1.2.2.1 (Nat.le_of_ble_eq_true rfl) ?_
  show G X RX9 cX9_sell 3 (some .int) "sell" (Rm 5 0 0) (Fm X (fun u h1 => u = some (.int (F_sell r w o).1) ∧ SysTo X h h1 A B m C (F_sell r w o).2 (sysN (F_sell r w o).1 n) (sysR (F_sell r w o).1 n r rows) tn tg) 0 0) 0 0 0 [(0, .ref (m 0)), (1, .int w), (2, .int o)] [] h
  refine g_aload_n dX9_sell_0 (by rfl) (by first | exact isRf_r | exact isRf_n | exact isRf_o | assumption) ?_
  refine g_getf dX9_sell_1 fX9_22 (by first | assumption | (repeat' (first | assumption | exact hu_same | exact Ne.symm (by assumption) | apply hu_n1))) (by rfl) ?_
  refine g_aload_n dX9_sell_4 (by rfl) (by first | exact isRf_r | exact isRf_n | exact isRf_o | assumption) ?_
  refine g_getf dX9_sell_5 fX9_10 (by first | assumption | (repeat' (first | assumption | exact hu_same | exact Ne.symm (by assumption) | apply hu_n1))) (by rfl) ?_
  obtain ⟨tc, kc, -⟩ := yC n (by omega)
  refine g_cV1 dX9_sell_8 lX9_47 vX0_noteState (ct_X0_noteState X hn y1 y2 (s3 n (by omega)) (fun i j hi hj e => s5 n (by omega) j i hj hi e.symm) hO.rb kc yA) (by first | assumption | (repeat' (first | assumption | exact hu_same | exact Ne.symm (by assumption) | apply hu_n1))) rfl ⟨Nat.le_of_ble_eq_true rfl, Nat.le_of_ble_eq_true rfl⟩ (Nat.le_of_ble_eq_true rfl) ⟨Nat.le_of_ble_eq_true rfl, Nat.le_of_ble_eq_true rfl⟩ ?_
  rintro _ h1 ⟨rfl, kC1, f1⟩
  refine g_stk (st' := []) rfl ?_
  have Y1 := SysAt.inC hS (by omega) hY kC1 f1
  obtain ⟨z0, zA, ⟨tz, zB⟩, z1, z2, zC, zT, -, zP, zd, -, -, zst⟩ := id Y1
  have za00 := zA.1
  unfold hobC at za00
  refine g_aload_n dX9_sell_11 (by rfl) (by first | exact isRf_r | exact isRf_n | exact isRf_o | assumption) ?_
  refine g_getf dX9_sell_12 fX9_22 (by first | assumption | (repeat' (first | assumption | exact hu_same | exact Ne.symm (by assumption) | apply hu_n1))) (by rfl) ?_
  refine g_aload_n dX9_sell_15 (by rfl) (by first | exact isRf_r | exact isRf_n | exact isRf_o | assumption) ?_
  refine g_getf dX9_sell_16 fX9_10 (by first | assumption | (repeat' (first | assumption | exact hu_same | exact Ne.symm (by assumption) | apply hu_n1))) (by rfl) ?_
  refine g_iload_n dX9_sell_19 (by rfl) ?_
  refine g_iload_n dX9_sell_20 (by rfl) ?_
  refine g_cV2 dX9_sell_21 lX9_186 vX1_sellLot (ct_X1_sellLot X s1 hO zA) (by first | assumption | (repeat' (first | assumption | exact hu_same | exact Ne.symm (by assumption) | apply hu_n1))) rfl ⟨Nat.le_of_ble_eq_true rfl, Nat.le_of_ble_eq_true rfl⟩ (Nat.le_of_ble_eq_true rfl) ⟨Nat.le_of_ble_eq_true rfl, Nat.le_of_ble_eq_true rfl⟩ ?_
  rintro _ h2 ⟨rfl, kA2, f2⟩
  refine g_stk (st' := [.int (F_sell r w o).1, .ref (m 1)]) rfl ?_
  have Y2 := SysAt.inA hS Y1 kA2 f2
  obtain ⟨w0, wA, -, w1, w2, -⟩ := id Y2
  obtain ⟨fs, hfs⟩ := Y2.fs
  refine g_cV1 dX9_sell_24 lX9_55 vX0_keepNoted (ct_X0_keepNoted X hn w1 w2 hfs) (by first | assumption | (repeat' (first | assumption | exact hu_same | exact Ne.symm (by assumption) | apply hu_n1))) rfl ⟨Nat.le_of_ble_eq_true rfl, Nat.le_of_ble_eq_true rfl⟩ (Nat.le_of_ble_eq_true rfl) ⟨Nat.le_of_ble_eq_true rfl, Nat.le_of_ble_eq_true rfl⟩ ?_
  rintro _ h3 ⟨rfl, hcase⟩
  refine g_stk (st' := [.int (F_sell r w o).1]) rfl ?_
  refine g_iret dX9_sell_27 rfl (Nat.le_refl _) (Nat.le_refl _) ?_
  exact ⟨rfl, SysAt.done hS hn hY kC1 f1 kA2 f2 hcase⟩

theorem set_ok {r : Nat → Int32} {w x : Int32} {j : Nat} (hj : j < 7) (e : w = nI j) (h1 : leastF j ≤ x) (h2 : x ≤ mostF j) : F_set r w x = (r j, upd r j x) := by
  subst e
  unfold F_set
  rw [show okB 7 (nI j) = true from okB_t (n := 7) hj (by omega), cl_nI (by omega), rngB_t h1 h2]
  rfl
theorem set_bad {r : Nat → Int32} {w x : Int32} (h : ¬ ∃ j, j < 7 ∧ w = nI j ∧ leastF j ≤ x ∧ x ≤ mostF j) : F_set r w x = (-1, r) := by
  unfold F_set
  cases hb : okB 7 w && rngB (leastF (cl w)) (mostF (cl w)) x with
  | false => rfl
  | true =>
    exfalso
    obtain ⟨hb1, hb2⟩ := Bool.and_eq_true_iff.mp hb
    obtain ⟨j, hj, rfl⟩ := okB_i (n := 7) (by omega) hb1
    rw [cl_nI (by omega)] at hb2
    have z := rngB_i.mp hb2
    exact h ⟨j, hj, rfl, z.1, z.2⟩

set_option maxHeartbeats 4000000 in
set_option maxRecDepth 100000 in
theorem ct_X9_set (X : Cx) {h : Hp} {A B m : Nat → Nat} {C : Nat → Nat → Nat} {r : Nat → Int32} {n tn : Nat} {rows : Nat → Nat → Int32} {tg : Nat → Int32} {w x : Int32}  (hS : SepS A B m C) (hn : n ≤ 4) (hO : Ok r) (hY : SysAt X h A B m C r n rows tn tg) : Ct X mX9_set 5 0 0 [.ref (m 0), .int w, .int x] h (fun u h1 => u = some (.int (F_set r w x).1) ∧ SysTo X h h1 A B m C (F_set r w x).2 (sysN (F_set r w x).1 n) (sysR (F_set r w x).1 n r rows) tn tg) := by
  obtain ⟨y0, yA, ⟨t, yB⟩, y1, y2, yC, yT, ⟨wd, fp, fr, fc, pl, kd, fi, se, yS⟩, yP, yd, ⟨path, yp⟩, ⟨xs, yl⟩, yst⟩ := id hY
  obtain ⟨s1, s2, s3, s4, s5, s6, s7, s8, s9⟩ := id hS
  have a00 := yA.1
  unfold hobC at a00
  refine Ct.ofG vX9_set.1.2.2.1 (Nat.le_of_ble_eq_true rfl) ?_
  show G X RX9 cX9_set 3 (some .int) "set" (Rm 5 0 0) (Fm X (fun u h1 => u = some (.int (F_set r w x).1) ∧ SysTo X h h1 A B m C (F_set r w x).2 (sysN (F_set r w x).1 n) (sysR (F_set r w x).1 n r rows) tn tg) 0 0) 0 0 0 [(0, .ref (m 0)), (1, .int w), (2, .int x)] [] h
  refine g_aload_n dX9_set_0 (by rfl) (by first | exact isRf_r | exact isRf_n | exact isRf_o | assumption) ?_
  refine g_getf dX9_set_1 fX9_22 (by first | assumption | (repeat' (first | assumption | exact hu_same | exact Ne.symm (by assumption) | apply hu_n1))) (by rfl) ?_
  refine g_aload_n dX9_set_4 (by rfl) (by first | exact isRf_r | exact isRf_n | exact isRf_o | assumption) ?_
  refine g_getf dX9_set_5 fX9_10 (by first | assumption | (repeat' (first | assumption | exact hu_same | exact Ne.symm (by assumption) | apply hu_n1))) (by rfl) ?_
  obtain ⟨tc, kc, -⟩ := yC n (by omega)
  refine g_cV1 dX9_set_8 lX9_47 vX0_noteState (ct_X0_noteState X hn y1 y2 (s3 n (by omega)) (fun i j hi hj e => s5 n (by omega) j i hj hi e.symm) hO.rb kc yA) (by first | assumption | (repeat' (first | assumption | exact hu_same | exact Ne.symm (by assumption) | apply hu_n1))) rfl ⟨Nat.le_of_ble_eq_true rfl, Nat.le_of_ble_eq_true rfl⟩ (Nat.le_of_ble_eq_true rfl) ⟨Nat.le_of_ble_eq_true rfl, Nat.le_of_ble_eq_true rfl⟩ ?_
  rintro _ h1 ⟨rfl, kC1, f1⟩
  refine g_stk (st' := []) rfl ?_
  have Y1 := SysAt.inC hS (by omega) hY kC1 f1
  obtain ⟨z0, zA, ⟨tz, zB⟩, z1, z2, zC, zT, -, zP, zd, -, -, zst⟩ := id Y1
  have za00 := zA.1
  unfold hobC at za00
  refine g_aload_n dX9_set_11 (by rfl) (by first | exact isRf_r | exact isRf_n | exact isRf_o | assumption) ?_
  refine g_getf dX9_set_12 fX9_22 (by first | assumption | (repeat' (first | assumption | exact hu_same | exact Ne.symm (by assumption) | apply hu_n1))) (by rfl) ?_
  refine g_aload_n dX9_set_15 (by rfl) (by first | exact isRf_r | exact isRf_n | exact isRf_o | assumption) ?_
  refine g_getf dX9_set_16 fX9_10 (by first | assumption | (repeat' (first | assumption | exact hu_same | exact Ne.symm (by assumption) | apply hu_n1))) (by rfl) ?_
  refine g_getf dX9_set_19 fX9_84 (by first | assumption | (repeat' (first | assumption | exact hu_same | exact Ne.symm (by assumption) | apply hu_n1))) (by rfl) ?_
  refine g_iload_n dX9_set_22 (by rfl) ?_
  refine g_iload_n dX9_set_23 (by rfl) ?_
  have za6 := zA.2.2.2.2.2.2.1.1
  refine g_cV2 dX9_set_24 lX9_274 vX6_change (ct_X6_change X zA.2.2.2.2.2.2.1 zst) (by first | assumption | (repeat' (first | assumption | exact hu_same | exact Ne.symm (by assumption) | apply hu_n1))) rfl ⟨Nat.le_of_ble_eq_true rfl, Nat.le_of_ble_eq_true rfl⟩ (Nat.le_of_ble_eq_true rfl) ⟨Nat.le_of_ble_eq_true rfl, Nat.le_of_ble_eq_true rfl⟩ ?_
  intro u h2 hu2
  have hh : ∃ y, u = some (.int (F_set r w x).1) ∧ y = h2 ∧ HouseAt X h2 A (F_set r w x).2 ∧ ∀ q, outA A q → h2 q = h1 q := by
    rcases hu2 with ⟨j, hj, ew, l1, l2, rfl, rfl⟩ | ⟨hbad, rfl, rfl⟩
    · rw [set_ok hj ew l1 l2]
      exact ⟨_, rfl, rfl, HouseAt.stg s1 zA hj, fun q hq => hu_ne (hq 7 (by omega))⟩
    · rw [set_bad hbad]
      exact ⟨_, rfl, rfl, zA, fun q _ => rfl⟩
  obtain ⟨-, rfl, -, kA2, f2⟩ := hh
  refine g_stk (st' := [.int (F_set r w x).1, .ref (m 1)]) rfl ?_
  have Y2 := SysAt.inA hS Y1 kA2 f2
  obtain ⟨w0, wA, -, w1, w2, -⟩ := id Y2
  obtain ⟨fs, hfs⟩ := Y2.fs
  refine g_cV1 dX9_set_27 lX9_55 vX0_keepNoted (ct_X0_keepNoted X hn w1 w2 hfs) (by first | assumption | (repeat' (first | assumption | exact hu_same | exact Ne.symm (by assumption) | apply hu_n1))) rfl ⟨Nat.le_of_ble_eq_true rfl, Nat.le_of_ble_eq_true rfl⟩ (Nat.le_of_ble_eq_true rfl) ⟨Nat.le_of_ble_eq_true rfl, Nat.le_of_ble_eq_true rfl⟩ ?_
  rintro _ h3 ⟨rfl, hcase⟩
  refine g_stk (st' := [.int (F_set r w x).1]) rfl ?_
  refine g_iret dX9_set_30 rfl (Nat.le_refl _) (Nat.le_refl _) ?_
  exact ⟨rfl, SysAt.done hS hn hY kC1 f1 kA2 f2 hcase⟩

theorem SysAt.undo {X : Cx} {h h1 : Hp} {A B m : Nat → Nat} {C : Nat → Nat → Nat} {r r2 : Nat → Int32} {n tn : Nat} {rows : Nat → Nat → Int32} {tg : Nat → Int32} (hS : SepS A B m C) (hn : n + 1 ≤ 4) (k : SysAt X h A B m C r (n + 1) rows tn tg) (hA : HouseAt X h1 A r2) (e1 : h1 (m 1) = some (ob 0 [.ref (m 2), .int (nI n)])) (f : ∀ q, outA A q → q ≠ m 1 → h1 q = h q) : SysTo X h h1 A B m C r2 n rows tn tg := by
  obtain ⟨s1, s2, s3, s4, s5, s6, s7, s8, s9⟩ := id hS
  obtain ⟨k0, k1, ⟨t, k2⟩, k3, k4, k5, k6, ⟨wd, fp, fr, fc, pl, kd, fi, se, k7⟩, k8, k9, ⟨path, k10⟩, ⟨xs, k11⟩, k12⟩ := k
  have g : ∀ i, i < 24 → i ≠ 1 → h1 (m i) = h (m i) := fun i hi h1 => f _ (s8 i hi).1 (fun e => h1 (s9 _ _ hi (by omega) e))
  have st : ∀ q l (u : Nat → Int32), h q = some (sI l u) → h1 q = some (sI l u) := fun q l u e => (f q (k1.outs e) (ne_bs e k3)).trans e
  refine ⟨C, ⟨(g 0 (by omega) (by omega)).trans k0, hA, ⟨t, k2.kept (fun i hi => f _ (fun j hj e => s4 j i hj hi e.symm) (Ne.symm ((s8 1 (by omega)).2.1 i hi)))⟩, e1, (g 2 (by omega) (by omega)).trans k4, fun j hj => ?_, ⟨(g 3 (by omega) (by omega)).trans k6.1, (g 4 (by omega) (by omega)).trans k6.2⟩, ⟨wd, fp, fr, fc, pl, kd, fi, se, (g 5 (by omega) (by omega)).trans k7⟩, (g 6 (by omega) (by omega)).trans k8, (g 7 (by omega) (by omega)).trans k9, ⟨path, (g 8 (by omega) (by omega)).trans k10⟩, ⟨xs, fun j hj => (k11 j hj).kept (g _ (by omega) (by omega)) (g _ (by omega) (by omega)) (g _ (by omega) (by omega))⟩, ⟨st _ _ _ k12.1, st _ _ _ k12.2.1, st _ _ _ k12.2.2⟩⟩, hS, fun q hq => hq, fun q hq => f q hq.1 (hq.2.2.2 1 (by omega))⟩
  obtain ⟨t2, q1, q2⟩ := k5 j hj
  exact ⟨t2, q1.kept (fun i hi => f _ (fun j2 hj2 e => s5 j hj j2 i hj2 hi e.symm) (Ne.symm ((s8 1 (by omega)).2.2 j hj i hi))), fun q => q2 (by omega)⟩

set_option maxHeartbeats 4000000 in
set_option maxRecDepth 100000 in
theorem ct_undoS (X : Cx) {h : Hp} {A B m : Nat → Nat} {C : Nat → Nat → Nat} {r : Nat → Int32} {n tn : Nat} {rows : Nat → Nat → Int32} {tg : Nat → Int32}  (hS : SepS A B m C) (hn : n + 1 ≤ 4) (hO : ∀ k, k < n + 1 → Ok (rows k)) (hY : SysAt X h A B m C r (n + 1) rows tn tg) : Ct X mX9_undo 5 0 0 [.ref (m 0)] h (fun u h1 => u = some (.int (nI n)) ∧ SysTo X h h1 A B m C (rows n) n rows tn tg) := by
  obtain ⟨y0, yA, ⟨t, yB⟩, y1, y2, yC, yT, ⟨wd, fp, fr, fc, pl, kd, fi, se, yS⟩, yP, yd, ⟨path, yp⟩, ⟨xs, yl⟩, yst⟩ := id hY
  obtain ⟨s1, s2, s3, s4, s5, s6, s7, s8, s9⟩ := id hS
  have a00 := yA.1
  unfold hobC at a00
  obtain ⟨tc, kc0, ec⟩ := yC n (by omega)
  have kc : HouseAt X h (C n) (rows n) := by rw [← ec (by omega)]; exact kc0
  refine Ct.ofG vX9_undo.1.2.2.1 (Nat.le_of_ble_eq_true rfl) ?_
  show G X RX9 cX9_undo 1 (some .int) "undo" (Rm 5 0 0) (Fm X (fun u h1 => u = some (.int (nI n)) ∧ SysTo X h h1 A B m C (rows n) n rows tn tg) 0 0) 0 0 0 [(0, .ref (m 0))] [] h
  refine g_aload_n dX9_undo_0 (by rfl) (by first | exact isRf_r | exact isRf_n | exact isRf_o | assumption) ?_
  refine g_getf dX9_undo_1 fX9_22 (by first | assumption | (repeat' (first | assumption | exact hu_same | exact Ne.symm (by assumption) | apply hu_n1))) (by rfl) ?_
  refine g_aload_n dX9_undo_4 (by rfl) (by first | exact isRf_r | exact isRf_n | exact isRf_o | assumption) ?_
  refine g_getf dX9_undo_5 fX9_10 (by first | assumption | (repeat' (first | assumption | exact hu_same | exact Ne.symm (by assumption) | apply hu_n1))) (by rfl) ?_
  refine g_cV1 dX9_undo_8 lX9_277 vX0_stepBack (ct_X0_stepBack X hn y1 y2 s1 (fun i j hi hj e => s5 n (by omega) i j hi hj e) (hO n (by omega)).rb kc yA (s8 1 (by omega)).1) (by first | assumption | (repeat' (first | assumption | exact hu_same | exact Ne.symm (by assumption) | apply hu_n1))) rfl ⟨Nat.le_of_ble_eq_true rfl, Nat.le_of_ble_eq_true rfl⟩ (Nat.le_of_ble_eq_true rfl) ⟨Nat.le_of_ble_eq_true rfl, Nat.le_of_ble_eq_true rfl⟩ ?_
  rintro _ h1 ⟨rfl, kA, k1, kf⟩
  refine g_stk (st' := [.int (nI n)]) rfl ?_
  refine g_iret dX9_undo_11 rfl (Nat.le_refl _) (Nat.le_refl _) ?_
  exact ⟨rfl, SysAt.undo hS hn hY kA k1 kf⟩

set_option maxHeartbeats 4000000 in
set_option maxRecDepth 100000 in
theorem ct_undo0 (X : Cx) {h : Hp} {A B m : Nat → Nat} {C : Nat → Nat → Nat} {r : Nat → Int32} {tn : Nat} {rows : Nat → Nat → Int32} {tg : Nat → Int32}  (hY : SysAt X h A B m C r 0 rows tn tg) : Ct X mX9_undo 5 0 0 [.ref (m 0)] h (Ex (.int (-2)) h) := by
  obtain ⟨y0, yA, ⟨t, yB⟩, y1, y2, yC, yT, ⟨wd, fp, fr, fc, pl, kd, fi, se, yS⟩, yP, yd, ⟨path, yp⟩, ⟨xs, yl⟩, yst⟩ := id hY
  refine Ct.ofG vX9_undo.1.2.2.1 (Nat.le_of_ble_eq_true rfl) ?_
  show G X RX9 cX9_undo 1 (some .int) "undo" (Rm 5 0 0) (Fm X (Ex (.int (-2)) h) 0 0) 0 0 0 [(0, .ref (m 0))] [] h
  refine g_aload_n dX9_undo_0 (by rfl) (by first | exact isRf_r | exact isRf_n | exact isRf_o | assumption) ?_
  refine g_getf dX9_undo_1 fX9_22 (by first | assumption | (repeat' (first | assumption | exact hu_same | exact Ne.symm (by assumption) | apply hu_n1))) (by rfl) ?_
  refine g_aload_n dX9_undo_4 (by rfl) (by first | exact isRf_r | exact isRf_n | exact isRf_o | assumption) ?_
  refine g_getf dX9_undo_5 fX9_10 (by first | assumption | (repeat' (first | assumption | exact hu_same | exact Ne.symm (by assumption) | apply hu_n1))) (by rfl) ?_
  refine g_cV1x dX9_undo_8 lX9_277 vX0_stepBack (ct_X0_stepBack0 X y1) (by first | assumption | (repeat' (first | assumption | exact hu_same | exact Ne.symm (by assumption) | apply hu_n1))) rfl ⟨Nat.le_of_ble_eq_true rfl, Nat.le_of_ble_eq_true rfl⟩ (Nat.le_of_ble_eq_true rfl) ⟨Nat.le_of_ble_eq_true rfl, Nat.le_of_ble_eq_true rfl⟩ ?_
  refine g_iret dX9_undo_11 rfl (Nat.le_refl _) (Nat.le_refl _) ?_
  exact ⟨rfl, rfl⟩

theorem SysAt.txt {X : Cx} {h h1 : Hp} {A B m : Nat → Nat} {C : Nat → Nat → Nat} {r : Nat → Int32} {n tn tn2 : Nat} {rows : Nat → Nat → Int32} {tg tg2 : Nat → Int32} (hS : SepS A B m C) (k : SysAt X h A B m C r n rows tn tg) (hT : TxtAt X h1 (m 3) (m 4) tn2 tg2) (f : ∀ q, q ≠ m 3 → q ≠ m 4 → h1 q = h q) : SysTo X h h1 A B m C r n rows tn2 tg2 := by
  obtain ⟨s1, s2, s3, s4, s5, s6, s7, s8, s9⟩ := id hS
  obtain ⟨k0, k1, ⟨t, k2⟩, k3, k4, k5, k6, ⟨wd, fp, fr, fc, pl, kd, fi, se, k7⟩, k8, k9, ⟨path, k10⟩, ⟨xs, k11⟩, k12⟩ := k
  have g : ∀ i, i < 24 → i ≠ 3 → i ≠ 4 → h1 (m i) = h (m i) := fun i hi h1 h2 => f _ (fun e => h1 (s9 _ _ hi (by omega) e)) (fun e => h2 (s9 _ _ hi (by omega) e))
  have hh : ∀ (Z : Nat → Nat) (t2 : Nat → Int32), outA Z (m 3) → outA Z (m 4) → HouseAt X h Z t2 → HouseAt X h1 Z t2 := fun Z t2 z1 z2 q => q.kept (fun i hi => f _ (Ne.symm (z1 i hi)) (Ne.symm (z2 i hi)))
  have n4 : ∀ q l (u : Nat → Int32), h q = some (sI l u) → q ≠ m 4 := by
    intro q l u e z
    subst z
    rw [k6.2] at e
    simp [oC, sI] at e
  have st : ∀ q l (u : Nat → Int32), h q = some (sI l u) → h1 q = some (sI l u) := fun q l u e => (f q (ne_bs e k6.1) (n4 q l u e)).trans e
  refine ⟨C, ⟨(g 0 (by omega) (by omega) (by omega)).trans k0, hh _ _ (s8 3 (by omega)).1 (s8 4 (by omega)).1 k1, ⟨t, hh _ _ (s8 3 (by omega)).2.1 (s8 4 (by omega)).2.1 k2⟩, (g 1 (by omega) (by omega) (by omega)).trans k3, (g 2 (by omega) (by omega) (by omega)).trans k4, fun j hj => ?_, hT, ⟨wd, fp, fr, fc, pl, kd, fi, se, (g 5 (by omega) (by omega) (by omega)).trans k7⟩, (g 6 (by omega) (by omega) (by omega)).trans k8, (g 7 (by omega) (by omega) (by omega)).trans k9, ⟨path, (g 8 (by omega) (by omega) (by omega)).trans k10⟩, ⟨xs, fun j hj => (k11 j hj).kept (g _ (by omega) (by omega) (by omega)) (g _ (by omega) (by omega) (by omega)) (g _ (by omega) (by omega) (by omega))⟩, ⟨st _ _ _ k12.1, st _ _ _ k12.2.1, st _ _ _ k12.2.2⟩⟩, hS, fun q hq => hq, fun q hq => f q (hq.2.2.2 3 (by omega)) (hq.2.2.2 4 (by omega))⟩
  obtain ⟨t2, q1, q2⟩ := k5 j hj
  exact ⟨t2, hh _ _ ((s8 3 (by omega)).2.2 j hj) ((s8 4 (by omega)).2.2 j hj) q1, q2⟩

set_option maxHeartbeats 4000000 in
set_option maxRecDepth 100000 in
theorem ct_X9_type (X : Cx) {h : Hp} {A B m : Nat → Nat} {C : Nat → Nat → Nat} {r : Nat → Int32} {n tn : Nat} {rows : Nat → Nat → Int32} {tg : Nat → Int32} {c : Int32}  (hS : SepS A B m C) (hk : TOk tn tg) (hY : SysAt X h A B m C r n rows tn tg) : Ct X mX9_type 1 0 0 [.ref (m 0), .int c] h (fun u h1 => u = some (.int (F_type tn c)) ∧ SysTo X h h1 A B m C r n rows (typN tn c) (typG tn tg c)) := by
  obtain ⟨y0, yA, ⟨t, yB⟩, y1, y2, yC, yT, ⟨wd, fp, fr, fc, pl, kd, fi, se, yS⟩, yP, yd, ⟨path, yp⟩, ⟨xs, yl⟩, yst⟩ := id hY
  have yT0 := yT.1
  refine Ct.ofG vX9_type.1.2.2.1 (Nat.le_of_ble_eq_true rfl) ?_
  show G X RX9 cX9_type 2 (some .int) "type" (Rm 1 0 0) (Fm X (fun u h1 => u = some (.int (F_type tn c)) ∧ SysTo X h h1 A B m C r n rows (typN tn c) (typG tn tg c)) 0 0) 0 0 0 [(0, .ref (m 0)), (1, .int c)] [] h
  refine g_aload_n dX9_type_0 (by rfl) (by first | exact isRf_r | exact isRf_n | exact isRf_o | assumption) ?_
  refine g_getf dX9_type_1 fX9_29 (by first | assumption | (repeat' (first | assumption | exact hu_same | exact Ne.symm (by assumption) | apply hu_n1))) (by rfl) ?_
  refine g_iload_n dX9_type_4 (by rfl) ?_
  refine g_cV1 dX9_type_5 lX9_281 vX7_append (ct_X7_append X hk.1 yT) (by first | assumption | (repeat' (first | assumption | exact hu_same | exact Ne.symm (by assumption) | apply hu_n1))) rfl ⟨Nat.le_of_ble_eq_true rfl, Nat.le_of_ble_eq_true rfl⟩ (Nat.le_of_ble_eq_true rfl) ⟨Nat.le_of_ble_eq_true rfl, Nat.le_of_ble_eq_true rfl⟩ ?_
  rintro _ h1 ⟨rfl, kT, kf⟩
  refine g_stk (st' := [.int (F_type tn c)]) rfl ?_
  refine g_iret dX9_type_8 rfl (Nat.le_refl _) (Nat.le_refl _) ?_
  exact ⟨rfl, SysAt.txt hS hY kT kf⟩

set_option maxHeartbeats 4000000 in
set_option maxRecDepth 100000 in
theorem ct_X9_clearText (X : Cx) {h : Hp} {A B m : Nat → Nat} {C : Nat → Nat → Nat} {r : Nat → Int32} {n tn : Nat} {rows : Nat → Nat → Int32} {tg : Nat → Int32}  (hS : SepS A B m C) (hk : TOk tn tg) (hY : SysAt X h A B m C r n rows tn tg) : Ct X mX9_clearText 1 0 0 [.ref (m 0)] h (fun u h1 => u = some (.int (nI tn)) ∧ SysTo X h h1 A B m C r n rows 0 tg) := by
  obtain ⟨y0, yA, ⟨t, yB⟩, y1, y2, yC, yT, ⟨wd, fp, fr, fc, pl, kd, fi, se, yS⟩, yP, yd, ⟨path, yp⟩, ⟨xs, yl⟩, yst⟩ := id hY
  have yT0 := yT.1
  refine Ct.ofG vX9_clearText.1.2.2.1 (Nat.le_of_ble_eq_true rfl) ?_
  show G X RX9 cX9_clearText 1 (some .int) "clearText" (Rm 1 0 0) (Fm X (fun u h1 => u = some (.int (nI tn)) ∧ SysTo X h h1 A B m C r n rows 0 tg) 0 0) 0 0 0 [(0, .ref (m 0))] [] h
  refine g_aload_n dX9_clearText_0 (by rfl) (by first | exact isRf_r | exact isRf_n | exact isRf_o | assumption) ?_
  refine g_getf dX9_clearText_1 fX9_29 (by first | assumption | (repeat' (first | assumption | exact hu_same | exact Ne.symm (by assumption) | apply hu_n1))) (by rfl) ?_
  refine g_cV0 dX9_clearText_4 lX9_284 vX7_makeEmpty (ct_X7_makeEmpty X yT) (by first | assumption | (repeat' (first | assumption | exact hu_same | exact Ne.symm (by assumption) | apply hu_n1))) rfl ⟨Nat.le_of_ble_eq_true rfl, Nat.le_of_ble_eq_true rfl⟩ (Nat.le_of_ble_eq_true rfl) ⟨Nat.le_of_ble_eq_true rfl, Nat.le_of_ble_eq_true rfl⟩ ?_
  rintro _ h1 ⟨rfl, kT, kf⟩
  refine g_stk (st' := [.int (nI tn)]) rfl ?_
  refine g_iret dX9_clearText_7 rfl (Nat.le_refl _) (Nat.le_refl _) ?_
  exact ⟨rfl, SysAt.txt hS hY kT (fun q q1 _ => kf q q1)⟩
