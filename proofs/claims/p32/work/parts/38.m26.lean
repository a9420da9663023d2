/-- the trial house and the script changed, nothing else -/
theorem SysAt.scr {X : Cx} {h h1 : Hp} {A B m : Nat → Nat} {C : Nat → Nat → Nat} {r r2 : Nat → Int32} {n tn : Nat} {rows : Nat → Nat → Int32} {tg : Nat → Int32} {wd fp fr fc pl kd fi se : Int32} (hS : SepS A B m C) (k : SysAt X h A B m C r n rows tn tg) (hB : HouseAt X h1 B r2) (e : h1 (m 5) = some (ob 5 (scrL wd fp fr fc pl kd fi se))) (f : ∀ q, outA B q → q ≠ m 5 → h1 q = h q) : SysAt X h1 A B m C r n rows tn tg := by
  obtain ⟨s1, s2, s3, s4, s5, s6, s7, s8, s9⟩ := hS
  obtain ⟨k0, k1, ⟨t, k2⟩, k3, k4, k5, k6, ⟨wd0, fp0, fr0, fc0, pl0, kd0, fi0, se0, k7⟩, k8, k9, ⟨path, k10⟩, ⟨xs, k11⟩, k12⟩ := k
  have g : ∀ i, i < 24 → i ≠ 5 → h1 (m i) = h (m i) := fun i hi h5 => f _ (s8 i hi).2.1 (fun e => h5 (s9 _ _ hi (by omega) e))
  have st : ∀ q l (u : Nat → Int32), h q = some (sI l u) → h1 q = some (sI l u) := fun q l u e => (f q (k2.outs e) (ne_bs e k7)).trans e
  refine ⟨(g 0 (by omega) (by omega)).trans k0, k1.kept (fun i hi => f _ (fun j hj e => s4 i j hi hj e) (Ne.symm ((s8 5 (by omega)).1 i hi))), ⟨r2, hB⟩, (g 1 (by omega) (by omega)).trans k3, (g 2 (by omega) (by omega)).trans k4, fun j hj => ?_, ⟨(g 3 (by omega) (by omega)).trans k6.1, (g 4 (by omega) (by omega)).trans k6.2⟩, ⟨wd, fp, fr, fc, pl, kd, fi, se, e⟩, (g 6 (by omega) (by omega)).trans k8, (g 7 (by omega) (by omega)).trans k9, ⟨path, (g 8 (by omega) (by omega)).trans k10⟩, ⟨xs, fun j hj => (k11 j hj).kept (g _ (by omega) (by omega)) (g _ (by omega) (by omega)) (g _ (by omega) (by omega))⟩, ⟨st _ _ _ k12.1, st _ _ _ k12.2.1, st _ _ _ k12.2.2⟩⟩
  obtain ⟨t2, q1, q2⟩ := k5 j hj
  exact ⟨t2, q1.kept (fun i hi => f _ (fun j2 hj2 e => s6 j hj j2 i hj2 hi e.symm) (Ne.symm ((s8 5 (by omega)).2.2 j hj i hi))), q2⟩
def fltA (o : Option (Nat × Int32 × Int32)) (w : Nat) : Int32 := match o with
  | none => -4
  | some (q, y, z) => match w with
    | 0 => nI q
    | 1 => y
    | _ => cond (decide (y = 1)) (-4) z
noncomputable def F_fault (tn : Nat) (tg r : Nat → Int32) (w : Int32) : Int32 := cond (rngB 0 2 w) (fltA (plF tn tg 60 r 0 0).1 (cl w)) (-1)
theorem plF_y {n : Nat} {g : Nat → Int32} : ∀ {f : Nat} {r : Nat → Int32} {p k : Nat} {q : Nat} {y z : Int32}, (plF n g f r p k).1 = some (q, y, z) → y = 1 ∨ y = 2
  | 0, r, p, k, q, y, z, h => by cases h
  | f + 1, r, p, k, q, y, z, h => by
    by_cases hp : p < n
    · cases hr : rdW n g p with
      | none =>
        rw [plF_bad hp hr] at h
        cases h
        exact Or.inl rfl
      | some v =>
        obtain ⟨c, a, b, q2⟩ := v
        by_cases hz : (F_work (cl c) r a b).1 < 0
        · rw [plF_no hp hr hz] at h
          cases h
          exact Or.inr rfl
        · rw [plF_go hp hr hz] at h
          exact plF_y h
    · rw [plF_end hp] at h
      cases h
theorem flt_n {o : Option (Nat × Int32 × Int32)} (hy : ∀ q y z, o = some (q, y, z) → y = 1 ∨ y = 2) (h : fltR o = 0) : o = none := by
  cases o with
  | none => rfl
  | some v =>
    obtain ⟨q, y, z⟩ := v
    exfalso
    have h2 : y = 0 := h
    rcases hy q y z rfl with e | e
    · rw [e] at h2; exact absurd h2 (by decide)
    · rw [e] at h2; exact absurd h2 (by decide)
theorem flt_s {o : Option (Nat × Int32 × Int32)} (h : ¬ fltR o = 0) : ∃ q y z, o = some (q, y, z) ∧ fltR o = y := by
  cases o with
  | none => exact absurd rfl h
  | some v =>
    obtain ⟨q, y, z⟩ := v
    exact ⟨q, y, z, rfl, rfl⟩

set_option maxHeartbeats 4000000 in
set_option maxRecDepth 100000 in
theorem ct_fault0 (X : Cx) {h : Hp} {A B m : Nat → Nat} {C : Nat → Nat → Nat} {r : Nat → Int32} {n tn : Nat} {rows : Nat → Nat → Int32} {tg : Nat → Int32}  (hS : SepS A B m C) (hn : n ≤ 4) (hO : Ok r) (hY : SysAt X h A B m C r n rows tn tg) (hk : TOk tn tg) : Ct X mX9_fault 6 0 0 [.ref (m 0), .int (nI 0)] h (fun u h1 => u = some (.int (fltA (plF tn tg 60 r 0 0).1 0)) ∧ SysTo X h h1 A B m C r n rows tn tg) := by
  obtain ⟨y0, yA, ⟨t, yB⟩, y1, y2, yC, yT, ⟨wd, fp, fr, fc, pl, kd, fi, se, yS⟩, yP, yd, ⟨path, yp⟩, ⟨xs, yl⟩, yst⟩ := id hY
  obtain ⟨s1, s2, s3, s4, s5, s6, s7, s8, s9⟩ := id hS
  have a00 := yA.1
  unfold hobC at a00
  refine Ct.ofG vX9_fault.1.2.2.1 (Nat.le_of_ble_eq_true rfl) ?_
  show G X RX9 cX9_fault 2 (some .int) "fault" (Rm 6 0 0) (Fm X (fun u h1 => u = some (.int (fltA (plF tn tg 60 r 0 0).1 0)) ∧ SysTo X h h1 A B m C r n rows tn tg) 0 0) 0 0 0 [(0, .ref (m 0)), (1, .int (nI 0))] [] h
  refine g_iload_n dX9_fault_0 (by rfl) ?_
  refine g_if_lt (tgt := 9) dX9_fault_1 (by decide) (fun c1 => absurd c1 (by decide)) (fun c1 => ?_)
  refine g_iload_n dX9_fault_4 (by rfl) ?_
  refine g_iconst (v := 2) dX9_fault_5 (by decide) ?_
  refine g_icmp_le (tgt := 11) dX9_fault_6 (by decide) (fun c2 => ?_) (fun c2 => absurd (by decide) c2)
  refine g_aload_n dX9_fault_11 (by rfl) (by first | exact isRf_r | exact isRf_n | exact isRf_o | assumption) ?_
  refine g_getf dX9_fault_12 fX9_16 (by first | assumption | (repeat' (first | assumption | exact hu_same | exact Ne.symm (by assumption) | apply hu_n1))) (by rfl) ?_
  refine g_aload_n dX9_fault_15 (by rfl) (by first | exact isRf_r | exact isRf_n | exact isRf_o | assumption) ?_
  refine g_getf dX9_fault_16 fX9_10 (by first | assumption | (repeat' (first | assumption | exact hu_same | exact Ne.symm (by assumption) | apply hu_n1))) (by rfl) ?_
  have b00 := yB.1
  unfold hobC at b00
  refine g_cV1 dX9_fault_19 lX9_219 vX1_copyFrom (ct_X1_copyFrom X s2 (fun i j hi hj e => s4 j i hj hi e.symm) hO.rb yB yA) (by first | assumption | (repeat' (first | assumption | exact hu_same | exact Ne.symm (by assumption) | apply hu_n1))) rfl ⟨Nat.le_of_ble_eq_true rfl, Nat.le_of_ble_eq_true rfl⟩ (Nat.le_of_ble_eq_true rfl) ⟨Nat.le_of_ble_eq_true rfl, Nat.le_of_ble_eq_true rfl⟩ ?_
  rintro _ h1 ⟨rfl, kB1, f1⟩
  refine g_stk (st' := []) rfl ?_
  have Y1 := SysAt.inB hS hY kB1 f1
  obtain ⟨z0, zA, -, z1, z2, zC, zT, ⟨wd1, fp1, fr1, fc1, pl1, kd1, fi1, se1, zS⟩, -⟩ := id Y1
  have zS0 := zS
  unfold scrL at zS0
  refine g_aload_n dX9_fault_22 (by rfl) (by first | exact isRf_r | exact isRf_n | exact isRf_o | assumption) ?_
  refine g_getf dX9_fault_23 fX9_36 (by first | assumption | (repeat' (first | assumption | exact hu_same | exact Ne.symm (by assumption) | apply hu_n1))) (by rfl) ?_
  refine g_aload_n dX9_fault_26 (by rfl) (by first | exact isRf_r | exact isRf_n | exact isRf_o | assumption) ?_
  refine g_getf dX9_fault_27 fX9_29 (by first | assumption | (repeat' (first | assumption | exact hu_same | exact Ne.symm (by assumption) | apply hu_n1))) (by rfl) ?_
  refine g_aload_n dX9_fault_30 (by rfl) (by first | exact isRf_r | exact isRf_n | exact isRf_o | assumption) ?_
  refine g_getf dX9_fault_31 fX9_16 (by first | assumption | (repeat' (first | assumption | exact hu_same | exact Ne.symm (by assumption) | apply hu_n1))) (by rfl) ?_
  refine g_cV2 dX9_fault_34 lX9_287 vX5_doAll (ct_X5_doAll X s2 hO kB1 hk zT (s8 3 (by omega)).2.1 (s8 4 (by omega)).2.1 (s8 5 (by omega)).2.1 zS) (by first | assumption | (repeat' (first | assumption | exact hu_same | exact Ne.symm (by assumption) | apply hu_n1))) rfl ⟨Nat.le_of_ble_eq_true rfl, Nat.le_of_ble_eq_true rfl⟩ (Nat.le_of_ble_eq_true rfl) ⟨Nat.le_of_ble_eq_true rfl, Nat.le_of_ble_eq_true rfl⟩ ?_
  rintro _ h2 ⟨rfl, ⟨fp2, fc2, pl2, kd2, fi2, se2, k5, kfl⟩, kB2, f2⟩
  refine g_stk (st' := []) rfl ?_
  have Y2 := SysAt.scr hS Y1 kB2 k5 f2
  obtain ⟨x0, xA, -, x1, x2, xC, xT, -, -⟩ := id Y2
  have k50 := k5
  unfold scrL at k50
  refine g_aload_n dX9_fault_37 (by rfl) (by first | exact isRf_r | exact isRf_n | exact isRf_o | assumption) ?_
  refine g_getf dX9_fault_38 fX9_36 (by first | assumption | (repeat' (first | assumption | exact hu_same | exact Ne.symm (by assumption) | apply hu_n1))) (by rfl) ?_
  refine g_cV0x dX9_fault_41 lX9_291 vX5_hasFault (ct_X5_hasFault X k5) (by first | assumption | (repeat' (first | assumption | exact hu_same | exact Ne.symm (by assumption) | apply hu_n1))) rfl ⟨Nat.le_of_ble_eq_true rfl, Nat.le_of_ble_eq_true rfl⟩ (Nat.le_of_ble_eq_true rfl) ⟨Nat.le_of_ble_eq_true rfl, Nat.le_of_ble_eq_true rfl⟩ ?_
  refine g_if_ne (tgt := 50) dX9_fault_44 (by decide) (fun c3 => ?_) (fun c3 => ?_)
  · skip
    obtain ⟨q, y, z, eo, ey⟩ := flt_s (bI_d1 _ c3)
    obtain ⟨e1, e2⟩ := kfl q y z eo
    refine g_iload_n dX9_fault_50 (by rfl) ?_
    refine g_lookup (tgt := 76) (off := 25) dX9_fault_51 (by decide) (by decide) (by decide) ?_
    refine g_aload_n dX9_fault_76 (by rfl) (by first | exact isRf_r | exact isRf_n | exact isRf_o | assumption) ?_
    refine g_getf dX9_fault_77 fX9_36 (by first | assumption | (repeat' (first | assumption | exact hu_same | exact Ne.symm (by assumption) | apply hu_n1))) (by rfl) ?_
    refine g_getf dX9_fault_80 fX9_294 (by first | assumption | (repeat' (first | assumption | exact hu_same | exact Ne.symm (by assumption) | apply hu_n1))) (by rfl) ?_
    refine g_iret dX9_fault_83 rfl (Nat.le_refl _) (Nat.le_refl _) ?_
    rw [eo, e1]
    exact ⟨rfl, C, Y2, hS, fun q hq => hq, fun q hq => (f2 q hq.2.1 (hq.2.2.2 5 (by omega))).trans (f1 q hq.2.1)⟩
  · skip
    have hnone : (plF tn tg 60 r 0 0).1 = none := flt_n (fun q y z e => plF_y e) (nn (bI_d0 _ c3))
    refine g_bipush (v := (-4)) dX9_fault_47 (by decide) ?_
    refine g_iret dX9_fault_49 rfl (Nat.le_refl _) (Nat.le_refl _) ?_
    rw [hnone]
    exact ⟨rfl, C, Y2, hS, fun q hq => hq, fun q hq => (f2 q hq.2.1 (hq.2.2.2 5 (by omega))).trans (f1 q hq.2.1)⟩

set_option maxHeartbeats 4000000 in
set_option maxRecDepth 100000 in
theorem ct_fault1 (X : Cx) {h : Hp} {A B m : Nat → Nat} {C : Nat → Nat → Nat} {r : Nat → Int32} {n tn : Nat} {rows : Nat → Nat → Int32} {tg : Nat → Int32}  (hS : SepS A B m C) (hn : n ≤ 4) (hO : Ok r) (hY : SysAt X h A B m C r n rows tn tg) (hk : TOk tn tg) : Ct X mX9_fault 6 0 0 [.ref (m 0), .int (nI 1)] h (fun u h1 => u = some (.int (fltA (plF tn tg 60 r 0 0).1 1)) ∧ SysTo X h h1 A B m C r n rows tn tg) := by
  obtain ⟨y0, yA, ⟨t, yB⟩, y1, y2, yC, yT, ⟨wd, fp, fr, fc, pl, kd, fi, se, yS⟩, yP, yd, ⟨path, yp⟩, ⟨xs, yl⟩, yst⟩ := id hY
  obtain ⟨s1, s2, s3, s4, s5, s6, s7, s8, s9⟩ := id hS
  have a00 := yA.1
  unfold hobC at a00
  refine Ct.ofG vX9_fault.1.2.2.1 (Nat.le_of_ble_eq_true rfl) ?_
  show G X RX9 cX9_fault 2 (some .int) "fault" (Rm 6 0 0) (Fm X (fun u h1 => u = some (.int (fltA (plF tn tg 60 r 0 0).1 1)) ∧ SysTo X h h1 A B m C r n rows tn tg) 0 0) 0 0 0 [(0, .ref (m 0)), (1, .int (nI 1))] [] h
  refine g_iload_n dX9_fault_0 (by rfl) ?_
  refine g_if_lt (tgt := 9) dX9_fault_1 (by decide) (fun c1 => absurd c1 (by decide)) (fun c1 => ?_)
  refine g_iload_n dX9_fault_4 (by rfl) ?_
  refine g_iconst (v := 2) dX9_fault_5 (by decide) ?_
  refine g_icmp_le (tgt := 11) dX9_fault_6 (by decide) (fun c2 => ?_) (fun c2 => absurd (by decide) c2)
  refine g_aload_n dX9_fault_11 (by rfl) (by first | exact isRf_r | exact isRf_n | exact isRf_o | assumption) ?_
  refine g_getf dX9_fault_12 fX9_16 (by first | assumption | (repeat' (first | assumption | exact hu_same | exact Ne.symm (by assumption) | apply hu_n1))) (by rfl) ?_
  refine g_aload_n dX9_fault_15 (by rfl) (by first | exact isRf_r | exact isRf_n | exact isRf_o | assumption) ?_
  refine g_getf dX9_fault_16 fX9_10 (by first | assumption | (repeat' (first | assumption | exact hu_same | exact Ne.symm (by assumption) | apply hu_n1))) (by rfl) ?_
  have b00 := yB.1
  unfold hobC at b00
  refine g_cV1 dX9_fault_19 lX9_219 vX1_copyFrom (ct_X1_copyFrom X s2 (fun i j hi hj e => s4 j i hj hi e.symm) hO.rb yB yA) (by first | assumption | (repeat' (first | assumption | exact hu_same | exact Ne.symm (by assumption) | apply hu_n1))) rfl ⟨Nat.le_of_ble_eq_true rfl, Nat.le_of_ble_eq_true rfl⟩ (Nat.le_of_ble_eq_true rfl) ⟨Nat.le_of_ble_eq_true rfl, Nat.le_of_ble_eq_true rfl⟩ ?_
  rintro _ h1 ⟨rfl, kB1, f1⟩
  refine g_stk (st' := []) rfl ?_
  have Y1 := SysAt.inB hS hY kB1 f1
  obtain ⟨z0, zA, -, z1, z2, zC, zT, ⟨wd1, fp1, fr1, fc1, pl1, kd1, fi1, se1, zS⟩, -⟩ := id Y1
  have zS0 := zS
  unfold scrL at zS0
  refine g_aload_n dX9_fault_22 (by rfl) (by first | exact isRf_r | exact isRf_n | exact isRf_o | assumption) ?_
  refine g_getf dX9_fault_23 fX9_36 (by first | assumption | (repeat' (first | assumption | exact hu_same | exact Ne.symm (by assumption) | apply hu_n1))) (by rfl) ?_
  refine g_aload_n dX9_fault_26 (by rfl) (by first | exact isRf_r | exact isRf_n | exact isRf_o | assumption) ?_
  refine g_getf dX9_fault_27 fX9_29 (by first | assumption | (repeat' (first | assumption | exact hu_same | exact Ne.symm (by assumption) | apply hu_n1))) (by rfl) ?_
  refine g_aload_n dX9_fault_30 (by rfl) (by first | exact isRf_r | exact isRf_n | exact isRf_o | assumption) ?_
  refine g_getf dX9_fault_31 fX9_16 (by first | assumption | (repeat' (first | assumption | exact hu_same | exact Ne.symm (by assumption) | apply hu_n1))) (by rfl) ?_
  refine g_cV2 dX9_fault_34 lX9_287 vX5_doAll (ct_X5_doAll X s2 hO kB1 hk zT (s8 3 (by omega)).2.1 (s8 4 (by omega)).2.1 (s8 5 (by omega)).2.1 zS) (by first | assumption | (repeat' (first | assumption | exact hu_same | exact Ne.symm (by assumption) | apply hu_n1))) rfl ⟨Nat.le_of_ble_eq_true rfl, Nat.le_of_ble_eq_true rfl⟩ (Nat.le_of_ble_eq_true rfl) ⟨Nat.le_of_ble_eq_true rfl, Nat.le_of_ble_eq_true rfl⟩ ?_
  rintro _ h2 ⟨rfl, ⟨fp2, fc2, pl2, kd2, fi2, se2, k5, kfl⟩, kB2, f2⟩
  refine g_stk (st' := []) rfl ?_
  have Y2 := SysAt.scr hS Y1 kB2 k5 f2
  obtain ⟨x0, xA, -, x1, x2, xC, xT, -, -⟩ := id Y2
  have k50 := k5
  unfold scrL at k50
  refine g_aload_n dX9_fault_37 (by rfl) (by first | exact isRf_r | exact isRf_n | exact isRf_o | assumption) ?_
  refine g_getf dX9_fault_38 fX9_36 (by first | assumption | (repeat' (first | assumption | exact hu_same | exact Ne.symm (by assumption) | apply hu_n1))) (by rfl) ?_
  refine g_cV0x dX9_fault_41 lX9_291 vX5_hasFault (ct_X5_hasFault X k5) (by first | assumption | (repeat' (first | assumption | exact hu_same | exact Ne.symm (by assumption) | apply hu_n1))) rfl ⟨Nat.le_of_ble_eq_true rfl, Nat.le_of_ble_eq_true rfl⟩ (Nat.le_of_ble_eq_true rfl) ⟨Nat.le_of_ble_eq_true rfl, Nat.le_of_ble_eq_true rfl⟩ ?_
  refine g_if_ne (tgt := 50) dX9_fault_44 (by decide) (fun c3 => ?_) (fun c3 => ?_)
  · skip
    obtain ⟨q, y, z, eo, ey⟩ := flt_s (bI_d1 _ c3)
    obtain ⟨e1, e2⟩ := kfl q y z eo
    refine g_iload_n dX9_fault_50 (by rfl) ?_
    refine g_lookup (tgt := 84) (off := 33) dX9_fault_51 (by decide) (by decide) (by decide) ?_
    refine g_aload_n dX9_fault_84 (by rfl) (by first | exact isRf_r | exact isRf_n | exact isRf_o | assumption) ?_
    refine g_getf dX9_fault_85 fX9_36 (by first | assumption | (repeat' (first | assumption | exact hu_same | exact Ne.symm (by assumption) | apply hu_n1))) (by rfl) ?_
    refine g_getf dX9_fault_88 fX9_297 (by first | assumption | (repeat' (first | assumption | exact hu_same | exact Ne.symm (by assumption) | apply hu_n1))) (by rfl) ?_
    refine g_iret dX9_fault_91 rfl (Nat.le_refl _) (Nat.le_refl _) ?_
    rw [ey, eo]
    exact ⟨rfl, C, Y2, hS, fun q hq => hq, fun q hq => (f2 q hq.2.1 (hq.2.2.2 5 (by omega))).trans (f1 q hq.2.1)⟩
  · skip
    have hnone : (plF tn tg 60 r 0 0).1 = none := flt_n (fun q y z e => plF_y e) (nn (bI_d0 _ c3))
    refine g_bipush (v := (-4)) dX9_fault_47 (by decide) ?_
    refine g_iret dX9_fault_49 rfl (Nat.le_refl _) (Nat.le_refl _) ?_
    rw [hnone]
    exact ⟨rfl, C, Y2, hS, fun q hq => hq, fun q hq => (f2 q hq.2.1 (hq.2.2.2 5 (by omega))).trans (f1 q hq.2.1)⟩

set_option maxHeartbeats 4000000 in
set_option maxRecDepth 100000 in
theorem ct_fault2 (X : Cx) {h : Hp} {A B m : Nat → Nat} {C : Nat → Nat → Nat} {r : Nat → Int32} {n tn : Nat} {rows : Nat → Nat → Int32} {tg : Nat → Int32}  (hS : SepS A B m C) (hn : n ≤ 4) (hO : Ok r) (hY : SysAt X h A B m C r n rows tn tg) (hk : TOk tn tg) : Ct X mX9_fault 6 0 0 [.ref (m 0), .int (nI 2)] h (fun u h1 => u = some (.int (fltA (plF tn tg 60 r 0 0).1 2)) ∧ SysTo X h h1 A B m C r n rows tn tg) := by
  obtain ⟨y0, yA, ⟨t, yB⟩, y1, y2, yC, yT, ⟨wd, fp, fr, fc, pl, kd, fi, se, yS⟩, yP, yd, ⟨path, yp⟩, ⟨xs, yl⟩, yst⟩ := id hY
  obtain ⟨s1, s2, s3, s4, s5, s6, s7, s8, s9⟩ := id hS
  have a00 := yA.1
  unfold hobC at a00
  refine Ct.ofG vX9_fault.1.2.2.1 (Nat.le_of_ble_eq_true rfl) ?_
  show G X RX9 cX9_fault 2 (some .int) "fault" (Rm 6 0 0) (Fm X (fun u h1 => u = some (.int (fltA (plF tn tg 60 r 0 0).1 2)) ∧ SysTo X h h1 A B m C r n rows tn tg) 0 0) 0 0 0 [(0, .ref (m 0)), (1, .int (nI 2))] [] h
  refine g_iload_n dX9_fault_0 (by rfl) ?_
  refine g_if_lt (tgt := 9) dX9_fault_1 (by decide) (fun c1 => absurd c1 (by decide)) (fun c1 => ?_)
  refine g_iload_n dX9_fault_4 (by rfl) ?_
  refine g_iconst (v := 2) dX9_fault_5 (by decide) ?_
  refine g_icmp_le (tgt := 11) dX9_fault_6 (by decide) (fun c2 => ?_) (fun c2 => absurd (by decide) c2)
  refine g_aload_n dX9_fault_11 (by rfl) (by first | exact isRf_r | exact isRf_n | exact isRf_o | assumption) ?_
  refine g_getf dX9_fault_12 fX9_16 (by first | assumption | (repeat' (first | assumption | exact hu_same | exact Ne.symm (by assumption) | apply hu_n1))) (by rfl) ?_
  refine g_aload_n dX9_fault_15 (by rfl) (by first | exact isRf_r | exact isRf_n | exact isRf_o | assumption) ?_
  refine g_getf dX9_fault_16 fX9_10 (by first | assumption | (repeat' (first | assumption | exact hu_same | exact Ne.symm (by assumption) | apply hu_n1))) (by rfl) ?_
  have b00 := yB.1
  unfold hobC at b00
  refine g_cV1 dX9_fault_19 lX9_219 vX1_copyFrom (ct_X1_copyFrom X s2 (fun i j hi hj e => s4 j i hj hi e.symm) hO.rb yB yA) (by first | assumption | (repeat' (first | assumption | exact hu_same | exact Ne.symm (by assumption) | apply hu_n1))) rfl ⟨Nat.le_of_ble_eq_true rfl, Nat.le_of_ble_eq_true rfl⟩ (Nat.le_of_ble_eq_true rfl) ⟨Nat.le_of_ble_eq_true rfl, Nat.le_of_ble_eq_true rfl⟩ ?_
  rintro _ h1 ⟨rfl, kB1, f1⟩
  refine g_stk (st' := []) rfl ?_
  have Y1 := SysAt.inB hS hY kB1 f1
  obtain ⟨z0, zA, -, z1, z2, zC, zT, ⟨wd1, fp1, fr1, fc1, pl1, kd1, fi1, se1, zS⟩, -⟩ := id Y1
  have zS0 := zS
  unfold scrL at zS0
  refine g_aload_n dX9_fault_22 (by rfl) (by first | exact isRf_r | exact isRf_n | exact isRf_o | assumption) ?_
  refine g_getf dX9_fault_23 fX9_36 (by first | assumption | (repeat' (first | assumption | exact hu_same | exact Ne.symm (by assumption) | apply hu_n1))) (by rfl) ?_
  refine g_aload_n dX9_fault_26 (by rfl) (by first | exact isRf_r | exact isRf_n | exact isRf_o | assumption) ?_
  refine g_getf dX9_fault_27 fX9_29 (by first | assumption | (repeat' (first | assumption | exact hu_same | exact Ne.symm (by assumption) | apply hu_n1))) (by rfl) ?_
  refine g_aload_n dX9_fault_30 (by rfl) (by first | exact isRf_r | exact isRf_n | exact isRf_o | assumption) ?_
  refine g_getf dX9_fault_31 fX9_16 (by first | assumption | (repeat' (first | assumption | exact hu_same | exact Ne.symm (by assumption) | apply hu_n1))) (by rfl) ?_
  refine g_cV2 dX9_fault_34 lX9_287 vX5_doAll (ct_X5_doAll X s2 hO kB1 hk zT (s8 3 (by omega)).2.1 (s8 4 (by omega)).2.1 (s8 5 (by omega)).2.1 zS) (by first | assumption | (repeat' (first | assumption | exact hu_same | exact Ne.symm (by assumption) | apply hu_n1))) rfl ⟨Nat.le_of_ble_eq_true rfl, Nat.le_of_ble_eq_true rfl⟩ (Nat.le_of_ble_eq_true rfl) ⟨Nat.le_of_ble_eq_true rfl, Nat.le_of_ble_eq_true rfl⟩ ?_
  rintro _ h2 ⟨rfl, ⟨fp2, fc2, pl2, kd2, fi2, se2, k5, kfl⟩, kB2, f2⟩
  refine g_stk (st' := []) rfl ?_
  have Y2 := SysAt.scr hS Y1 kB2 k5 f2
  obtain ⟨x0, xA, -, x1, x2, xC, xT, -, -⟩ := id Y2
  have k50 := k5
  unfold scrL at k50
  refine g_aload_n dX9_fault_37 (by rfl) (by first | exact isRf_r | exact isRf_n | exact isRf_o | assumption) ?_
  refine g_getf dX9_fault_38 fX9_36 (by first | assumption | (repeat' (first | assumption | exact hu_same | exact Ne.symm (by assumption) | apply hu_n1))) (by rfl) ?_
  refine g_cV0x dX9_fault_41 lX9_291 vX5_hasFault (ct_X5_hasFault X k5) (by first | assumption | (repeat' (first | assumption | exact hu_same | exact Ne.symm (by assumption) | apply hu_n1))) rfl ⟨Nat.le_of_ble_eq_true rfl, Nat.le_of_ble_eq_true rfl⟩ (Nat.le_of_ble_eq_true rfl) ⟨Nat.le_of_ble_eq_true rfl, Nat.le_of_ble_eq_true rfl⟩ ?_
  refine g_if_ne (tgt := 50) dX9_fault_44 (by decide) (fun c3 => ?_) (fun c3 => ?_)
  · skip
    obtain ⟨q, y, z, eo, ey⟩ := flt_s (bI_d1 _ c3)
    obtain ⟨e1, e2⟩ := kfl q y z eo
    refine g_iload_n dX9_fault_50 (by rfl) ?_
    refine g_lookup (tgt := 92) (off := 41) dX9_fault_51 (by decide) (by decide) (by decide) ?_
    refine g_aload_n dX9_fault_92 (by rfl) (by first | exact isRf_r | exact isRf_n | exact isRf_o | assumption) ?_
    refine g_getf dX9_fault_93 fX9_36 (by first | assumption | (repeat' (first | assumption | exact hu_same | exact Ne.symm (by assumption) | apply hu_n1))) (by rfl) ?_
    refine g_getf dX9_fault_96 fX9_297 (by first | assumption | (repeat' (first | assumption | exact hu_same | exact Ne.symm (by assumption) | apply hu_n1))) (by rfl) ?_
    refine g_iconst (v := 1) dX9_fault_99 (by decide) ?_
    refine g_icmp_ne (tgt := 108) dX9_fault_100 (by decide) (fun c4 => ?_) (fun c4 => ?_)
    · skip
      have hy1 : ¬ y = 1 := fun e => c4 (ey.trans e)
      refine g_aload_n dX9_fault_108 (by rfl) (by first | exact isRf_r | exact isRf_n | exact isRf_o | assumption) ?_
      refine g_getf dX9_fault_109 fX9_36 (by first | assumption | (repeat' (first | assumption | exact hu_same | exact Ne.symm (by assumption) | apply hu_n1))) (by rfl) ?_
      refine g_getf dX9_fault_112 fX9_300 (by first | assumption | (repeat' (first | assumption | exact hu_same | exact Ne.symm (by assumption) | apply hu_n1))) (by rfl) ?_
      refine g_iret dX9_fault_115 rfl (Nat.le_refl _) (Nat.le_refl _) ?_
      first
        | (have ez : fltA (plF tn tg 60 r 0 0).1 2 = -4 := by
             rw [eo]
             show cond (decide (y = 1)) _ _ = _
             rw [decide_eq_true hy1]
             rfl
           rw [ez]
           exact ⟨rfl, C, Y2, hS, fun q hq => hq, fun q hq => (f2 q hq.2.1 (hq.2.2.2 5 (by omega))).trans (f1 q hq.2.1)⟩)
        | (have ez : fltA (plF tn tg 60 r 0 0).1 2 = z := by
             rw [eo]
             show cond (decide (y = 1)) _ _ = _
             rw [decide_eq_false hy1]
             rfl
           rw [ez, e2]
           exact ⟨rfl, C, Y2, hS, fun q hq => hq, fun q hq => (f2 q hq.2.1 (hq.2.2.2 5 (by omega))).trans (f1 q hq.2.1)⟩)
    · skip
      have hy1 : y = 1 := ey.symm.trans c4
      refine g_bipush (v := (-4)) dX9_fault_103 (by decide) ?_
      refine g_goto (tgt := 115) dX9_fault_105 (by decide) ?_
      refine g_iret dX9_fault_115 rfl (Nat.le_refl _) (Nat.le_refl _) ?_
      first
        | (have ez : fltA (plF tn tg 60 r 0 0).1 2 = -4 := by
             rw [eo]
             show cond (decide (y = 1)) _ _ = _
             rw [decide_eq_true hy1]
             rfl
           rw [ez]
           exact ⟨rfl, C, Y2, hS, fun q hq => hq, fun q hq => (f2 q hq.2.1 (hq.2.2.2 5 (by omega))).trans (f1 q hq.2.1)⟩)
        | (have ez : fltA (plF tn tg 60 r 0 0).1 2 = z := by
             rw [eo]
             show cond (decide (y = 1)) _ _ = _
             rw [decide_eq_false hy1]
             rfl
           rw [ez, e2]
           exact ⟨rfl, C, Y2, hS, fun q hq => hq, fun q hq => (f2 q hq.2.1 (hq.2.2.2 5 (by omega))).trans (f1 q hq.2.1)⟩)
  · skip
    have hnone : (plF tn tg 60 r 0 0).1 = none := flt_n (fun q y z e => plF_y e) (nn (bI_d0 _ c3))
    refine g_bipush (v := (-4)) dX9_fault_47 (by decide) ?_
    refine g_iret dX9_fault_49 rfl (Nat.le_refl _) (Nat.le_refl _) ?_
    rw [hnone]
    exact ⟨rfl, C, Y2, hS, fun q hq => hq, fun q hq => (f2 q hq.2.1 (hq.2.2.2 5 (by omega))).trans (f1 q hq.2.1)⟩

set_option maxHeartbeats 4000000 in
set_option maxRecDepth 100000 in
theorem ct_faultN (X : Cx) {h : Hp} {A B m : Nat → Nat} {C : Nat → Nat → Nat} {r : Nat → Int32} {n tn : Nat} {rows : Nat → Nat → Int32} {tg : Nat → Int32} {w : Int32}  (hS : SepS A B m C) (hY : SysAt X h A B m C r n rows tn tg) (hw : rngB 0 2 w = false) : Ct X mX9_fault 6 0 0 [.ref (m 0), .int w] h (fun u h1 => u = some (.int (-1)) ∧ SysTo X h h1 A B m C r n rows tn tg) := by
  refine Ct.ofG vX9_fault.1.2.2.1 (Nat.le_of_ble_eq_true rfl) ?_
  show G X RX9 cX9_fault 2 (some .int) "fault" (Rm 6 0 0) (Fm X (fun u h1 => u = some (.int (-1)) ∧ SysTo X h h1 A B m C r n rows tn tg) 0 0) 0 0 0 [(0, .ref (m 0)), (1, .int w)] [] h
  refine g_iload_n dX9_fault_0 (by rfl) ?_
  refine g_if_lt (tgt := 9) dX9_fault_1 (by decide) (fun c1 => ?_) (fun c1 => ?_)
  · skip
    refine g_iconst (v := (-1)) dX9_fault_9 (by decide) ?_
    refine g_iret dX9_fault_10 rfl (Nat.le_refl _) (Nat.le_refl _) ?_
    exact ⟨rfl, C, hY, hS, fun q hq => hq, fun q _ => rfl⟩
  · skip
    refine g_iload_n dX9_fault_4 (by rfl) ?_
    refine g_iconst (v := 2) dX9_fault_5 (by decide) ?_
    refine g_icmp_le (tgt := 11) dX9_fault_6 (by decide) (fun c2 => absurd (show rngB 0 2 w = true from rngB_t (i_nlt c1) c2) (by rw [hw]; decide)) (fun c2 => ?_)
    refine g_iconst (v := (-1)) dX9_fault_9 (by decide) ?_
    refine g_iret dX9_fault_10 rfl (Nat.le_refl _) (Nat.le_refl _) ?_
    exact ⟨rfl, C, hY, hS, fun q hq => hq, fun q _ => rfl⟩

theorem ct_X9_fault (X : Cx) {h : Hp} {A B m : Nat → Nat} {C : Nat → Nat → Nat} {r : Nat → Int32} {n tn : Nat} {rows : Nat → Nat → Int32} {tg : Nat → Int32} {w : Int32} (hS : SepS A B m C) (hn : n ≤ 4) (hO : Ok r) (hY : SysAt X h A B m C r n rows tn tg) (hk : TOk tn tg) : Ct X mX9_fault 6 0 0 [.ref (m 0), .int w] h (fun u h1 => u = some (.int (F_fault tn tg r w)) ∧ SysTo X h h1 A B m C r n rows tn tg) := by
  unfold F_fault
  cases hw : rngB 0 2 w with
  | false => exact ct_faultN X hS hY hw
  | true =>
    have y2 : (2 : Int32).toInt = 2 := by decide
    have hb := rng_b hw
    rw [z_toInt, y2] at hb
    obtain ⟨j, hj, rfl⟩ := i_sm (n := 3) hb.1 (by omega) (by omega)
    rw [cl_nI (by omega)]
    rcases (show j = 0 ∨ j = 1 ∨ j = 2 by omega) with rfl | rfl | rfl
    · exact ct_fault0 X hS hn hO hY hk
    · exact ct_fault1 X hS hn hO hY hk
    · exact ct_fault2 X hS hn hO hY hk

noncomputable def F_play (tn : Nat) (tg r : Nat → Int32) : Int32 × (Nat → Int32) := match (plF tn tg 60 r 0 0).1 with
  | none => (nI (plF tn tg 60 r 0 0).2.2, (plF tn tg 60 r 0 0).2.1)
  | some _ => (-2, r)
theorem plF_k {n : Nat} {g : Nat → Int32} : ∀ {f : Nat} {r : Nat → Int32} {p k : Nat}, (plF n g f r p k).2.2 ≤ k + f
  | 0, r, p, k => Nat.le_refl k
  | f + 1, r, p, k => by
    by_cases hp : p < n
    · cases hr : rdW n g p with
      | none =>
        rw [plF_bad hp hr]
        show k ≤ _
        omega
      | some v =>
        obtain ⟨c, a, b, q2⟩ := v
        by_cases hz : (F_work (cl c) r a b).1 < 0
        · rw [plF_no hp hr hz]
          show k ≤ _
          omega
        · rw [plF_go hp hr hz]
          have z := plF_k (n := n) (g := g) (f := f) (r := (F_work (cl c) r a b).2) (p := q2) (k := k + 1)
          omega
    · rw [plF_end hp]
      show k ≤ _
      omega
theorem Ok_pl {n : Nat} {g : Nat → Int32} : ∀ {f : Nat} {r : Nat → Int32} {p k : Nat}, Ok r → Ok (plF n g f r p k).2.1
  | 0, r, p, k, h => h
  | f + 1, r, p, k, h => by
    by_cases hp : p < n
    · cases hr : rdW n g p with
      | none =>
        rw [plF_bad hp hr]
        exact h
      | some v =>
        obtain ⟨c, a, b, q2⟩ := v
        by_cases hz : (F_work (cl c) r a b).1 < 0
        · rw [plF_no hp hr hz]
          exact Ok_work h
        · rw [plF_go hp hr hz]
          exact Ok_pl (Ok_work h)
    · rw [plF_end hp]
      exact h

set_option maxHeartbeats 4000000 in
set_option maxRecDepth 100000 in
theorem ct_X9_play (X : Cx) {h : Hp} {A B m : Nat → Nat} {C : Nat → Nat → Nat} {r : Nat → Int32} {n tn : Nat} {rows : Nat → Nat → Int32} {tg : Nat → Int32}  (hS : SepS A B m C) (hn : n ≤ 4) (hO : Ok r) (hY : SysAt X h A B m C r n rows tn tg) (hk : TOk tn tg) : Ct X mX9_play 6 0 0 [.ref (m 0)] h (fun u h1 => u = some (.int (F_play tn tg r).1) ∧ SysTo X h h1 A B m C (F_play tn tg r).2 (sysN (F_play tn tg r).1 n) (sysR (F_play tn tg r).1 n r rows) tn tg) := by
  obtain ⟨y0, yA, ⟨t, yB⟩, y1, y2, yC, yT, ⟨wd, fp, fr, fc, pl, kd, fi, se, yS⟩, yP, yd, ⟨path, yp⟩, ⟨xs, yl⟩, yst⟩ := id hY
  obtain ⟨s1, s2, s3, s4, s5, s6, s7, s8, s9⟩ := id hS
  have a00 := yA.1
  unfold hobC at a00
  refine Ct.ofG vX9_play.1.2.2.1 (Nat.le_of_ble_eq_true rfl) ?_
  show G X RX9 cX9_play 1 (some .int) "play" (Rm 6 0 0) (Fm X (fun u h1 => u = some (.int (F_play tn tg r).1) ∧ SysTo X h h1 A B m C (F_play tn tg r).2 (sysN (F_play tn tg r).1 n) (sysR (F_play tn tg r).1 n r rows) tn tg) 0 0) 0 0 0 [(0, .ref (m 0))] [] h
  refine g_aload_n dX9_play_0 (by rfl) (by first | exact isRf_r | exact isRf_n | exact isRf_o | assumption) ?_
  refine g_getf dX9_play_1 fX9_16 (by first | assumption | (repeat' (first | assumption | exact hu_same | exact Ne.symm (by assumption) | apply hu_n1))) (by rfl) ?_
  refine g_aload_n dX9_play_4 (by rfl) (by first | exact isRf_r | exact isRf_n | exact isRf_o | assumption) ?_
  refine g_getf dX9_play_5 fX9_10 (by first | assumption | (repeat' (first | assumption | exact hu_same | exact Ne.symm (by assumption) | apply hu_n1))) (by rfl) ?_
  have b00 := yB.1
  unfold hobC at b00
  refine g_cV1 dX9_play_8 lX9_219 vX1_copyFrom (ct_X1_copyFrom X s2 (fun i j hi hj e => s4 j i hj hi e.symm) hO.rb yB yA) (by first | assumption | (repeat' (first | assumption | exact hu_same | exact Ne.symm (by assumption) | apply hu_n1))) rfl ⟨Nat.le_of_ble_eq_true rfl, Nat.le_of_ble_eq_true rfl⟩ (Nat.le_of_ble_eq_true rfl) ⟨Nat.le_of_ble_eq_true rfl, Nat.le_of_ble_eq_true rfl⟩ ?_
  rintro _ h1 ⟨rfl, kB1, f1⟩
  refine g_stk (st' := []) rfl ?_
  have Y1 := SysAt.inB hS hY kB1 f1
  obtain ⟨z0, zA, -, z1, z2, zC, zT, ⟨wd1, fp1, fr1, fc1, pl1, kd1, fi1, se1, zS⟩, -⟩ := id Y1
  have zS0 := zS
  unfold scrL at zS0
  refine g_aload_n dX9_play_11 (by rfl) (by first | exact isRf_r | exact isRf_n | exact isRf_o | assumption) ?_
  refine g_getf dX9_play_12 fX9_36 (by first | assumption | (repeat' (first | assumption | exact hu_same | exact Ne.symm (by assumption) | apply hu_n1))) (by rfl) ?_
  refine g_aload_n dX9_play_15 (by rfl) (by first | exact isRf_r | exact isRf_n | exact isRf_o | assumption) ?_
  refine g_getf dX9_play_16 fX9_29 (by first | assumption | (repeat' (first | assumption | exact hu_same | exact Ne.symm (by assumption) | apply hu_n1))) (by rfl) ?_
  refine g_aload_n dX9_play_19 (by rfl) (by first | exact isRf_r | exact isRf_n | exact isRf_o | assumption) ?_
  refine g_getf dX9_play_20 fX9_16 (by first | assumption | (repeat' (first | assumption | exact hu_same | exact Ne.symm (by assumption) | apply hu_n1))) (by rfl) ?_
  refine g_cV2 dX9_play_23 lX9_287 vX5_doAll (ct_X5_doAll X s2 hO kB1 hk zT (s8 3 (by omega)).2.1 (s8 4 (by omega)).2.1 (s8 5 (by omega)).2.1 zS) (by first | assumption | (repeat' (first | assumption | exact hu_same | exact Ne.symm (by assumption) | apply hu_n1))) rfl ⟨Nat.le_of_ble_eq_true rfl, Nat.le_of_ble_eq_true rfl⟩ (Nat.le_of_ble_eq_true rfl) ⟨Nat.le_of_ble_eq_true rfl, Nat.le_of_ble_eq_true rfl⟩ ?_
  rintro _ h2 ⟨rfl, ⟨fp2, fc2, pl2, kd2, fi2, se2, k5, kfl⟩, kB2, f2⟩
  refine g_stk (st' := []) rfl ?_
  have Y2 := SysAt.scr hS Y1 kB2 k5 f2
  obtain ⟨x0, xA, -, x1, x2, xC, xT, -, -⟩ := id Y2
  have k50 := k5
  unfold scrL at k50
  refine g_aload_n dX9_play_26 (by rfl) (by first | exact isRf_r | exact isRf_n | exact isRf_o | assumption) ?_
  refine g_getf dX9_play_27 fX9_36 (by first | assumption | (repeat' (first | assumption | exact hu_same | exact Ne.symm (by assumption) | apply hu_n1))) (by rfl) ?_
  refine g_cV0x dX9_play_30 lX9_291 vX5_hasFault (ct_X5_hasFault X k5) (by first | assumption | (repeat' (first | assumption | exact hu_same | exact Ne.symm (by assumption) | apply hu_n1))) rfl ⟨Nat.le_of_ble_eq_true rfl, Nat.le_of_ble_eq_true rfl⟩ (Nat.le_of_ble_eq_true rfl) ⟨Nat.le_of_ble_eq_true rfl, Nat.le_of_ble_eq_true rfl⟩ ?_
  refine g_if_eq (tgt := 39) dX9_play_33 (by decide) (fun c1 => ?_) (fun c1 => ?_)
  · skip
    have hnone : (plF tn tg 60 r 0 0).1 = none := flt_n (fun q y z e => plF_y e) (nn (bI_d0 _ c1))
    have eF : F_play tn tg r = (nI (plF tn tg 60 r 0 0).2.2, (plF tn tg 60 r 0 0).2.1) := by
      unfold F_play
      rw [hnone]
    refine g_aload_n dX9_play_39 (by rfl) (by first | exact isRf_r | exact isRf_n | exact isRf_o | assumption) ?_
    refine g_getf dX9_play_40 fX9_22 (by first | assumption | (repeat' (first | assumption | exact hu_same | exact Ne.symm (by assumption) | apply hu_n1))) (by rfl) ?_
    refine g_aload_n dX9_play_43 (by rfl) (by first | exact isRf_r | exact isRf_n | exact isRf_o | assumption) ?_
    refine g_getf dX9_play_44 fX9_10 (by first | assumption | (repeat' (first | assumption | exact hu_same | exact Ne.symm (by assumption) | apply hu_n1))) (by rfl) ?_
    obtain ⟨tc, kc, -⟩ := xC n (by omega)
    refine g_cV1 dX9_play_47 lX9_47 vX0_noteState (ct_X0_noteState X hn x1 x2 (s3 n (by omega)) (fun i j hi hj e => s5 n (by omega) j i hj hi e.symm) hO.rb kc xA) (by first | assumption | (repeat' (first | assumption | exact hu_same | exact Ne.symm (by assumption) | apply hu_n1))) rfl ⟨Nat.le_of_ble_eq_true rfl, Nat.le_of_ble_eq_true rfl⟩ (Nat.le_of_ble_eq_true rfl) ⟨Nat.le_of_ble_eq_true rfl, Nat.le_of_ble_eq_true rfl⟩ ?_
    rintro _ h3 ⟨rfl, kC3, f3⟩
    refine g_stk (st' := []) rfl ?_
    have Y3 := SysAt.inC hS (by omega) Y2 kC3 f3
    have kB3 : HouseAt X h3 B (plF tn tg 60 r 0 0).2.1 := kB2.kept (fun i hi => f3 _ (fun j hj e => s6 n (by omega) i j hi hj e))
    obtain ⟨w0, wA, -, w1, w2, -⟩ := id Y3
    have wA0 := wA.1
    unfold hobC at wA0
    refine g_aload_n dX9_play_50 (by rfl) (by first | exact isRf_r | exact isRf_n | exact isRf_o | assumption) ?_
    refine g_getf dX9_play_51 fX9_10 (by first | assumption | (repeat' (first | assumption | exact hu_same | exact Ne.symm (by assumption) | apply hu_n1))) (by rfl) ?_
    refine g_aload_n dX9_play_54 (by rfl) (by first | exact isRf_r | exact isRf_n | exact isRf_o | assumption) ?_
    refine g_getf dX9_play_55 fX9_16 (by first | assumption | (repeat' (first | assumption | exact hu_same | exact Ne.symm (by assumption) | apply hu_n1))) (by rfl) ?_
    refine g_cV1 dX9_play_58 lX9_219 vX1_copyFrom (ct_X1_copyFrom X s1 s4 (Ok_pl hO).rb wA kB3) (by first | assumption | (repeat' (first | assumption | exact hu_same | exact Ne.symm (by assumption) | apply hu_n1))) rfl ⟨Nat.le_of_ble_eq_true rfl, Nat.le_of_ble_eq_true rfl⟩ (Nat.le_of_ble_eq_true rfl) ⟨Nat.le_of_ble_eq_true rfl, Nat.le_of_ble_eq_true rfl⟩ ?_
    rintro _ h4 ⟨rfl, kA4, f4⟩
    refine g_stk (st' := []) rfl ?_
    have Y4 := SysAt.inA hS Y3 kA4 f4
    obtain ⟨v0, vA, -, v1, v2, -⟩ := id Y4
    obtain ⟨fs, hfs⟩ := Y4.fs
    have k54 : h4 (m 5) = some (ob 5 (scrL (nI (plF tn tg 60 r 0 0).2.2) fp2 (fltR (plF tn tg 60 r 0 0).1) fc2 pl2 kd2 fi2 se2)) := (f4 _ (s8 5 (by omega)).1).trans ((f3 _ ((s8 5 (by omega)).2.2 n (by omega))).trans k5)
    unfold scrL at k54
    refine g_aload_n dX9_play_61 (by rfl) (by first | exact isRf_r | exact isRf_n | exact isRf_o | assumption) ?_
    refine g_getf dX9_play_62 fX9_22 (by first | assumption | (repeat' (first | assumption | exact hu_same | exact Ne.symm (by assumption) | apply hu_n1))) (by rfl) ?_
    refine g_aload_n dX9_play_65 (by rfl) (by first | exact isRf_r | exact isRf_n | exact isRf_o | assumption) ?_
    refine g_getf dX9_play_66 fX9_36 (by first | assumption | (repeat' (first | assumption | exact hu_same | exact Ne.symm (by assumption) | apply hu_n1))) (by rfl) ?_
    refine g_getf dX9_play_69 fX9_303 (by first | assumption | (repeat' (first | assumption | exact hu_same | exact Ne.symm (by assumption) | apply hu_n1))) (by rfl) ?_
    refine g_cV1 dX9_play_72 lX9_55 vX0_keepNoted (ct_X0_keepNoted X hn v1 v2 hfs) (by first | assumption | (repeat' (first | assumption | exact hu_same | exact Ne.symm (by assumption) | apply hu_n1))) rfl ⟨Nat.le_of_ble_eq_true rfl, Nat.le_of_ble_eq_true rfl⟩ (Nat.le_of_ble_eq_true rfl) ⟨Nat.le_of_ble_eq_true rfl, Nat.le_of_ble_eq_true rfl⟩ ?_
    rintro _ h5 ⟨rfl, hcase⟩
    refine g_stk (st' := [.int (nI (plF tn tg 60 r 0 0).2.2)]) rfl ?_
    refine g_iret dX9_play_75 rfl (Nat.le_refl _) (Nat.le_refl _) ?_
    rw [eF]
    refine ⟨rfl, ?_⟩
    obtain ⟨C2, q1, q2, q3, q4⟩ := SysAt.done (h := h2) hS hn Y2 kC3 f3 kA4 f4 hcase
    exact ⟨C2, q1, q2, q3, fun q hq => (q4 q hq).trans ((f2 q hq.2.1 (hq.2.2.2 5 (by omega))).trans (f1 q hq.2.1))⟩
  · skip
    obtain ⟨q, y, z, eo, ey⟩ := flt_s (bI_d1 _ c1)
    have eF : F_play tn tg r = (-2, r) := by
      unfold F_play
      rw [eo]
    refine g_bipush (v := (-2)) dX9_play_36 (by decide) ?_
    refine g_iret dX9_play_38 rfl (Nat.le_refl _) (Nat.le_refl _) ?_
    rw [eF]
    refine ⟨rfl, ?_⟩
    exact ⟨C, Y2, hS, fun q hq => hq, fun q hq => (f2 q hq.2.1 (hq.2.2.2 5 (by omega))).trans (f1 q hq.2.1)⟩
