theorem MdS.rd {X : Cx} {h h1 : Hp} {M : Nat → Nat} {r s w : Nat → Int32} {n tn : Nat} {rows : Nat → Nat → Int32} {tg : Nat → Int32} {p lt fl : Int32} (k : MdS X h M r s n rows tn tg) (x0 : h1 (M 0) = some (md M n tn p lt fl)) (x6 : h1 (M 6) = some (oI X 2 (nr 2 w))) (xf : ∀ x, x ≠ M 0 → x ≠ M 6 → h1 x = h x) : MdS X h1 M r s n rows tn tg := by
  have ne := fun i (hi : i < 8) (i0 : i ≠ 0) (i6 : i ≠ 6) => xf (M i) (k.ne hi (by omega) i0) (k.ne hi (by omega) i6)
  obtain ⟨kd, -, k1, ⟨g, k2, k2b⟩, k3, k4, ⟨w5, k5⟩, -, w7, k7⟩ := k
  exact ⟨kd, ⟨_, _, _, x0⟩, (ne 1 (by omega) (by omega) (by omega)).trans k1, ⟨g, (ne 2 (by omega) (by omega) (by omega)).trans k2, k2b⟩, (ne 3 (by omega) (by omega) (by omega)).trans k3, (ne 4 (by omega) (by omega) (by omega)).trans k4, ⟨w5, (ne 5 (by omega) (by omega) (by omega)).trans k5⟩, ⟨w, x6⟩, w7, (ne 7 (by omega) (by omega) (by omega)).trans k7⟩
theorem MdS.met {X : Cx} {h : Hp} {M : Nat → Nat} {r s w : Nat → Int32} {n tn : Nat} {rows : Nat → Nat → Int32} {tg : Nat → Int32} (k : MdS X h M r s n rows tn tg) : MdS X (hu h (M 7) (oI X 3 (nr 3 w))) M r s n rows tn tg := by
  have ne := fun i (hi : i < 8) (i7 : i ≠ 7) => k.ne hi (show 7 < 8 by omega) i7
  obtain ⟨kd, ⟨at0, lt, fl, k0⟩, k1, ⟨g, k2, k2b⟩, k3, k4, ⟨w5, k5⟩, ⟨w6, k6⟩, w7, k7⟩ := k
  exact ⟨kd, ⟨at0, lt, fl, hu_n1 (ne 0 (by omega) (by omega)) k0⟩, hu_n1 (ne 1 (by omega) (by omega)) k1, ⟨g, hu_n1 (ne 2 (by omega) (by omega)) k2, k2b⟩, hu_n1 (ne 3 (by omega) (by omega)) k3, hu_n1 (ne 4 (by omega) (by omega)) k4, ⟨w5, hu_n1 (ne 5 (by omega) (by omega)) k5⟩, ⟨w6, hu_n1 (ne 6 (by omega) (by omega)) k6⟩, w, hu_same⟩
theorem workB {kc : Nat} {r : Nat → Int32} {a b : Int32} (h : kcs kc) : F_work kc r a (cond (twoB (nI kc)) b 0) = F_work kc r a b := by
  have e1 : ∀ b, F_work 101 r a b = F_drain r a := fun _ => rfl
  have e2 : ∀ b, F_work 114 r a b = F_rinse r a := fun _ => rfl
  have e3 : ∀ b, F_work 116 r a b = F_take r a := fun _ => rfl
  rcases h with rfl | rfl | rfl | rfl | rfl | rfl
  · rw [show twoB (nI 100) = true by decide, cond_true]
  · rw [e1, e1]
  · rw [show twoB (nI 104) = true by decide, cond_true]
  · rw [e2, e2]
  · rw [show twoB (nI 115) = true by decide, cond_true]
  · rw [e3, e3]

set_option maxHeartbeats 4000000 in
set_option maxRecDepth 100000 in
theorem ct_does_100 (X : Cx) {h : Hp} {M : Nat → Nat} {n tn : Nat} {p fl : Int32} {w r : Nat → Int32}  (hM : MoAt X h (M 0) (M 1) r) (hO : Ok r) (hR : ∀ k, rackN r k ≤ 4) (m0z : h (M 0) = some (md M n tn p (nI 100) fl)) (m6 : h (M 6) = some (oI X 2 (nr 2 w))) : Ct X mX10_does 5 0 0 [.ref (M 0)] h (Ex (.int (F_work 100 r (w 0) (w 1)).1) (hr X h (M 1) (F_work 100 r (w 0) (w 1)).2)) := by
  have m0 := m0z
  unfold md mdl at m0
  refine Ct.ofG vX10_does.1.2.2.1 (Nat.le_of_ble_eq_true rfl) ?_
  show G X RX10 cX10_does 1 (some .int) "does" (Rm 5 0 0) (Fm X (Ex (.int (F_work 100 r (w 0) (w 1)).1) (hr X h (M 1) (F_work 100 r (w 0) (w 1)).2)) 0 0) 0 0 0 [(0, .ref (M 0))] [] h
  refine g_aload_n dX10_does_0 (by rfl) (by first | exact isRf_r | exact isRf_n | exact isRf_o | assumption) ?_
  refine g_getf dX10_does_1 fX10_195 (by first | exact m0 | exact m6) (by rfl) ?_
  refine g_lookup (off := 52) (tgt := 56) dX10_does_4 (by decide) (by decide) (by decide) ?_
  refine g_aload_n dX10_does_56 (by rfl) (by first | exact isRf_r | exact isRf_n | exact isRf_o | assumption) ?_
  refine g_aload_n dX10_does_57 (by rfl) (by first | exact isRf_r | exact isRf_n | exact isRf_o | assumption) ?_
  refine g_getf dX10_does_58 fX10_25 (by first | exact m0 | exact m6) (by rfl) ?_
  refine g_iconst (v := 0) dX10_does_61 (by decide) ?_
  refine g_iaN dX10_does_62 (by first | exact m0 | exact m6) (show 0 < 2 by omega) (by omega) (by rfl) ?_
  rw [nr_lt (show 0 < 2 by omega)]
  refine g_aload_n dX10_does_63 (by rfl) (by first | exact isRf_r | exact isRf_n | exact isRf_o | assumption) ?_
  refine g_getf dX10_does_64 fX10_25 (by first | exact m0 | exact m6) (by rfl) ?_
  refine g_iconst (v := 1) dX10_does_67 (by decide) ?_
  refine g_iaN dX10_does_68 (by first | exact m0 | exact m6) (show 1 < 2 by omega) (by omega) (by rfl) ?_
  rw [nr_lt (show 1 < 2 by omega)]
  refine g_cV2x dX10_does_69 lX10_106 vX10_dips (ct_X10_dips X hM hO) (by first | exact m0 | exact m6) rfl ⟨Nat.le_of_ble_eq_true rfl, Nat.le_of_ble_eq_true rfl⟩ (Nat.le_of_ble_eq_true rfl) ⟨Nat.le_of_ble_eq_true rfl, Nat.le_of_ble_eq_true rfl⟩ ?_
  refine g_iret dX10_does_72 rfl (Nat.le_refl _) (Nat.le_refl _) ?_
  exact Ex.i rfl rfl

set_option maxHeartbeats 4000000 in
set_option maxRecDepth 100000 in
theorem ct_does_104 (X : Cx) {h : Hp} {M : Nat → Nat} {n tn : Nat} {p fl : Int32} {w r : Nat → Int32}  (hM : MoAt X h (M 0) (M 1) r) (hO : Ok r) (hR : ∀ k, rackN r k ≤ 4) (m0z : h (M 0) = some (md M n tn p (nI 104) fl)) (m6 : h (M 6) = some (oI X 2 (nr 2 w))) : Ct X mX10_does 5 0 0 [.ref (M 0)] h (Ex (.int (F_work 104 r (w 0) (w 1)).1) (hr X h (M 1) (F_work 104 r (w 0) (w 1)).2)) := by
  have m0 := m0z
  unfold md mdl at m0
  refine Ct.ofG vX10_does.1.2.2.1 (Nat.le_of_ble_eq_true rfl) ?_
  show G X RX10 cX10_does 1 (some .int) "does" (Rm 5 0 0) (Fm X (Ex (.int (F_work 104 r (w 0) (w 1)).1) (hr X h (M 1) (F_work 104 r (w 0) (w 1)).2)) 0 0) 0 0 0 [(0, .ref (M 0))] [] h
  refine g_aload_n dX10_does_0 (by rfl) (by first | exact isRf_r | exact isRf_n | exact isRf_o | assumption) ?_
  refine g_getf dX10_does_1 fX10_195 (by first | exact m0 | exact m6) (by rfl) ?_
  refine g_lookup (off := 69) (tgt := 73) dX10_does_4 (by decide) (by decide) (by decide) ?_
  refine g_aload_n dX10_does_73 (by rfl) (by first | exact isRf_r | exact isRf_n | exact isRf_o | assumption) ?_
  refine g_aload_n dX10_does_74 (by rfl) (by first | exact isRf_r | exact isRf_n | exact isRf_o | assumption) ?_
  refine g_getf dX10_does_75 fX10_25 (by first | exact m0 | exact m6) (by rfl) ?_
  refine g_iconst (v := 0) dX10_does_78 (by decide) ?_
  refine g_iaN dX10_does_79 (by first | exact m0 | exact m6) (show 0 < 2 by omega) (by omega) (by rfl) ?_
  rw [nr_lt (show 0 < 2 by omega)]
  refine g_aload_n dX10_does_80 (by rfl) (by first | exact isRf_r | exact isRf_n | exact isRf_o | assumption) ?_
  refine g_getf dX10_does_81 fX10_25 (by first | exact m0 | exact m6) (by rfl) ?_
  refine g_iconst (v := 1) dX10_does_84 (by decide) ?_
  refine g_iaN dX10_does_85 (by first | exact m0 | exact m6) (show 1 < 2 by omega) (by omega) (by rfl) ?_
  rw [nr_lt (show 1 < 2 by omega)]
  refine g_cV2x dX10_does_86 lX10_115 vX10_hangsOn (ct_X10_hangsOn X hM hO hR) (by first | exact m0 | exact m6) rfl ⟨Nat.le_of_ble_eq_true rfl, Nat.le_of_ble_eq_true rfl⟩ (Nat.le_of_ble_eq_true rfl) ⟨Nat.le_of_ble_eq_true rfl, Nat.le_of_ble_eq_true rfl⟩ ?_
  refine g_iret dX10_does_89 rfl (Nat.le_refl _) (Nat.le_refl _) ?_
  exact Ex.i rfl rfl

set_option maxHeartbeats 4000000 in
set_option maxRecDepth 100000 in
theorem ct_does_115 (X : Cx) {h : Hp} {M : Nat → Nat} {n tn : Nat} {p fl : Int32} {w r : Nat → Int32}  (hM : MoAt X h (M 0) (M 1) r) (hO : Ok r) (hR : ∀ k, rackN r k ≤ 4) (m0z : h (M 0) = some (md M n tn p (nI 115) fl)) (m6 : h (M 6) = some (oI X 2 (nr 2 w))) : Ct X mX10_does 5 0 0 [.ref (M 0)] h (Ex (.int (F_work 115 r (w 0) (w 1)).1) (hr X h (M 1) (F_work 115 r (w 0) (w 1)).2)) := by
  have m0 := m0z
  unfold md mdl at m0
  refine Ct.ofG vX10_does.1.2.2.1 (Nat.le_of_ble_eq_true rfl) ?_
  show G X RX10 cX10_does 1 (some .int) "does" (Rm 5 0 0) (Fm X (Ex (.int (F_work 115 r (w 0) (w 1)).1) (hr X h (M 1) (F_work 115 r (w 0) (w 1)).2)) 0 0) 0 0 0 [(0, .ref (M 0))] [] h
  refine g_aload_n dX10_does_0 (by rfl) (by first | exact isRf_r | exact isRf_n | exact isRf_o | assumption) ?_
  refine g_getf dX10_does_1 fX10_195 (by first | exact m0 | exact m6) (by rfl) ?_
  refine g_lookup (off := 86) (tgt := 90) dX10_does_4 (by decide) (by decide) (by decide) ?_
  refine g_aload_n dX10_does_90 (by rfl) (by first | exact isRf_r | exact isRf_n | exact isRf_o | assumption) ?_
  refine g_aload_n dX10_does_91 (by rfl) (by first | exact isRf_r | exact isRf_n | exact isRf_o | assumption) ?_
  refine g_getf dX10_does_92 fX10_25 (by first | exact m0 | exact m6) (by rfl) ?_
  refine g_iconst (v := 0) dX10_does_95 (by decide) ?_
  refine g_iaN dX10_does_96 (by first | exact m0 | exact m6) (show 0 < 2 by omega) (by omega) (by rfl) ?_
  rw [nr_lt (show 0 < 2 by omega)]
  refine g_aload_n dX10_does_97 (by rfl) (by first | exact isRf_r | exact isRf_n | exact isRf_o | assumption) ?_
  refine g_getf dX10_does_98 fX10_25 (by first | exact m0 | exact m6) (by rfl) ?_
  refine g_iconst (v := 1) dX10_does_101 (by decide) ?_
  refine g_iaN dX10_does_102 (by first | exact m0 | exact m6) (show 1 < 2 by omega) (by omega) (by rfl) ?_
  rw [nr_lt (show 1 < 2 by omega)]
  refine g_cV2x dX10_does_103 lX10_153 vX10_sells (ct_X10_sells X hM hO) (by first | exact m0 | exact m6) rfl ⟨Nat.le_of_ble_eq_true rfl, Nat.le_of_ble_eq_true rfl⟩ (Nat.le_of_ble_eq_true rfl) ⟨Nat.le_of_ble_eq_true rfl, Nat.le_of_ble_eq_true rfl⟩ ?_
  refine g_iret dX10_does_106 rfl (Nat.le_refl _) (Nat.le_refl _) ?_
  exact Ex.i rfl rfl

set_option maxHeartbeats 4000000 in
set_option maxRecDepth 100000 in
theorem ct_does_114 (X : Cx) {h : Hp} {M : Nat → Nat} {n tn : Nat} {p fl : Int32} {w r : Nat → Int32}  (hM : MoAt X h (M 0) (M 1) r) (hO : Ok r) (hR : ∀ k, rackN r k ≤ 4) (m0z : h (M 0) = some (md M n tn p (nI 114) fl)) (m6 : h (M 6) = some (oI X 2 (nr 2 w))) : Ct X mX10_does 5 0 0 [.ref (M 0)] h (Ex (.int (F_work 114 r (w 0) (w 1)).1) (hr X h (M 1) (F_work 114 r (w 0) (w 1)).2)) := by
  have m0 := m0z
  unfold md mdl at m0
  refine Ct.ofG vX10_does.1.2.2.1 (Nat.le_of_ble_eq_true rfl) ?_
  show G X RX10 cX10_does 1 (some .int) "does" (Rm 5 0 0) (Fm X (Ex (.int (F_work 114 r (w 0) (w 1)).1) (hr X h (M 1) (F_work 114 r (w 0) (w 1)).2)) 0 0) 0 0 0 [(0, .ref (M 0))] [] h
  refine g_aload_n dX10_does_0 (by rfl) (by first | exact isRf_r | exact isRf_n | exact isRf_o | assumption) ?_
  refine g_getf dX10_does_1 fX10_195 (by first | exact m0 | exact m6) (by rfl) ?_
  refine g_lookup (off := 103) (tgt := 107) dX10_does_4 (by decide) (by decide) (by decide) ?_
  refine g_aload_n dX10_does_107 (by rfl) (by first | exact isRf_r | exact isRf_n | exact isRf_o | assumption) ?_
  refine g_aload_n dX10_does_108 (by rfl) (by first | exact isRf_r | exact isRf_n | exact isRf_o | assumption) ?_
  refine g_getf dX10_does_109 fX10_25 (by first | exact m0 | exact m6) (by rfl) ?_
  refine g_iconst (v := 0) dX10_does_112 (by decide) ?_
  refine g_iaN dX10_does_113 (by first | exact m0 | exact m6) (show 0 < 2 by omega) (by omega) (by rfl) ?_
  rw [nr_lt (show 0 < 2 by omega)]
  refine g_cV1x dX10_does_114 lX10_109 vX10_rinses (ct_X10_rinses X hM hO) (by first | exact m0 | exact m6) rfl ⟨Nat.le_of_ble_eq_true rfl, Nat.le_of_ble_eq_true rfl⟩ (Nat.le_of_ble_eq_true rfl) ⟨Nat.le_of_ble_eq_true rfl, Nat.le_of_ble_eq_true rfl⟩ ?_
  refine g_iret dX10_does_117 rfl (Nat.le_refl _) (Nat.le_refl _) ?_
  exact Ex.i rfl rfl

set_option maxHeartbeats 4000000 in
set_option maxRecDepth 100000 in
theorem ct_does_116 (X : Cx) {h : Hp} {M : Nat → Nat} {n tn : Nat} {p fl : Int32} {w r : Nat → Int32}  (hM : MoAt X h (M 0) (M 1) r) (hO : Ok r) (hR : ∀ k, rackN r k ≤ 4) (m0z : h (M 0) = some (md M n tn p (nI 116) fl)) (m6 : h (M 6) = some (oI X 2 (nr 2 w))) : Ct X mX10_does 5 0 0 [.ref (M 0)] h (Ex (.int (F_work 116 r (w 0) (w 1)).1) (hr X h (M 1) (F_work 116 r (w 0) (w 1)).2)) := by
  have m0 := m0z
  unfold md mdl at m0
  refine Ct.ofG vX10_does.1.2.2.1 (Nat.le_of_ble_eq_true rfl) ?_
  show G X RX10 cX10_does 1 (some .int) "does" (Rm 5 0 0) (Fm X (Ex (.int (F_work 116 r (w 0) (w 1)).1) (hr X h (M 1) (F_work 116 r (w 0) (w 1)).2)) 0 0) 0 0 0 [(0, .ref (M 0))] [] h
  refine g_aload_n dX10_does_0 (by rfl) (by first | exact isRf_r | exact isRf_n | exact isRf_o | assumption) ?_
  refine g_getf dX10_does_1 fX10_195 (by first | exact m0 | exact m6) (by rfl) ?_
  refine g_lookup (off := 114) (tgt := 118) dX10_does_4 (by decide) (by decide) (by decide) ?_
  refine g_aload_n dX10_does_118 (by rfl) (by first | exact isRf_r | exact isRf_n | exact isRf_o | assumption) ?_
  refine g_aload_n dX10_does_119 (by rfl) (by first | exact isRf_r | exact isRf_n | exact isRf_o | assumption) ?_
  refine g_getf dX10_does_120 fX10_25 (by first | exact m0 | exact m6) (by rfl) ?_
  refine g_iconst (v := 0) dX10_does_123 (by decide) ?_
  refine g_iaN dX10_does_124 (by first | exact m0 | exact m6) (show 0 < 2 by omega) (by omega) (by rfl) ?_
  rw [nr_lt (show 0 < 2 by omega)]
  refine g_cV1x dX10_does_125 lX10_118 vX10_takesDown (ct_X10_takesDown X hM hO) (by first | exact m0 | exact m6) rfl ⟨Nat.le_of_ble_eq_true rfl, Nat.le_of_ble_eq_true rfl⟩ (Nat.le_of_ble_eq_true rfl) ⟨Nat.le_of_ble_eq_true rfl, Nat.le_of_ble_eq_true rfl⟩ ?_
  refine g_iret dX10_does_128 rfl (Nat.le_refl _) (Nat.le_refl _) ?_
  exact Ex.i rfl rfl

set_option maxHeartbeats 4000000 in
set_option maxRecDepth 100000 in
theorem ct_does_101 (X : Cx) {h : Hp} {M : Nat → Nat} {n tn : Nat} {p fl : Int32} {w r : Nat → Int32}  (hM : MoAt X h (M 0) (M 1) r) (hO : Ok r) (hR : ∀ k, rackN r k ≤ 4) (m0z : h (M 0) = some (md M n tn p (nI 101) fl)) (m6 : h (M 6) = some (oI X 2 (nr 2 w))) : Ct X mX10_does 5 0 0 [.ref (M 0)] h (Ex (.int (F_work 101 r (w 0) (w 1)).1) (hr X h (M 1) (F_work 101 r (w 0) (w 1)).2)) := by
  have m0 := m0z
  unfold md mdl at m0
  refine Ct.ofG vX10_does.1.2.2.1 (Nat.le_of_ble_eq_true rfl) ?_
  show G X RX10 cX10_does 1 (some .int) "does" (Rm 5 0 0) (Fm X (Ex (.int (F_work 101 r (w 0) (w 1)).1) (hr X h (M 1) (F_work 101 r (w 0) (w 1)).2)) 0 0) 0 0 0 [(0, .ref (M 0))] [] h
  refine g_aload_n dX10_does_0 (by rfl) (by first | exact isRf_r | exact isRf_n | exact isRf_o | assumption) ?_
  refine g_getf dX10_does_1 fX10_195 (by first | exact m0 | exact m6) (by rfl) ?_
  refine g_lookup (off := 125) (tgt := 129) dX10_does_4 (by decide) (by decide) (by decide) ?_
  refine g_aload_n dX10_does_129 (by rfl) (by first | exact isRf_r | exact isRf_n | exact isRf_o | assumption) ?_
  refine g_aload_n dX10_does_130 (by rfl) (by first | exact isRf_r | exact isRf_n | exact isRf_o | assumption) ?_
  refine g_getf dX10_does_131 fX10_25 (by first | exact m0 | exact m6) (by rfl) ?_
  refine g_iconst (v := 0) dX10_does_134 (by decide) ?_
  refine g_iaN dX10_does_135 (by first | exact m0 | exact m6) (show 0 < 2 by omega) (by omega) (by rfl) ?_
  rw [nr_lt (show 0 < 2 by omega)]
  refine g_cV1x dX10_does_136 lX10_64 vX10_drains (ct_X10_drains X hM hO) (by first | exact m0 | exact m6) rfl ⟨Nat.le_of_ble_eq_true rfl, Nat.le_of_ble_eq_true rfl⟩ (Nat.le_of_ble_eq_true rfl) ⟨Nat.le_of_ble_eq_true rfl, Nat.le_of_ble_eq_true rfl⟩ ?_
  refine g_iret dX10_does_139 rfl (Nat.le_refl _) (Nat.le_refl _) ?_
  exact Ex.i rfl rfl

theorem ct_mDoes (X : Cx) {h : Hp} {M : Nat → Nat} {n tn kc : Nat} {p fl : Int32} {w r : Nat → Int32} (hk : kcs kc) (hM : MoAt X h (M 0) (M 1) r) (hO : Ok r) (hR : ∀ k, rackN r k ≤ 4) (m0z : h (M 0) = some (md M n tn p (nI kc) fl)) (m6 : h (M 6) = some (oI X 2 (nr 2 w))) : Ct X mX10_does 5 0 0 [.ref (M 0)] h (Ex (.int (F_work kc r (w 0) (w 1)).1) (hr X h (M 1) (F_work kc r (w 0) (w 1)).2)) := by
  rcases hk with rfl | rfl | rfl | rfl | rfl | rfl
  · exact ct_does_100 X hM hO hR m0z m6
  · exact ct_does_101 X hM hO hR m0z m6
  · exact ct_does_104 X hM hO hR m0z m6
  · exact ct_does_114 X hM hO hR m0z m6
  · exact ct_does_115 X hM hO hR m0z m6
  · exact ct_does_116 X hM hO hR m0z m6
