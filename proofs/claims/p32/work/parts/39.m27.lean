theorem rng_o {lo hi x : Int32} (h : rngB lo hi x = false) : x.toInt < lo.toInt ∨ hi.toInt < x.toInt := by
  rcases Int.lt_or_le x.toInt lo.toInt with z | z
  · exact Or.inl z
  · rcases Int.lt_or_le hi.toInt x.toInt with z2 | z2
    · exact Or.inr z2
    · exfalso
      have t : rngB lo hi x = true := rngB_t (i_le.mpr z) (i_le.mpr z2)
      rw [h] at t
      cases t
theorem rng_j {hi x : Int32} {n : Nat} (h : rngB 0 hi x = true) (hn : hi.toInt = n) (hb : n < 2000) : ∃ j, j < n + 1 ∧ x = nI j := by
  have h2 := rng_b h
  rw [z_toInt, hn] at h2
  exact i_sm h2.1 (by omega) (by omega)
def allB (p : Nat → Bool) : Nat → Bool
  | 0 => true
  | k + 1 => allB p k && p k
theorem allB_f {p : Nat → Bool} {j : Nat} (h : p j = false) : ∀ {n : Nat}, j < n → allB p n = false
  | 0, z => absurd z (by omega)
  | k + 1, z => by
    show (allB p k && p k) = false
    by_cases e : j = k
    · subst e
      rw [h, Bool.and_false]
    · rw [allB_f h (show j < k by omega)]
      rfl
def fstI (p : Nat → Bool) : Nat → Nat → Int32
  | _, 0 => -4
  | v, c + 1 => cond (p v) (nI v) (fstI p (v + 1) c)

set_option maxHeartbeats 4000000 in
set_option maxRecDepth 100000 in
theorem ct_oneIfz (X : Cx) {h : Hp} {x : Int32}  (hx : bz x) : Ct X mX9_oneIf 0 0 0 [.int x] h (Ex (.int x) h) := by
  refine Ct.ofG vX9_oneIf.1.2.2.1 (Nat.le_of_ble_eq_true rfl) ?_
  show G X RX9 cX9_oneIf 1 (some .int) "oneIf" (Rm 0 0 0) (Fm X (Ex (.int x) h) 0 0) 0 0 0 [(0, .int x)] [] h
  refine g_iload_n dX9_oneIf_0 (by rfl) ?_
  refine g_if_eq (tgt := 8) dX9_oneIf_1 (by decide) (fun c1 => ?_) (fun c1 => ?_)
  · skip
    refine g_iconst (v := 0) dX9_oneIf_8 (by decide) ?_
    refine g_iret dX9_oneIf_9 rfl (Nat.le_refl _) (Nat.le_refl _) ?_
    exact Ex.i (by rcases hx with e | e <;> first | exact e.symm | exact absurd e c1 | exact absurd (e.symm.trans c1) (by decide)) rfl
  · skip
    refine g_iconst (v := 1) dX9_oneIf_4 (by decide) ?_
    refine g_goto (tgt := 9) dX9_oneIf_5 (by decide) ?_
    refine g_iret dX9_oneIf_9 rfl (Nat.le_refl _) (Nat.le_refl _) ?_
    exact Ex.i (by rcases hx with e | e <;> first | exact e.symm | exact absurd e c1 | exact absurd (e.symm.trans c1) (by decide)) rfl

def Q_vatOf (r : Nat → Int32) (w k : Int32) : Int32 := cond (okB (r 7) w && rngB 0 4 k) (match cl k with
  | 0 => vt r (cl w) 0
  | 1 => vt r (cl w) 1
  | 2 => vt r (cl w) 2
  | 3 => vt r (cl w) 3
  | _ => bI (decide (r 2 < vt r (cl w) 3))) (-1)

set_option maxHeartbeats 4000000 in
set_option maxRecDepth 100000 in
theorem ct_vatOf_0 (X : Cx) {h : Hp} {A B m : Nat → Nat} {C : Nat → Nat → Nat} {r : Nat → Int32} {n tn : Nat} {rows : Nat → Nat → Int32} {tg : Nat → Int32} {w : Int32}  (hO : Ok r) (hY : SysAt X h A B m C r n rows tn tg) : Ct X mX9_vatOf 2 0 0 [.ref (m 0), .int w, .int (nI 0)] h (Ex (.int (Q_vatOf r w (nI 0))) h) := by
  obtain ⟨y0, hA, -, y1, y2, -, yT, -⟩ := id hY
  have hO0 := hO
  obtain ⟨nv, nl, no, hnv, hnl, hno, e7, e8, e9, hset, hvok, hvz, hlok, hlz, hok, hoz, hw⟩ := hO0
  have hA0 := hA
  obtain ⟨a0, a1, a2, a3, a4, a5, a6, av, al, ao⟩ := hA0
  unfold hobC at a0
  rw [e7, e8, e9] at a0
  refine Ct.ofG vX9_vatOf.1.2.2.1 (Nat.le_of_ble_eq_true rfl) ?_
  show G X RX9 cX9_vatOf 4 (some .int) "vatOf" (Rm 2 0 0) (Fm X (Ex (.int (Q_vatOf r w (nI 0))) h) 0 0) 0 0 0 [(0, .ref (m 0)), (1, .int w), (2, .int (nI 0))] [] h
  refine g_aload_n dX9_vatOf_0 (by rfl) (by first | exact isRf_r | exact isRf_n | exact isRf_o | assumption) ?_
  refine g_getf dX9_vatOf_1 fX9_10 (by first | assumption | (repeat' (first | assumption | exact hu_same | exact Ne.symm (by assumption) | apply hu_n1))) (by rfl) ?_
  refine g_iload_n dX9_vatOf_4 (by rfl) ?_
  by_cases hvj : ∃ j, j < nv ∧ w = nI j
  · skip
    obtain ⟨j, hj, rfl⟩ := hvj
    obtain ⟨⟨d, hd, ed⟩, hli1, hli2, hgr⟩ := hvok j hj
    have avj := av j (by omega)
    have avj0 := avj
    unfold VatAt at avj0
    refine g_cV1x dX9_vatOf_5 lX9_65 vX1_findVat (ct_findVat X (by omega) a0 a1 hj (vaR_j (by omega))) (by first | assumption | (repeat' (first | assumption | exact hu_same | exact Ne.symm (by assumption) | apply hu_n1))) rfl ⟨Nat.le_of_ble_eq_true rfl, Nat.le_of_ble_eq_true rfl⟩ (Nat.le_of_ble_eq_true rfl) ⟨Nat.le_of_ble_eq_true rfl, Nat.le_of_ble_eq_true rfl⟩ ?_
    refine g_astore_n (L1 := [(0, _), (1, _), (2, _), (3, _)]) dX9_vatOf_8 (by first | exact isRf_r | exact isRf_n | exact isRf_o | assumption) (by decide) (by rfl) ?_
    refine g_aload_n dX9_vatOf_9 (by rfl) (by first | exact isRf_r | exact isRf_n | exact isRf_o | assumption) ?_
    refine g_ifnonnull (tgt := 15) dX9_vatOf_10 (by decide) (by first | exact isRf_r | exact isRf_n | exact isRf_o | assumption) (fun c1 => ?_) (fun c1 => nomatch c1)
    refine g_iload_n dX9_vatOf_15 (by rfl) ?_
    refine g_tableIn (tgt := 52) (off := 36) dX9_vatOf_16 (by decide) (by decide) (by decide) (by decide) ?_
    refine g_aload_n dX9_vatOf_52 (by rfl) (by first | exact isRf_r | exact isRf_n | exact isRf_o | assumption) ?_
    refine g_getf dX9_vatOf_53 fX9_69 (by first | assumption | (repeat' (first | assumption | exact hu_same | exact Ne.symm (by assumption) | apply hu_n1))) (by rfl) ?_
    refine g_iret dX9_vatOf_56 rfl (Nat.le_refl _) (Nat.le_refl _) ?_
    refine Ex.i ?_ rfl
    unfold Q_vatOf
    rw [e7, okB_t hj (by omega), cl_nI (j := j) (by omega), cl_nI (j := 0) (by omega), show rngB 0 4 (nI 0) = true by decide]
    rfl
  · skip
    refine g_cV1x dX9_vatOf_5 lX9_65 vX1_findVat (ct_findVatN X (by omega) a0 a1 hvj) (by first | assumption | (repeat' (first | assumption | exact hu_same | exact Ne.symm (by assumption) | apply hu_n1))) rfl ⟨Nat.le_of_ble_eq_true rfl, Nat.le_of_ble_eq_true rfl⟩ (Nat.le_of_ble_eq_true rfl) ⟨Nat.le_of_ble_eq_true rfl, Nat.le_of_ble_eq_true rfl⟩ ?_
    refine g_astore_n (L1 := [(0, _), (1, _), (2, _), (3, _)]) dX9_vatOf_8 (by first | exact isRf_r | exact isRf_n | exact isRf_o | assumption) (by decide) (by rfl) ?_
    refine g_aload_n dX9_vatOf_9 (by rfl) (by first | exact isRf_r | exact isRf_n | exact isRf_o | assumption) ?_
    refine g_ifnonnull (tgt := 15) dX9_vatOf_10 (by decide) (by first | exact isRf_r | exact isRf_n | exact isRf_o | assumption) (fun c2 => absurd rfl c2) (fun c2 => ?_)
    refine g_iconst (v := (-1)) dX9_vatOf_13 (by decide) ?_
    refine g_iret dX9_vatOf_14 rfl (Nat.le_refl _) (Nat.le_refl _) ?_
    refine Ex.i ?_ rfl
    unfold Q_vatOf
    rw [e7, okB_f (by omega) hvj]; rfl

set_option maxHeartbeats 4000000 in
set_option maxRecDepth 100000 in
theorem ct_vatOf_1 (X : Cx) {h : Hp} {A B m : Nat → Nat} {C : Nat → Nat → Nat} {r : Nat → Int32} {n tn : Nat} {rows : Nat → Nat → Int32} {tg : Nat → Int32} {w : Int32}  (hO : Ok r) (hY : SysAt X h A B m C r n rows tn tg) : Ct X mX9_vatOf 2 0 0 [.ref (m 0), .int w, .int (nI 1)] h (Ex (.int (Q_vatOf r w (nI 1))) h) := by
  obtain ⟨y0, hA, -, y1, y2, -, yT, -⟩ := id hY
  have hO0 := hO
  obtain ⟨nv, nl, no, hnv, hnl, hno, e7, e8, e9, hset, hvok, hvz, hlok, hlz, hok, hoz, hw⟩ := hO0
  have hA0 := hA
  obtain ⟨a0, a1, a2, a3, a4, a5, a6, av, al, ao⟩ := hA0
  unfold hobC at a0
  rw [e7, e8, e9] at a0
  refine Ct.ofG vX9_vatOf.1.2.2.1 (Nat.le_of_ble_eq_true rfl) ?_
  show G X RX9 cX9_vatOf 4 (some .int) "vatOf" (Rm 2 0 0) (Fm X (Ex (.int (Q_vatOf r w (nI 1))) h) 0 0) 0 0 0 [(0, .ref (m 0)), (1, .int w), (2, .int (nI 1))] [] h
  refine g_aload_n dX9_vatOf_0 (by rfl) (by first | exact isRf_r | exact isRf_n | exact isRf_o | assumption) ?_
  refine g_getf dX9_vatOf_1 fX9_10 (by first | assumption | (repeat' (first | assumption | exact hu_same | exact Ne.symm (by assumption) | apply hu_n1))) (by rfl) ?_
  refine g_iload_n dX9_vatOf_4 (by rfl) ?_
  by_cases hvj : ∃ j, j < nv ∧ w = nI j
  · skip
    obtain ⟨j, hj, rfl⟩ := hvj
    obtain ⟨⟨d, hd, ed⟩, hli1, hli2, hgr⟩ := hvok j hj
    have avj := av j (by omega)
    have avj0 := avj
    unfold VatAt at avj0
    refine g_cV1x dX9_vatOf_5 lX9_65 vX1_findVat (ct_findVat X (by omega) a0 a1 hj (vaR_j (by omega))) (by first | assumption | (repeat' (first | assumption | exact hu_same | exact Ne.symm (by assumption) | apply hu_n1))) rfl ⟨Nat.le_of_ble_eq_true rfl, Nat.le_of_ble_eq_true rfl⟩ (Nat.le_of_ble_eq_true rfl) ⟨Nat.le_of_ble_eq_true rfl, Nat.le_of_ble_eq_true rfl⟩ ?_
    refine g_astore_n (L1 := [(0, _), (1, _), (2, _), (3, _)]) dX9_vatOf_8 (by first | exact isRf_r | exact isRf_n | exact isRf_o | assumption) (by decide) (by rfl) ?_
    refine g_aload_n dX9_vatOf_9 (by rfl) (by first | exact isRf_r | exact isRf_n | exact isRf_o | assumption) ?_
    refine g_ifnonnull (tgt := 15) dX9_vatOf_10 (by decide) (by first | exact isRf_r | exact isRf_n | exact isRf_o | assumption) (fun c1 => ?_) (fun c1 => nomatch c1)
    refine g_iload_n dX9_vatOf_15 (by rfl) ?_
    refine g_tableIn (tgt := 57) (off := 41) dX9_vatOf_16 (by decide) (by decide) (by decide) (by decide) ?_
    refine g_aload_n dX9_vatOf_57 (by rfl) (by first | exact isRf_r | exact isRf_n | exact isRf_o | assumption) ?_
    refine g_getf dX9_vatOf_58 fX9_75 (by first | assumption | (repeat' (first | assumption | exact hu_same | exact Ne.symm (by assumption) | apply hu_n1))) (by rfl) ?_
    refine g_iret dX9_vatOf_61 rfl (Nat.le_refl _) (Nat.le_refl _) ?_
    refine Ex.i ?_ rfl
    unfold Q_vatOf
    rw [e7, okB_t hj (by omega), cl_nI (j := j) (by omega), cl_nI (j := 1) (by omega), show rngB 0 4 (nI 1) = true by decide]
    rfl
  · skip
    refine g_cV1x dX9_vatOf_5 lX9_65 vX1_findVat (ct_findVatN X (by omega) a0 a1 hvj) (by first | assumption | (repeat' (first | assumption | exact hu_same | exact Ne.symm (by assumption) | apply hu_n1))) rfl ⟨Nat.le_of_ble_eq_true rfl, Nat.le_of_ble_eq_true rfl⟩ (Nat.le_of_ble_eq_true rfl) ⟨Nat.le_of_ble_eq_true rfl, Nat.le_of_ble_eq_true rfl⟩ ?_
    refine g_astore_n (L1 := [(0, _), (1, _), (2, _), (3, _)]) dX9_vatOf_8 (by first | exact isRf_r | exact isRf_n | exact isRf_o | assumption) (by decide) (by rfl) ?_
    refine g_aload_n dX9_vatOf_9 (by rfl) (by first | exact isRf_r | exact isRf_n | exact isRf_o | assumption) ?_
    refine g_ifnonnull (tgt := 15) dX9_vatOf_10 (by decide) (by first | exact isRf_r | exact isRf_n | exact isRf_o | assumption) (fun c2 => absurd rfl c2) (fun c2 => ?_)
    refine g_iconst (v := (-1)) dX9_vatOf_13 (by decide) ?_
    refine g_iret dX9_vatOf_14 rfl (Nat.le_refl _) (Nat.le_refl _) ?_
    refine Ex.i ?_ rfl
    unfold Q_vatOf
    rw [e7, okB_f (by omega) hvj]; rfl

set_option maxHeartbeats 4000000 in
set_option maxRecDepth 100000 in
theorem ct_vatOf_2 (X : Cx) {h : Hp} {A B m : Nat → Nat} {C : Nat → Nat → Nat} {r : Nat → Int32} {n tn : Nat} {rows : Nat → Nat → Int32} {tg : Nat → Int32} {w : Int32}  (hO : Ok r) (hY : SysAt X h A B m C r n rows tn tg) : Ct X mX9_vatOf 2 0 0 [.ref (m 0), .int w, .int (nI 2)] h (Ex (.int (Q_vatOf r w (nI 2))) h) := by
  obtain ⟨y0, hA, -, y1, y2, -, yT, -⟩ := id hY
  have hO0 := hO
  obtain ⟨nv, nl, no, hnv, hnl, hno, e7, e8, e9, hset, hvok, hvz, hlok, hlz, hok, hoz, hw⟩ := hO0
  have hA0 := hA
  obtain ⟨a0, a1, a2, a3, a4, a5, a6, av, al, ao⟩ := hA0
  unfold hobC at a0
  rw [e7, e8, e9] at a0
  refine Ct.ofG vX9_vatOf.1.2.2.1 (Nat.le_of_ble_eq_true rfl) ?_
  show G X RX9 cX9_vatOf 4 (some .int) "vatOf" (Rm 2 0 0) (Fm X (Ex (.int (Q_vatOf r w (nI 2))) h) 0 0) 0 0 0 [(0, .ref (m 0)), (1, .int w), (2, .int (nI 2))] [] h
  refine g_aload_n dX9_vatOf_0 (by rfl) (by first | exact isRf_r | exact isRf_n | exact isRf_o | assumption) ?_
  refine g_getf dX9_vatOf_1 fX9_10 (by first | assumption | (repeat' (first | assumption | exact hu_same | exact Ne.symm (by assumption) | apply hu_n1))) (by rfl) ?_
  refine g_iload_n dX9_vatOf_4 (by rfl) ?_
  by_cases hvj : ∃ j, j < nv ∧ w = nI j
  · skip
    obtain ⟨j, hj, rfl⟩ := hvj
    obtain ⟨⟨d, hd, ed⟩, hli1, hli2, hgr⟩ := hvok j hj
    have avj := av j (by omega)
    have avj0 := avj
    unfold VatAt at avj0
    refine g_cV1x dX9_vatOf_5 lX9_65 vX1_findVat (ct_findVat X (by omega) a0 a1 hj (vaR_j (by omega))) (by first | assumption | (repeat' (first | assumption | exact hu_same | exact Ne.symm (by assumption) | apply hu_n1))) rfl ⟨Nat.le_of_ble_eq_true rfl, Nat.le_of_ble_eq_true rfl⟩ (Nat.le_of_ble_eq_true rfl) ⟨Nat.le_of_ble_eq_true rfl, Nat.le_of_ble_eq_true rfl⟩ ?_
    refine g_astore_n (L1 := [(0, _), (1, _), (2, _), (3, _)]) dX9_vatOf_8 (by first | exact isRf_r | exact isRf_n | exact isRf_o | assumption) (by decide) (by rfl) ?_
    refine g_aload_n dX9_vatOf_9 (by rfl) (by first | exact isRf_r | exact isRf_n | exact isRf_o | assumption) ?_
    refine g_ifnonnull (tgt := 15) dX9_vatOf_10 (by decide) (by first | exact isRf_r | exact isRf_n | exact isRf_o | assumption) (fun c1 => ?_) (fun c1 => nomatch c1)
    refine g_iload_n dX9_vatOf_15 (by rfl) ?_
    refine g_tableIn (tgt := 62) (off := 46) dX9_vatOf_16 (by decide) (by decide) (by decide) (by decide) ?_
    refine g_aload_n dX9_vatOf_62 (by rfl) (by first | exact isRf_r | exact isRf_n | exact isRf_o | assumption) ?_
    refine g_getf dX9_vatOf_63 fX9_78 (by first | assumption | (repeat' (first | assumption | exact hu_same | exact Ne.symm (by assumption) | apply hu_n1))) (by rfl) ?_
    refine g_iret dX9_vatOf_66 rfl (Nat.le_refl _) (Nat.le_refl _) ?_
    refine Ex.i ?_ rfl
    unfold Q_vatOf
    rw [e7, okB_t hj (by omega), cl_nI (j := j) (by omega), cl_nI (j := 2) (by omega), show rngB 0 4 (nI 2) = true by decide]
    rfl
  · skip
    refine g_cV1x dX9_vatOf_5 lX9_65 vX1_findVat (ct_findVatN X (by omega) a0 a1 hvj) (by first | assumption | (repeat' (first | assumption | exact hu_same | exact Ne.symm (by assumption) | apply hu_n1))) rfl ⟨Nat.le_of_ble_eq_true rfl, Nat.le_of_ble_eq_true rfl⟩ (Nat.le_of_ble_eq_true rfl) ⟨Nat.le_of_ble_eq_true rfl, Nat.le_of_ble_eq_true rfl⟩ ?_
    refine g_astore_n (L1 := [(0, _), (1, _), (2, _), (3, _)]) dX9_vatOf_8 (by first | exact isRf_r | exact isRf_n | exact isRf_o | assumption) (by decide) (by rfl) ?_
    refine g_aload_n dX9_vatOf_9 (by rfl) (by first | exact isRf_r | exact isRf_n | exact isRf_o | assumption) ?_
    refine g_ifnonnull (tgt := 15) dX9_vatOf_10 (by decide) (by first | exact isRf_r | exact isRf_n | exact isRf_o | assumption) (fun c2 => absurd rfl c2) (fun c2 => ?_)
    refine g_iconst (v := (-1)) dX9_vatOf_13 (by decide) ?_
    refine g_iret dX9_vatOf_14 rfl (Nat.le_refl _) (Nat.le_refl _) ?_
    refine Ex.i ?_ rfl
    unfold Q_vatOf
    rw [e7, okB_f (by omega) hvj]; rfl

set_option maxHeartbeats 4000000 in
set_option maxRecDepth 100000 in
theorem ct_vatOf_3 (X : Cx) {h : Hp} {A B m : Nat → Nat} {C : Nat → Nat → Nat} {r : Nat → Int32} {n tn : Nat} {rows : Nat → Nat → Int32} {tg : Nat → Int32} {w : Int32}  (hO : Ok r) (hY : SysAt X h A B m C r n rows tn tg) : Ct X mX9_vatOf 2 0 0 [.ref (m 0), .int w, .int (nI 3)] h (Ex (.int (Q_vatOf r w (nI 3))) h) := by
  obtain ⟨y0, hA, -, y1, y2, -, yT, -⟩ := id hY
  have hO0 := hO
  obtain ⟨nv, nl, no, hnv, hnl, hno, e7, e8, e9, hset, hvok, hvz, hlok, hlz, hok, hoz, hw⟩ := hO0
  have hA0 := hA
  obtain ⟨a0, a1, a2, a3, a4, a5, a6, av, al, ao⟩ := hA0
  unfold hobC at a0
  rw [e7, e8, e9] at a0
  refine Ct.ofG vX9_vatOf.1.2.2.1 (Nat.le_of_ble_eq_true rfl) ?_
  show G X RX9 cX9_vatOf 4 (some .int) "vatOf" (Rm 2 0 0) (Fm X (Ex (.int (Q_vatOf r w (nI 3))) h) 0 0) 0 0 0 [(0, .ref (m 0)), (1, .int w), (2, .int (nI 3))] [] h
  refine g_aload_n dX9_vatOf_0 (by rfl) (by first | exact isRf_r | exact isRf_n | exact isRf_o | assumption) ?_
  refine g_getf dX9_vatOf_1 fX9_10 (by first | assumption | (repeat' (first | assumption | exact hu_same | exact Ne.symm (by assumption) | apply hu_n1))) (by rfl) ?_
  refine g_iload_n dX9_vatOf_4 (by rfl) ?_
  by_cases hvj : ∃ j, j < nv ∧ w = nI j
  · skip
    obtain ⟨j, hj, rfl⟩ := hvj
    obtain ⟨⟨d, hd, ed⟩, hli1, hli2, hgr⟩ := hvok j hj
    have avj := av j (by omega)
    have avj0 := avj
    unfold VatAt at avj0
    refine g_cV1x dX9_vatOf_5 lX9_65 vX1_findVat (ct_findVat X (by omega) a0 a1 hj (vaR_j (by omega))) (by first | assumption | (repeat' (first | assumption | exact hu_same | exact Ne.symm (by assumption) | apply hu_n1))) rfl ⟨Nat.le_of_ble_eq_true rfl, Nat.le_of_ble_eq_true rfl⟩ (Nat.le_of_ble_eq_true rfl) ⟨Nat.le_of_ble_eq_true rfl, Nat.le_of_ble_eq_true rfl⟩ ?_
    refine g_astore_n (L1 := [(0, _), (1, _), (2, _), (3, _)]) dX9_vatOf_8 (by first | exact isRf_r | exact isRf_n | exact isRf_o | assumption) (by decide) (by rfl) ?_
    refine g_aload_n dX9_vatOf_9 (by rfl) (by first | exact isRf_r | exact isRf_n | exact isRf_o | assumption) ?_
    refine g_ifnonnull (tgt := 15) dX9_vatOf_10 (by decide) (by first | exact isRf_r | exact isRf_n | exact isRf_o | assumption) (fun c1 => ?_) (fun c1 => nomatch c1)
    refine g_iload_n dX9_vatOf_15 (by rfl) ?_
    refine g_tableIn (tgt := 67) (off := 51) dX9_vatOf_16 (by decide) (by decide) (by decide) (by decide) ?_
    refine g_aload_n dX9_vatOf_67 (by rfl) (by first | exact isRf_r | exact isRf_n | exact isRf_o | assumption) ?_
    refine g_getf dX9_vatOf_68 fX9_81 (by first | assumption | (repeat' (first | assumption | exact hu_same | exact Ne.symm (by assumption) | apply hu_n1))) (by rfl) ?_
    refine g_iret dX9_vatOf_71 rfl (Nat.le_refl _) (Nat.le_refl _) ?_
    refine Ex.i ?_ rfl
    unfold Q_vatOf
    rw [e7, okB_t hj (by omega), cl_nI (j := j) (by omega), cl_nI (j := 3) (by omega), show rngB 0 4 (nI 3) = true by decide]
    rfl
  · skip
    refine g_cV1x dX9_vatOf_5 lX9_65 vX1_findVat (ct_findVatN X (by omega) a0 a1 hvj) (by first | assumption | (repeat' (first | assumption | exact hu_same | exact Ne.symm (by assumption) | apply hu_n1))) rfl ⟨Nat.le_of_ble_eq_true rfl, Nat.le_of_ble_eq_true rfl⟩ (Nat.le_of_ble_eq_true rfl) ⟨Nat.le_of_ble_eq_true rfl, Nat.le_of_ble_eq_true rfl⟩ ?_
    refine g_astore_n (L1 := [(0, _), (1, _), (2, _), (3, _)]) dX9_vatOf_8 (by first | exact isRf_r | exact isRf_n | exact isRf_o | assumption) (by decide) (by rfl) ?_
    refine g_aload_n dX9_vatOf_9 (by rfl) (by first | exact isRf_r | exact isRf_n | exact isRf_o | assumption) ?_
    refine g_ifnonnull (tgt := 15) dX9_vatOf_10 (by decide) (by first | exact isRf_r | exact isRf_n | exact isRf_o | assumption) (fun c2 => absurd rfl c2) (fun c2 => ?_)
    refine g_iconst (v := (-1)) dX9_vatOf_13 (by decide) ?_
    refine g_iret dX9_vatOf_14 rfl (Nat.le_refl _) (Nat.le_refl _) ?_
    refine Ex.i ?_ rfl
    unfold Q_vatOf
    rw [e7, okB_f (by omega) hvj]; rfl

set_option maxHeartbeats 4000000 in
set_option maxRecDepth 100000 in
theorem ct_vatOf_4 (X : Cx) {h : Hp} {A B m : Nat → Nat} {C : Nat → Nat → Nat} {r : Nat → Int32} {n tn : Nat} {rows : Nat → Nat → Int32} {tg : Nat → Int32} {w : Int32}  (hO : Ok r) (hY : SysAt X h A B m C r n rows tn tg) : Ct X mX9_vatOf 2 0 0 [.ref (m 0), .int w, .int (nI 4)] h (Ex (.int (Q_vatOf r w (nI 4))) h) := by
  obtain ⟨y0, hA, -, y1, y2, -, yT, -⟩ := id hY
  have hO0 := hO
  obtain ⟨nv, nl, no, hnv, hnl, hno, e7, e8, e9, hset, hvok, hvz, hlok, hlz, hok, hoz, hw⟩ := hO0
  have hA0 := hA
  obtain ⟨a0, a1, a2, a3, a4, a5, a6, av, al, ao⟩ := hA0
  unfold hobC at a0
  rw [e7, e8, e9] at a0
  refine Ct.ofG vX9_vatOf.1.2.2.1 (Nat.le_of_ble_eq_true rfl) ?_
  show G X RX9 cX9_vatOf 4 (some .int) "vatOf" (Rm 2 0 0) (Fm X (Ex (.int (Q_vatOf r w (nI 4))) h) 0 0) 0 0 0 [(0, .ref (m 0)), (1, .int w), (2, .int (nI 4))] [] h
  refine g_aload_n dX9_vatOf_0 (by rfl) (by first | exact isRf_r | exact isRf_n | exact isRf_o | assumption) ?_
  refine g_getf dX9_vatOf_1 fX9_10 (by first | assumption | (repeat' (first | assumption | exact hu_same | exact Ne.symm (by assumption) | apply hu_n1))) (by rfl) ?_
  refine g_iload_n dX9_vatOf_4 (by rfl) ?_
  by_cases hvj : ∃ j, j < nv ∧ w = nI j
  · skip
    obtain ⟨j, hj, rfl⟩ := hvj
    obtain ⟨⟨d, hd, ed⟩, hli1, hli2, hgr⟩ := hvok j hj
    have avj := av j (by omega)
    have avj0 := avj
    unfold VatAt at avj0
    refine g_cV1x dX9_vatOf_5 lX9_65 vX1_findVat (ct_findVat X (by omega) a0 a1 hj (vaR_j (by omega))) (by first | assumption | (repeat' (first | assumption | exact hu_same | exact Ne.symm (by assumption) | apply hu_n1))) rfl ⟨Nat.le_of_ble_eq_true rfl, Nat.le_of_ble_eq_true rfl⟩ (Nat.le_of_ble_eq_true rfl) ⟨Nat.le_of_ble_eq_true rfl, Nat.le_of_ble_eq_true rfl⟩ ?_
    refine g_astore_n (L1 := [(0, _), (1, _), (2, _), (3, _)]) dX9_vatOf_8 (by first | exact isRf_r | exact isRf_n | exact isRf_o | assumption) (by decide) (by rfl) ?_
    refine g_aload_n dX9_vatOf_9 (by rfl) (by first | exact isRf_r | exact isRf_n | exact isRf_o | assumption) ?_
    refine g_ifnonnull (tgt := 15) dX9_vatOf_10 (by decide) (by first | exact isRf_r | exact isRf_n | exact isRf_o | assumption) (fun c1 => ?_) (fun c1 => nomatch c1)
    refine g_iload_n dX9_vatOf_15 (by rfl) ?_
    refine g_tableIn (tgt := 72) (off := 56) dX9_vatOf_16 (by decide) (by decide) (by decide) (by decide) ?_
    refine g_aload_n dX9_vatOf_72 (by rfl) (by first | exact isRf_r | exact isRf_n | exact isRf_o | assumption) ?_
    refine g_aload_n dX9_vatOf_73 (by rfl) (by first | exact isRf_r | exact isRf_n | exact isRf_o | assumption) ?_
    refine g_getf dX9_vatOf_74 fX9_10 (by first | assumption | (repeat' (first | assumption | exact hu_same | exact Ne.symm (by assumption) | apply hu_n1))) (by rfl) ?_
    refine g_getf dX9_vatOf_77 fX9_84 (by first | assumption | (repeat' (first | assumption | exact hu_same | exact Ne.symm (by assumption) | apply hu_n1))) (by rfl) ?_
    have a60 := a6.1
    refine g_cV1x dX9_vatOf_80 lX9_88 vX8_spoils (ct_X8_spoils X a6 avj) (by first | assumption | (repeat' (first | assumption | exact hu_same | exact Ne.symm (by assumption) | apply hu_n1))) rfl ⟨Nat.le_of_ble_eq_true rfl, Nat.le_of_ble_eq_true rfl⟩ (Nat.le_of_ble_eq_true rfl) ⟨Nat.le_of_ble_eq_true rfl, Nat.le_of_ble_eq_true rfl⟩ ?_
    refine g_cS1x dX9_vatOf_83 lX9_92 rfl vX9_oneIf (ct_X9_oneIf X) ⟨Nat.le_of_ble_eq_true rfl, Nat.le_of_ble_eq_true rfl⟩ (Nat.le_of_ble_eq_true rfl) ⟨Nat.le_of_ble_eq_true rfl, Nat.le_of_ble_eq_true rfl⟩ ?_
    refine g_iret dX9_vatOf_86 rfl (Nat.le_refl _) (Nat.le_refl _) ?_
    refine Ex.i ?_ rfl
    unfold Q_vatOf
    rw [e7, okB_t hj (by omega), cl_nI (j := j) (by omega), cl_nI (j := 4) (by omega), show rngB 0 4 (nI 4) = true by decide]
    rfl
  · skip
    refine g_cV1x dX9_vatOf_5 lX9_65 vX1_findVat (ct_findVatN X (by omega) a0 a1 hvj) (by first | assumption | (repeat' (first | assumption | exact hu_same | exact Ne.symm (by assumption) | apply hu_n1))) rfl ⟨Nat.le_of_ble_eq_true rfl, Nat.le_of_ble_eq_true rfl⟩ (Nat.le_of_ble_eq_true rfl) ⟨Nat.le_of_ble_eq_true rfl, Nat.le_of_ble_eq_true rfl⟩ ?_
    refine g_astore_n (L1 := [(0, _), (1, _), (2, _), (3, _)]) dX9_vatOf_8 (by first | exact isRf_r | exact isRf_n | exact isRf_o | assumption) (by decide) (by rfl) ?_
    refine g_aload_n dX9_vatOf_9 (by rfl) (by first | exact isRf_r | exact isRf_n | exact isRf_o | assumption) ?_
    refine g_ifnonnull (tgt := 15) dX9_vatOf_10 (by decide) (by first | exact isRf_r | exact isRf_n | exact isRf_o | assumption) (fun c2 => absurd rfl c2) (fun c2 => ?_)
    refine g_iconst (v := (-1)) dX9_vatOf_13 (by decide) ?_
    refine g_iret dX9_vatOf_14 rfl (Nat.le_refl _) (Nat.le_refl _) ?_
    refine Ex.i ?_ rfl
    unfold Q_vatOf
    rw [e7, okB_f (by omega) hvj]; rfl

set_option maxHeartbeats 4000000 in
set_option maxRecDepth 100000 in
theorem ct_vatOf_o (X : Cx) {h : Hp} {A B m : Nat → Nat} {C : Nat → Nat → Nat} {r : Nat → Int32} {n tn : Nat} {rows : Nat → Nat → Int32} {tg : Nat → Int32} {w : Int32} {k : Int32}  (hO : Ok r) (hY : SysAt X h A B m C r n rows tn tg) (hk : rngB 0 4 k = false) : Ct X mX9_vatOf 2 0 0 [.ref (m 0), .int w, .int k] h (Ex (.int (Q_vatOf r w k)) h) := by
  obtain ⟨y0, hA, -, y1, y2, -, yT, -⟩ := id hY
  have hO0 := hO
  obtain ⟨nv, nl, no, hnv, hnl, hno, e7, e8, e9, hset, hvok, hvz, hlok, hlz, hok, hoz, hw⟩ := hO0
  have hA0 := hA
  obtain ⟨a0, a1, a2, a3, a4, a5, a6, av, al, ao⟩ := hA0
  unfold hobC at a0
  rw [e7, e8, e9] at a0
  have hout := rng_o hk
  have yh : (4 : Int32).toInt = 4 := by decide
  rw [z_toInt, yh] at hout
  refine Ct.ofG vX9_vatOf.1.2.2.1 (Nat.le_of_ble_eq_true rfl) ?_
  show G X RX9 cX9_vatOf 4 (some .int) "vatOf" (Rm 2 0 0) (Fm X (Ex (.int (Q_vatOf r w k)) h) 0 0) 0 0 0 [(0, .ref (m 0)), (1, .int w), (2, .int k)] [] h
  refine g_aload_n dX9_vatOf_0 (by rfl) (by first | exact isRf_r | exact isRf_n | exact isRf_o | assumption) ?_
  refine g_getf dX9_vatOf_1 fX9_10 (by first | assumption | (repeat' (first | assumption | exact hu_same | exact Ne.symm (by assumption) | apply hu_n1))) (by rfl) ?_
  refine g_iload_n dX9_vatOf_4 (by rfl) ?_
  by_cases hvj : ∃ j, j < nv ∧ w = nI j
  · skip
    obtain ⟨j, hj, rfl⟩ := hvj
    obtain ⟨⟨d, hd, ed⟩, hli1, hli2, hgr⟩ := hvok j hj
    have avj := av j (by omega)
    have avj0 := avj
    unfold VatAt at avj0
    refine g_cV1x dX9_vatOf_5 lX9_65 vX1_findVat (ct_findVat X (by omega) a0 a1 hj (vaR_j (by omega))) (by first | assumption | (repeat' (first | assumption | exact hu_same | exact Ne.symm (by assumption) | apply hu_n1))) rfl ⟨Nat.le_of_ble_eq_true rfl, Nat.le_of_ble_eq_true rfl⟩ (Nat.le_of_ble_eq_true rfl) ⟨Nat.le_of_ble_eq_true rfl, Nat.le_of_ble_eq_true rfl⟩ ?_
    refine g_astore_n (L1 := [(0, _), (1, _), (2, _), (3, _)]) dX9_vatOf_8 (by first | exact isRf_r | exact isRf_n | exact isRf_o | assumption) (by decide) (by rfl) ?_
    refine g_aload_n dX9_vatOf_9 (by rfl) (by first | exact isRf_r | exact isRf_n | exact isRf_o | assumption) ?_
    refine g_ifnonnull (tgt := 15) dX9_vatOf_10 (by decide) (by first | exact isRf_r | exact isRf_n | exact isRf_o | assumption) (fun c1 => ?_) (fun c1 => nomatch c1)
    refine g_iload_n dX9_vatOf_15 (by rfl) ?_
    refine g_tableOut (tgt := 87) dX9_vatOf_16 hout (by decide) ?_
    refine g_iconst (v := (-1)) dX9_vatOf_87 (by decide) ?_
    refine g_iret dX9_vatOf_88 rfl (Nat.le_refl _) (Nat.le_refl _) ?_
    refine Ex.i ?_ rfl
    unfold Q_vatOf
    rw [hk, Bool.and_false]
    rfl
  · skip
    refine g_cV1x dX9_vatOf_5 lX9_65 vX1_findVat (ct_findVatN X (by omega) a0 a1 hvj) (by first | assumption | (repeat' (first | assumption | exact hu_same | exact Ne.symm (by assumption) | apply hu_n1))) rfl ⟨Nat.le_of_ble_eq_true rfl, Nat.le_of_ble_eq_true rfl⟩ (Nat.le_of_ble_eq_true rfl) ⟨Nat.le_of_ble_eq_true rfl, Nat.le_of_ble_eq_true rfl⟩ ?_
    refine g_astore_n (L1 := [(0, _), (1, _), (2, _), (3, _)]) dX9_vatOf_8 (by first | exact isRf_r | exact isRf_n | exact isRf_o | assumption) (by decide) (by rfl) ?_
    refine g_aload_n dX9_vatOf_9 (by rfl) (by first | exact isRf_r | exact isRf_n | exact isRf_o | assumption) ?_
    refine g_ifnonnull (tgt := 15) dX9_vatOf_10 (by decide) (by first | exact isRf_r | exact isRf_n | exact isRf_o | assumption) (fun c2 => absurd rfl c2) (fun c2 => ?_)
    refine g_iconst (v := (-1)) dX9_vatOf_13 (by decide) ?_
    refine g_iret dX9_vatOf_14 rfl (Nat.le_refl _) (Nat.le_refl _) ?_
    refine Ex.i ?_ rfl
    unfold Q_vatOf
    rw [e7, okB_f (by omega) hvj]; rfl

theorem ct_X9_vatOf (X : Cx) {h : Hp} {A B m : Nat → Nat} {C : Nat → Nat → Nat} {r : Nat → Int32} {n tn : Nat} {rows : Nat → Nat → Int32} {tg : Nat → Int32} {w : Int32} {k : Int32} (hO : Ok r) (hY : SysAt X h A B m C r n rows tn tg) : Ct X mX9_vatOf 2 0 0 [.ref (m 0), .int w, .int k] h (Ex (.int (Q_vatOf r w k)) h) := by
  cases hw : rngB 0 4 k with
  | false => exact ct_vatOf_o X hO hY hw
  | true =>
    obtain ⟨j, hj, rfl⟩ := rng_j (n := 4) hw (by decide) (by omega)
    rcases (show j = 0 ∨ j = 1 ∨ j = 2 ∨ j = 3 ∨ j = 4 by omega) with rfl | rfl | rfl | rfl | rfl
    · exact ct_vatOf_0 X hO hY
    · exact ct_vatOf_1 X hO hY
    · exact ct_vatOf_2 X hO hY
    · exact ct_vatOf_3 X hO hY
    · exact ct_vatOf_4 X hO hY

def Q_lotOf (r : Nat → Int32) (w k : Int32) : Int32 := cond (okB (r 8) w && rngB 0 9 k) (match cl k with
  | 0 => ltx r (cl w) 0
  | 1 => ltx r (cl w) 1
  | 2 => depC (ltx r (cl w))
  | 3 => sumI (fun j => ltx r (cl w) (2 + j)) 4
  | 4 => sumI (fun j => ltx r (cl w) (6 + j)) 4
  | 5 => ltx r (cl w) 10
  | 6 => ltx r (cl w) 11
  | 7 => ltx r (cl w) 12
  | 8 => cond (sold r (cl w)) (ltx r (cl w) 13 - 1) (-4)
  | _ => ltx r (cl w) 14) (-1)

set_option maxHeartbeats 4000000 in
set_option maxRecDepth 100000 in
theorem ct_lotOf_0 (X : Cx) {h : Hp} {A B m : Nat → Nat} {C : Nat → Nat → Nat} {r : Nat → Int32} {n tn : Nat} {rows : Nat → Nat → Int32} {tg : Nat → Int32} {w : Int32}  (hO : Ok r) (hY : SysAt X h A B m C r n rows tn tg) : Ct X mX9_lotOf 2 0 0 [.ref (m 0), .int w, .int (nI 0)] h (Ex (.int (Q_lotOf r w (nI 0))) h) := by
  obtain ⟨y0, hA, -, y1, y2, -, yT, -⟩ := id hY
  have hO0 := hO
  obtain ⟨nv, nl, no, hnv, hnl, hno, e7, e8, e9, hset, hvok, hvz, hlok, hlz, hok, hoz, hw⟩ := hO0
  have hA0 := hA
  obtain ⟨a0, a1, a2, a3, a4, a5, a6, av, al, ao⟩ := hA0
  unfold hobC at a0
  rw [e7, e8, e9] at a0
  refine Ct.ofG vX9_lotOf.1.2.2.1 (Nat.le_of_ble_eq_true rfl) ?_
  show G X RX9 cX9_lotOf 4 (some .int) "lotOf" (Rm 2 0 0) (Fm X (Ex (.int (Q_lotOf r w (nI 0))) h) 0 0) 0 0 0 [(0, .ref (m 0)), (1, .int w), (2, .int (nI 0))] [] h
  refine g_aload_n dX9_lotOf_0 (by rfl) (by first | exact isRf_r | exact isRf_n | exact isRf_o | assumption) ?_
  refine g_getf dX9_lotOf_1 fX9_10 (by first | assumption | (repeat' (first | assumption | exact hu_same | exact Ne.symm (by assumption) | apply hu_n1))) (by rfl) ?_
  refine g_iload_n dX9_lotOf_4 (by rfl) ?_
  by_cases hvj : ∃ j, j < nl ∧ w = nI j
  · skip
    obtain ⟨j, hj, rfl⟩ := hvj
    have alj := al j (by omega)
    obtain ⟨l1, l2, l3⟩ := alj
    unfold lotC at l1
    have lok := hlok j hj
    refine g_cV1x dX9_lotOf_5 lX9_117 vX1_findLot (ct_findLot X (by omega) a0 a2 hj (laR_j (by omega))) (by first | assumption | (repeat' (first | assumption | exact hu_same | exact Ne.symm (by assumption) | apply hu_n1))) rfl ⟨Nat.le_of_ble_eq_true rfl, Nat.le_of_ble_eq_true rfl⟩ (Nat.le_of_ble_eq_true rfl) ⟨Nat.le_of_ble_eq_true rfl, Nat.le_of_ble_eq_true rfl⟩ ?_
    refine g_astore_n (L1 := [(0, _), (1, _), (2, _), (3, _)]) dX9_lotOf_8 (by first | exact isRf_r | exact isRf_n | exact isRf_o | assumption) (by decide) (by rfl) ?_
    refine g_aload_n dX9_lotOf_9 (by rfl) (by first | exact isRf_r | exact isRf_n | exact isRf_o | assumption) ?_
    refine g_ifnonnull (tgt := 15) dX9_lotOf_10 (by decide) (by first | exact isRf_r | exact isRf_n | exact isRf_o | assumption) (fun c1 => ?_) (fun c1 => nomatch c1)
    refine g_iload_n dX9_lotOf_15 (by rfl) ?_
    refine g_tableIn (tgt := 72) (off := 56) dX9_lotOf_16 (by decide) (by decide) (by decide) (by decide) ?_
    refine g_aload_n dX9_lotOf_72 (by rfl) (by first | exact isRf_r | exact isRf_n | exact isRf_o | assumption) ?_
    refine g_getf dX9_lotOf_73 fX9_121 (by first | assumption | (repeat' (first | assumption | exact hu_same | exact Ne.symm (by assumption) | apply hu_n1))) (by rfl) ?_
    refine g_iret dX9_lotOf_76 rfl (Nat.le_refl _) (Nat.le_refl _) ?_
    refine Ex.i ?_ rfl
    unfold Q_lotOf
    rw [e8, okB_t hj (by omega), cl_nI (j := j) (by omega), cl_nI (j := 0) (by omega), show rngB 0 9 (nI 0) = true by decide]
    rfl
  · skip
    refine g_cV1x dX9_lotOf_5 lX9_117 vX1_findLot (ct_findLotN X (by omega) a0 a2 hvj) (by first | assumption | (repeat' (first | assumption | exact hu_same | exact Ne.symm (by assumption) | apply hu_n1))) rfl ⟨Nat.le_of_ble_eq_true rfl, Nat.le_of_ble_eq_true rfl⟩ (Nat.le_of_ble_eq_true rfl) ⟨Nat.le_of_ble_eq_true rfl, Nat.le_of_ble_eq_true rfl⟩ ?_
    refine g_astore_n (L1 := [(0, _), (1, _), (2, _), (3, _)]) dX9_lotOf_8 (by first | exact isRf_r | exact isRf_n | exact isRf_o | assumption) (by decide) (by rfl) ?_
    refine g_aload_n dX9_lotOf_9 (by rfl) (by first | exact isRf_r | exact isRf_n | exact isRf_o | assumption) ?_
    refine g_ifnonnull (tgt := 15) dX9_lotOf_10 (by decide) (by first | exact isRf_r | exact isRf_n | exact isRf_o | assumption) (fun c2 => absurd rfl c2) (fun c2 => ?_)
    refine g_iconst (v := (-1)) dX9_lotOf_13 (by decide) ?_
    refine g_iret dX9_lotOf_14 rfl (Nat.le_refl _) (Nat.le_refl _) ?_
    refine Ex.i ?_ rfl
    unfold Q_lotOf
    rw [e8, okB_f (by omega) hvj]; rfl

set_option maxHeartbeats 4000000 in
set_option maxRecDepth 100000 in
theorem ct_lotOf_1 (X : Cx) {h : Hp} {A B m : Nat → Nat} {C : Nat → Nat → Nat} {r : Nat → Int32} {n tn : Nat} {rows : Nat → Nat → Int32} {tg : Nat → Int32} {w : Int32}  (hO : Ok r) (hY : SysAt X h A B m C r n rows tn tg) : Ct X mX9_lotOf 2 0 0 [.ref (m 0), .int w, .int (nI 1)] h (Ex (.int (Q_lotOf r w (nI 1))) h) := by
  obtain ⟨y0, hA, -, y1, y2, -, yT, -⟩ := id hY
  have hO0 := hO
  obtain ⟨nv, nl, no, hnv, hnl, hno, e7, e8, e9, hset, hvok, hvz, hlok, hlz, hok, hoz, hw⟩ := hO0
  have hA0 := hA
  obtain ⟨a0, a1, a2, a3, a4, a5, a6, av, al, ao⟩ := hA0
  unfold hobC at a0
  rw [e7, e8, e9] at a0
  refine Ct.ofG vX9_lotOf.1.2.2.1 (Nat.le_of_ble_eq_true rfl) ?_
  show G X RX9 cX9_lotOf 4 (some .int) "lotOf" (Rm 2 0 0) (Fm X (Ex (.int (Q_lotOf r w (nI 1))) h) 0 0) 0 0 0 [(0, .ref (m 0)), (1, .int w), (2, .int (nI 1))] [] h
  refine g_aload_n dX9_lotOf_0 (by rfl) (by first | exact isRf_r | exact isRf_n | exact isRf_o | assumption) ?_
  refine g_getf dX9_lotOf_1 fX9_10 (by first | assumption | (repeat' (first | assumption | exact hu_same | exact Ne.symm (by assumption) | apply hu_n1))) (by rfl) ?_
  refine g_iload_n dX9_lotOf_4 (by rfl) ?_
  by_cases hvj : ∃ j, j < nl ∧ w = nI j
  · skip
    obtain ⟨j, hj, rfl⟩ := hvj
    have alj := al j (by omega)
    obtain ⟨l1, l2, l3⟩ := alj
    unfold lotC at l1
    have lok := hlok j hj
    refine g_cV1x dX9_lotOf_5 lX9_117 vX1_findLot (ct_findLot X (by omega) a0 a2 hj (laR_j (by omega))) (by first | assumption | (repeat' (first | assumption | exact hu_same | exact Ne.symm (by assumption) | apply hu_n1))) rfl ⟨Nat.le_of_ble_eq_true rfl, Nat.le_of_ble_eq_true rfl⟩ (Nat.le_of_ble_eq_true rfl) ⟨Nat.le_of_ble_eq_true rfl, Nat.le_of_ble_eq_true rfl⟩ ?_
    refine g_astore_n (L1 := [(0, _), (1, _), (2, _), (3, _)]) dX9_lotOf_8 (by first | exact isRf_r | exact isRf_n | exact isRf_o | assumption) (by decide) (by rfl) ?_
    refine g_aload_n dX9_lotOf_9 (by rfl) (by first | exact isRf_r | exact isRf_n | exact isRf_o | assumption) ?_
    refine g_ifnonnull (tgt := 15) dX9_lotOf_10 (by decide) (by first | exact isRf_r | exact isRf_n | exact isRf_o | assumption) (fun c1 => ?_) (fun c1 => nomatch c1)
    refine g_iload_n dX9_lotOf_15 (by rfl) ?_
    refine g_tableIn (tgt := 77) (off := 61) dX9_lotOf_16 (by decide) (by decide) (by decide) (by decide) ?_
    refine g_aload_n dX9_lotOf_77 (by rfl) (by first | exact isRf_r | exact isRf_n | exact isRf_o | assumption) ?_
    refine g_getf dX9_lotOf_78 fX9_126 (by first | assumption | (repeat' (first | assumption | exact hu_same | exact Ne.symm (by assumption) | apply hu_n1))) (by rfl) ?_
    refine g_iret dX9_lotOf_81 rfl (Nat.le_refl _) (Nat.le_refl _) ?_
    refine Ex.i ?_ rfl
    unfold Q_lotOf
    rw [e8, okB_t hj (by omega), cl_nI (j := j) (by omega), cl_nI (j := 1) (by omega), show rngB 0 9 (nI 1) = true by decide]
    rfl
  · skip
    refine g_cV1x dX9_lotOf_5 lX9_117 vX1_findLot (ct_findLotN X (by omega) a0 a2 hvj) (by first | assumption | (repeat' (first | assumption | exact hu_same | exact Ne.symm (by assumption) | apply hu_n1))) rfl ⟨Nat.le_of_ble_eq_true rfl, Nat.le_of_ble_eq_true rfl⟩ (Nat.le_of_ble_eq_true rfl) ⟨Nat.le_of_ble_eq_true rfl, Nat.le_of_ble_eq_true rfl⟩ ?_
    refine g_astore_n (L1 := [(0, _), (1, _), (2, _), (3, _)]) dX9_lotOf_8 (by first | exact isRf_r | exact isRf_n | exact isRf_o | assumption) (by decide) (by rfl) ?_
    refine g_aload_n dX9_lotOf_9 (by rfl) (by first | exact isRf_r | exact isRf_n | exact isRf_o | assumption) ?_
    refine g_ifnonnull (tgt := 15) dX9_lotOf_10 (by decide) (by first | exact isRf_r | exact isRf_n | exact isRf_o | assumption) (fun c2 => absurd rfl c2) (fun c2 => ?_)
    refine g_iconst (v := (-1)) dX9_lotOf_13 (by decide) ?_
    refine g_iret dX9_lotOf_14 rfl (Nat.le_refl _) (Nat.le_refl _) ?_
    refine Ex.i ?_ rfl
    unfold Q_lotOf
    rw [e8, okB_f (by omega) hvj]; rfl

set_option maxHeartbeats 4000000 in
set_option maxRecDepth 100000 in
theorem ct_lotOf_2 (X : Cx) {h : Hp} {A B m : Nat → Nat} {C : Nat → Nat → Nat} {r : Nat → Int32} {n tn : Nat} {rows : Nat → Nat → Int32} {tg : Nat → Int32} {w : Int32}  (hO : Ok r) (hY : SysAt X h A B m C r n rows tn tg) : Ct X mX9_lotOf 2 0 0 [.ref (m 0), .int w, .int (nI 2)] h (Ex (.int (Q_lotOf r w (nI 2))) h) := by
  obtain ⟨y0, hA, -, y1, y2, -, yT, -⟩ := id hY
  have hO0 := hO
  obtain ⟨nv, nl, no, hnv, hnl, hno, e7, e8, e9, hset, hvok, hvz, hlok, hlz, hok, hoz, hw⟩ := hO0
  have hA0 := hA
  obtain ⟨a0, a1, a2, a3, a4, a5, a6, av, al, ao⟩ := hA0
  unfold hobC at a0
  rw [e7, e8, e9] at a0
  refine Ct.ofG vX9_lotOf.1.2.2.1 (Nat.le_of_ble_eq_true rfl) ?_
  show G X RX9 cX9_lotOf 4 (some .int) "lotOf" (Rm 2 0 0) (Fm X (Ex (.int (Q_lotOf r w (nI 2))) h) 0 0) 0 0 0 [(0, .ref (m 0)), (1, .int w), (2, .int (nI 2))] [] h
  refine g_aload_n dX9_lotOf_0 (by rfl) (by first | exact isRf_r | exact isRf_n | exact isRf_o | assumption) ?_
  refine g_getf dX9_lotOf_1 fX9_10 (by first | assumption | (repeat' (first | assumption | exact hu_same | exact Ne.symm (by assumption) | apply hu_n1))) (by rfl) ?_
  refine g_iload_n dX9_lotOf_4 (by rfl) ?_
  by_cases hvj : ∃ j, j < nl ∧ w = nI j
  · skip
    obtain ⟨j, hj, rfl⟩ := hvj
    have alj := al j (by omega)
    obtain ⟨l1, l2, l3⟩ := alj
    unfold lotC at l1
    have lok := hlok j hj
    refine g_cV1x dX9_lotOf_5 lX9_117 vX1_findLot (ct_findLot X (by omega) a0 a2 hj (laR_j (by omega))) (by first | assumption | (repeat' (first | assumption | exact hu_same | exact Ne.symm (by assumption) | apply hu_n1))) rfl ⟨Nat.le_of_ble_eq_true rfl, Nat.le_of_ble_eq_true rfl⟩ (Nat.le_of_ble_eq_true rfl) ⟨Nat.le_of_ble_eq_true rfl, Nat.le_of_ble_eq_true rfl⟩ ?_
    refine g_astore_n (L1 := [(0, _), (1, _), (2, _), (3, _)]) dX9_lotOf_8 (by first | exact isRf_r | exact isRf_n | exact isRf_o | assumption) (by decide) (by rfl) ?_
    refine g_aload_n dX9_lotOf_9 (by rfl) (by first | exact isRf_r | exact isRf_n | exact isRf_o | assumption) ?_
    refine g_ifnonnull (tgt := 15) dX9_lotOf_10 (by decide) (by first | exact isRf_r | exact isRf_n | exact isRf_o | assumption) (fun c1 => ?_) (fun c1 => nomatch c1)
    refine g_iload_n dX9_lotOf_15 (by rfl) ?_
    refine g_tableIn (tgt := 82) (off := 66) dX9_lotOf_16 (by decide) (by decide) (by decide) (by decide) ?_
    refine g_aload_n dX9_lotOf_82 (by rfl) (by first | exact isRf_r | exact isRf_n | exact isRf_o | assumption) ?_
    refine g_cV0x dX9_lotOf_83 lX9_129 vX2_depth (ct_X2_depth X lok.pos (al j (by omega))) (by first | assumption | (repeat' (first | assumption | exact hu_same | exact Ne.symm (by assumption) | apply hu_n1))) rfl ⟨Nat.le_of_ble_eq_true rfl, Nat.le_of_ble_eq_true rfl⟩ (Nat.le_of_ble_eq_true rfl) ⟨Nat.le_of_ble_eq_true rfl, Nat.le_of_ble_eq_true rfl⟩ ?_
    refine g_iret dX9_lotOf_86 rfl (Nat.le_refl _) (Nat.le_refl _) ?_
    refine Ex.i ?_ rfl
    unfold Q_lotOf
    rw [e8, okB_t hj (by omega), cl_nI (j := j) (by omega), cl_nI (j := 2) (by omega), show rngB 0 9 (nI 2) = true by decide]
    rfl
  · skip
    refine g_cV1x dX9_lotOf_5 lX9_117 vX1_findLot (ct_findLotN X (by omega) a0 a2 hvj) (by first | assumption | (repeat' (first | assumption | exact hu_same | exact Ne.symm (by assumption) | apply hu_n1))) rfl ⟨Nat.le_of_ble_eq_true rfl, Nat.le_of_ble_eq_true rfl⟩ (Nat.le_of_ble_eq_true rfl) ⟨Nat.le_of_ble_eq_true rfl, Nat.le_of_ble_eq_true rfl⟩ ?_
    refine g_astore_n (L1 := [(0, _), (1, _), (2, _), (3, _)]) dX9_lotOf_8 (by first | exact isRf_r | exact isRf_n | exact isRf_o | assumption) (by decide) (by rfl) ?_
    refine g_aload_n dX9_lotOf_9 (by rfl) (by first | exact isRf_r | exact isRf_n | exact isRf_o | assumption) ?_
    refine g_ifnonnull (tgt := 15) dX9_lotOf_10 (by decide) (by first | exact isRf_r | exact isRf_n | exact isRf_o | assumption) (fun c2 => absurd rfl c2) (fun c2 => ?_)
    refine g_iconst (v := (-1)) dX9_lotOf_13 (by decide) ?_
    refine g_iret dX9_lotOf_14 rfl (Nat.le_refl _) (Nat.le_refl _) ?_
    refine Ex.i ?_ rfl
    unfold Q_lotOf
    rw [e8, okB_f (by omega) hvj]; rfl

set_option maxHeartbeats 4000000 in
set_option maxRecDepth 100000 in
theorem ct_lotOf_3 (X : Cx) {h : Hp} {A B m : Nat → Nat} {C : Nat → Nat → Nat} {r : Nat → Int32} {n tn : Nat} {rows : Nat → Nat → Int32} {tg : Nat → Int32} {w : Int32}  (hO : Ok r) (hY : SysAt X h A B m C r n rows tn tg) : Ct X mX9_lotOf 2 0 0 [.ref (m 0), .int w, .int (nI 3)] h (Ex (.int (Q_lotOf r w (nI 3))) h) := by
  obtain ⟨y0, hA, -, y1, y2, -, yT, -⟩ := id hY
  have hO0 := hO
  obtain ⟨nv, nl, no, hnv, hnl, hno, e7, e8, e9, hset, hvok, hvz, hlok, hlz, hok, hoz, hw⟩ := hO0
  have hA0 := hA
  obtain ⟨a0, a1, a2, a3, a4, a5, a6, av, al, ao⟩ := hA0
  unfold hobC at a0
  rw [e7, e8, e9] at a0
  refine Ct.ofG vX9_lotOf.1.2.2.1 (Nat.le_of_ble_eq_true rfl) ?_
  show G X RX9 cX9_lotOf 4 (some .int) "lotOf" (Rm 2 0 0) (Fm X (Ex (.int (Q_lotOf r w (nI 3))) h) 0 0) 0 0 0 [(0, .ref (m 0)), (1, .int w), (2, .int (nI 3))] [] h
  refine g_aload_n dX9_lotOf_0 (by rfl) (by first | exact isRf_r | exact isRf_n | exact isRf_o | assumption) ?_
  refine g_getf dX9_lotOf_1 fX9_10 (by first | assumption | (repeat' (first | assumption | exact hu_same | exact Ne.symm (by assumption) | apply hu_n1))) (by rfl) ?_
  refine g_iload_n dX9_lotOf_4 (by rfl) ?_
  by_cases hvj : ∃ j, j < nl ∧ w = nI j
  · skip
    obtain ⟨j, hj, rfl⟩ := hvj
    have alj := al j (by omega)
    obtain ⟨l1, l2, l3⟩ := alj
    unfold lotC at l1
    have lok := hlok j hj
    refine g_cV1x dX9_lotOf_5 lX9_117 vX1_findLot (ct_findLot X (by omega) a0 a2 hj (laR_j (by omega))) (by first | assumption | (repeat' (first | assumption | exact hu_same | exact Ne.symm (by assumption) | apply hu_n1))) rfl ⟨Nat.le_of_ble_eq_true rfl, Nat.le_of_ble_eq_true rfl⟩ (Nat.le_of_ble_eq_true rfl) ⟨Nat.le_of_ble_eq_true rfl, Nat.le_of_ble_eq_true rfl⟩ ?_
    refine g_astore_n (L1 := [(0, _), (1, _), (2, _), (3, _)]) dX9_lotOf_8 (by first | exact isRf_r | exact isRf_n | exact isRf_o | assumption) (by decide) (by rfl) ?_
    refine g_aload_n dX9_lotOf_9 (by rfl) (by first | exact isRf_r | exact isRf_n | exact isRf_o | assumption) ?_
    refine g_ifnonnull (tgt := 15) dX9_lotOf_10 (by decide) (by first | exact isRf_r | exact isRf_n | exact isRf_o | assumption) (fun c1 => ?_) (fun c1 => nomatch c1)
    refine g_iload_n dX9_lotOf_15 (by rfl) ?_
    refine g_tableIn (tgt := 87) (off := 71) dX9_lotOf_16 (by decide) (by decide) (by decide) (by decide) ?_
    refine g_aload_n dX9_lotOf_87 (by rfl) (by first | exact isRf_r | exact isRf_n | exact isRf_o | assumption) ?_
    refine g_getf dX9_lotOf_88 fX9_133 (by first | assumption | (repeat' (first | assumption | exact hu_same | exact Ne.symm (by assumption) | apply hu_n1))) (by rfl) ?_
    refine g_cS1x dX9_lotOf_91 lX9_137 rfl vX9_sumOf (ct_X9_sumOf X (N := 4) (by omega) l2) ⟨Nat.le_of_ble_eq_true rfl, Nat.le_of_ble_eq_true rfl⟩ (Nat.le_of_ble_eq_true rfl) ⟨Nat.le_of_ble_eq_true rfl, Nat.le_of_ble_eq_true rfl⟩ ?_
    rw [sumI_nr 4 (by omega)]
    refine g_iret dX9_lotOf_94 rfl (Nat.le_refl _) (Nat.le_refl _) ?_
    refine Ex.i ?_ rfl
    unfold Q_lotOf
    rw [e8, okB_t hj (by omega), cl_nI (j := j) (by omega), cl_nI (j := 3) (by omega), show rngB 0 9 (nI 3) = true by decide]
    rfl
  · skip
    refine g_cV1x dX9_lotOf_5 lX9_117 vX1_findLot (ct_findLotN X (by omega) a0 a2 hvj) (by first | assumption | (repeat' (first | assumption | exact hu_same | exact Ne.symm (by assumption) | apply hu_n1))) rfl ⟨Nat.le_of_ble_eq_true rfl, Nat.le_of_ble_eq_true rfl⟩ (Nat.le_of_ble_eq_true rfl) ⟨Nat.le_of_ble_eq_true rfl, Nat.le_of_ble_eq_true rfl⟩ ?_
    refine g_astore_n (L1 := [(0, _), (1, _), (2, _), (3, _)]) dX9_lotOf_8 (by first | exact isRf_r | exact isRf_n | exact isRf_o | assumption) (by decide) (by rfl) ?_
    refine g_aload_n dX9_lotOf_9 (by rfl) (by first | exact isRf_r | exact isRf_n | exact isRf_o | assumption) ?_
    refine g_ifnonnull (tgt := 15) dX9_lotOf_10 (by decide) (by first | exact isRf_r | exact isRf_n | exact isRf_o | assumption) (fun c2 => absurd rfl c2) (fun c2 => ?_)
    refine g_iconst (v := (-1)) dX9_lotOf_13 (by decide) ?_
    refine g_iret dX9_lotOf_14 rfl (Nat.le_refl _) (Nat.le_refl _) ?_
    refine Ex.i ?_ rfl
    unfold Q_lotOf
    rw [e8, okB_f (by omega) hvj]; rfl

set_option maxHeartbeats 4000000 in
set_option maxRecDepth 100000 in
theorem ct_lotOf_4 (X : Cx) {h : Hp} {A B m : Nat → Nat} {C : Nat → Nat → Nat} {r : Nat → Int32} {n tn : Nat} {rows : Nat → Nat → Int32} {tg : Nat → Int32} {w : Int32}  (hO : Ok r) (hY : SysAt X h A B m C r n rows tn tg) : Ct X mX9_lotOf 2 0 0 [.ref (m 0), .int w, .int (nI 4)] h (Ex (.int (Q_lotOf r w (nI 4))) h) := by
  obtain ⟨y0, hA, -, y1, y2, -, yT, -⟩ := id hY
  have hO0 := hO
  obtain ⟨nv, nl, no, hnv, hnl, hno, e7, e8, e9, hset, hvok, hvz, hlok, hlz, hok, hoz, hw⟩ := hO0
  have hA0 := hA
  obtain ⟨a0, a1, a2, a3, a4, a5, a6, av, al, ao⟩ := hA0
  unfold hobC at a0
  rw [e7, e8, e9] at a0
  refine Ct.ofG vX9_lotOf.1.2.2.1 (Nat.le_of_ble_eq_true rfl) ?_
  show G X RX9 cX9_lotOf 4 (some .int) "lotOf" (Rm 2 0 0) (Fm X (Ex (.int (Q_lotOf r w (nI 4))) h) 0 0) 0 0 0 [(0, .ref (m 0)), (1, .int w), (2, .int (nI 4))] [] h
  refine g_aload_n dX9_lotOf_0 (by rfl) (by first | exact isRf_r | exact isRf_n | exact isRf_o | assumption) ?_
  refine g_getf dX9_lotOf_1 fX9_10 (by first | assumption | (repeat' (first | assumption | exact hu_same | exact Ne.symm (by assumption) | apply hu_n1))) (by rfl) ?_
  refine g_iload_n dX9_lotOf_4 (by rfl) ?_
  by_cases hvj : ∃ j, j < nl ∧ w = nI j
  · skip
    obtain ⟨j, hj, rfl⟩ := hvj
    have alj := al j (by omega)
    obtain ⟨l1, l2, l3⟩ := alj
    unfold lotC at l1
    have lok := hlok j hj
    refine g_cV1x dX9_lotOf_5 lX9_117 vX1_findLot (ct_findLot X (by omega) a0 a2 hj (laR_j (by omega))) (by first | assumption | (repeat' (first | assumption | exact hu_same | exact Ne.symm (by assumption) | apply hu_n1))) rfl ⟨Nat.le_of_ble_eq_true rfl, Nat.le_of_ble_eq_true rfl⟩ (Nat.le_of_ble_eq_true rfl) ⟨Nat.le_of_ble_eq_true rfl, Nat.le_of_ble_eq_true rfl⟩ ?_
    refine g_astore_n (L1 := [(0, _), (1, _), (2, _), (3, _)]) dX9_lotOf_8 (by first | exact isRf_r | exact isRf_n | exact isRf_o | assumption) (by decide) (by rfl) ?_
    refine g_aload_n dX9_lotOf_9 (by rfl) (by first | exact isRf_r | exact isRf_n | exact isRf_o | assumption) ?_
    refine g_ifnonnull (tgt := 15) dX9_lotOf_10 (by decide) (by first | exact isRf_r | exact isRf_n | exact isRf_o | assumption) (fun c1 => ?_) (fun c1 => nomatch c1)
    refine g_iload_n dX9_lotOf_15 (by rfl) ?_
    refine g_tableIn (tgt := 95) (off := 79) dX9_lotOf_16 (by decide) (by decide) (by decide) (by decide) ?_
    refine g_aload_n dX9_lotOf_95 (by rfl) (by first | exact isRf_r | exact isRf_n | exact isRf_o | assumption) ?_
    refine g_getf dX9_lotOf_96 fX9_141 (by first | assumption | (repeat' (first | assumption | exact hu_same | exact Ne.symm (by assumption) | apply hu_n1))) (by rfl) ?_
    refine g_cS1x dX9_lotOf_99 lX9_137 rfl vX9_sumOf (ct_X9_sumOf X (N := 4) (by omega) l3) ⟨Nat.le_of_ble_eq_true rfl, Nat.le_of_ble_eq_true rfl⟩ (Nat.le_of_ble_eq_true rfl) ⟨Nat.le_of_ble_eq_true rfl, Nat.le_of_ble_eq_true rfl⟩ ?_
    rw [sumI_nr 4 (by omega)]
    refine g_iret dX9_lotOf_102 rfl (Nat.le_refl _) (Nat.le_refl _) ?_
    refine Ex.i ?_ rfl
    unfold Q_lotOf
    rw [e8, okB_t hj (by omega), cl_nI (j := j) (by omega), cl_nI (j := 4) (by omega), show rngB 0 9 (nI 4) = true by decide]
    rfl
  · skip
    refine g_cV1x dX9_lotOf_5 lX9_117 vX1_findLot (ct_findLotN X (by omega) a0 a2 hvj) (by first | assumption | (repeat' (first | assumption | exact hu_same | exact Ne.symm (by assumption) | apply hu_n1))) rfl ⟨Nat.le_of_ble_eq_true rfl, Nat.le_of_ble_eq_true rfl⟩ (Nat.le_of_ble_eq_true rfl) ⟨Nat.le_of_ble_eq_true rfl, Nat.le_of_ble_eq_true rfl⟩ ?_
    refine g_astore_n (L1 := [(0, _), (1, _), (2, _), (3, _)]) dX9_lotOf_8 (by first | exact isRf_r | exact isRf_n | exact isRf_o | assumption) (by decide) (by rfl) ?_
    refine g_aload_n dX9_lotOf_9 (by rfl) (by first | exact isRf_r | exact isRf_n | exact isRf_o | assumption) ?_
    refine g_ifnonnull (tgt := 15) dX9_lotOf_10 (by decide) (by first | exact isRf_r | exact isRf_n | exact isRf_o | assumption) (fun c2 => absurd rfl c2) (fun c2 => ?_)
    refine g_iconst (v := (-1)) dX9_lotOf_13 (by decide) ?_
    refine g_iret dX9_lotOf_14 rfl (Nat.le_refl _) (Nat.le_refl _) ?_
    refine Ex.i ?_ rfl
    unfold Q_lotOf
    rw [e8, okB_f (by omega) hvj]; rfl

set_option maxHeartbeats 4000000 in
set_option maxRecDepth 100000 in
theorem ct_lotOf_5 (X : Cx) {h : Hp} {A B m : Nat → Nat} {C : Nat → Nat → Nat} {r : Nat → Int32} {n tn : Nat} {rows : Nat → Nat → Int32} {tg : Nat → Int32} {w : Int32}  (hO : Ok r) (hY : SysAt X h A B m C r n rows tn tg) : Ct X mX9_lotOf 2 0 0 [.ref (m 0), .int w, .int (nI 5)] h (Ex (.int (Q_lotOf r w (nI 5))) h) := by
  obtain ⟨y0, hA, -, y1, y2, -, yT, -⟩ := id hY
  have hO0 := hO
  obtain ⟨nv, nl, no, hnv, hnl, hno, e7, e8, e9, hset, hvok, hvz, hlok, hlz, hok, hoz, hw⟩ := hO0
  have hA0 := hA
  obtain ⟨a0, a1, a2, a3, a4, a5, a6, av, al, ao⟩ := hA0
  unfold hobC at a0
  rw [e7, e8, e9] at a0
  refine Ct.ofG vX9_lotOf.1.2.2.1 (Nat.le_of_ble_eq_true rfl) ?_
  show G X RX9 cX9_lotOf 4 (some .int) "lotOf" (Rm 2 0 0) (Fm X (Ex (.int (Q_lotOf r w (nI 5))) h) 0 0) 0 0 0 [(0, .ref (m 0)), (1, .int w), (2, .int (nI 5))] [] h
  refine g_aload_n dX9_lotOf_0 (by rfl) (by first | exact isRf_r | exact isRf_n | exact isRf_o | assumption) ?_
  refine g_getf dX9_lotOf_1 fX9_10 (by first | assumption | (repeat' (first | assumption | exact hu_same | exact Ne.symm (by assumption) | apply hu_n1))) (by rfl) ?_
  refine g_iload_n dX9_lotOf_4 (by rfl) ?_
  by_cases hvj : ∃ j, j < nl ∧ w = nI j
  · skip
    obtain ⟨j, hj, rfl⟩ := hvj
    have alj := al j (by omega)
    obtain ⟨l1, l2, l3⟩ := alj
    unfold lotC at l1
    have lok := hlok j hj
    refine g_cV1x dX9_lotOf_5 lX9_117 vX1_findLot (ct_findLot X (by omega) a0 a2 hj (laR_j (by omega))) (by first | assumption | (repeat' (first | assumption | exact hu_same | exact Ne.symm (by assumption) | apply hu_n1))) rfl ⟨Nat.le_of_ble_eq_true rfl, Nat.le_of_ble_eq_true rfl⟩ (Nat.le_of_ble_eq_true rfl) ⟨Nat.le_of_ble_eq_true rfl, Nat.le_of_ble_eq_true rfl⟩ ?_
    refine g_astore_n (L1 := [(0, _), (1, _), (2, _), (3, _)]) dX9_lotOf_8 (by first | exact isRf_r | exact isRf_n | exact isRf_o | assumption) (by decide) (by rfl) ?_
    refine g_aload_n dX9_lotOf_9 (by rfl) (by first | exact isRf_r | exact isRf_n | exact isRf_o | assumption) ?_
    refine g_ifnonnull (tgt := 15) dX9_lotOf_10 (by decide) (by first | exact isRf_r | exact isRf_n | exact isRf_o | assumption) (fun c1 => ?_) (fun c1 => nomatch c1)
    refine g_iload_n dX9_lotOf_15 (by rfl) ?_
    refine g_tableIn (tgt := 103) (off := 87) dX9_lotOf_16 (by decide) (by decide) (by decide) (by decide) ?_
    refine g_aload_n dX9_lotOf_103 (by rfl) (by first | exact isRf_r | exact isRf_n | exact isRf_o | assumption) ?_
    refine g_getf dX9_lotOf_104 fX9_144 (by first | assumption | (repeat' (first | assumption | exact hu_same | exact Ne.symm (by assumption) | apply hu_n1))) (by rfl) ?_
    refine g_cS1x dX9_lotOf_107 lX9_92 rfl vX9_oneIf (ct_oneIfz X lok.b10) ⟨Nat.le_of_ble_eq_true rfl, Nat.le_of_ble_eq_true rfl⟩ (Nat.le_of_ble_eq_true rfl) ⟨Nat.le_of_ble_eq_true rfl, Nat.le_of_ble_eq_true rfl⟩ ?_
    refine g_iret dX9_lotOf_110 rfl (Nat.le_refl _) (Nat.le_refl _) ?_
    refine Ex.i ?_ rfl
    unfold Q_lotOf
    rw [e8, okB_t hj (by omega), cl_nI (j := j) (by omega), cl_nI (j := 5) (by omega), show rngB 0 9 (nI 5) = true by decide]
    rfl
  · skip
    refine g_cV1x dX9_lotOf_5 lX9_117 vX1_findLot (ct_findLotN X (by omega) a0 a2 hvj) (by first | assumption | (repeat' (first | assumption | exact hu_same | exact Ne.symm (by assumption) | apply hu_n1))) rfl ⟨Nat.le_of_ble_eq_true rfl, Nat.le_of_ble_eq_true rfl⟩ (Nat.le_of_ble_eq_true rfl) ⟨Nat.le_of_ble_eq_true rfl, Nat.le_of_ble_eq_true rfl⟩ ?_
    refine g_astore_n (L1 := [(0, _), (1, _), (2, _), (3, _)]) dX9_lotOf_8 (by first | exact isRf_r | exact isRf_n | exact isRf_o | assumption) (by decide) (by rfl) ?_
    refine g_aload_n dX9_lotOf_9 (by rfl) (by first | exact isRf_r | exact isRf_n | exact isRf_o | assumption) ?_
    refine g_ifnonnull (tgt := 15) dX9_lotOf_10 (by decide) (by first | exact isRf_r | exact isRf_n | exact isRf_o | assumption) (fun c2 => absurd rfl c2) (fun c2 => ?_)
    refine g_iconst (v := (-1)) dX9_lotOf_13 (by decide) ?_
    refine g_iret dX9_lotOf_14 rfl (Nat.le_refl _) (Nat.le_refl _) ?_
    refine Ex.i ?_ rfl
    unfold Q_lotOf
    rw [e8, okB_f (by omega) hvj]; rfl

set_option maxHeartbeats 4000000 in
set_option maxRecDepth 100000 in
theorem ct_lotOf_6 (X : Cx) {h : Hp} {A B m : Nat → Nat} {C : Nat → Nat → Nat} {r : Nat → Int32} {n tn : Nat} {rows : Nat → Nat → Int32} {tg : Nat → Int32} {w : Int32}  (hO : Ok r) (hY : SysAt X h A B m C r n rows tn tg) : Ct X mX9_lotOf 2 0 0 [.ref (m 0), .int w, .int (nI 6)] h (Ex (.int (Q_lotOf r w (nI 6))) h) := by
  obtain ⟨y0, hA, -, y1, y2, -, yT, -⟩ := id hY
  have hO0 := hO
  obtain ⟨nv, nl, no, hnv, hnl, hno, e7, e8, e9, hset, hvok, hvz, hlok, hlz, hok, hoz, hw⟩ := hO0
  have hA0 := hA
  obtain ⟨a0, a1, a2, a3, a4, a5, a6, av, al, ao⟩ := hA0
  unfold hobC at a0
  rw [e7, e8, e9] at a0
  refine Ct.ofG vX9_lotOf.1.2.2.1 (Nat.le_of_ble_eq_true rfl) ?_
  show G X RX9 cX9_lotOf 4 (some .int) "lotOf" (Rm 2 0 0) (Fm X (Ex (.int (Q_lotOf r w (nI 6))) h) 0 0) 0 0 0 [(0, .ref (m 0)), (1, .int w), (2, .int (nI 6))] [] h
  refine g_aload_n dX9_lotOf_0 (by rfl) (by first | exact isRf_r | exact isRf_n | exact isRf_o | assumption) ?_
  refine g_getf dX9_lotOf_1 fX9_10 (by first | assumption | (repeat' (first | assumption | exact hu_same | exact Ne.symm (by assumption) | apply hu_n1))) (by rfl) ?_
  refine g_iload_n dX9_lotOf_4 (by rfl) ?_
  by_cases hvj : ∃ j, j < nl ∧ w = nI j
  · skip
    obtain ⟨j, hj, rfl⟩ := hvj
    have alj := al j (by omega)
    obtain ⟨l1, l2, l3⟩ := alj
    unfold lotC at l1
    have lok := hlok j hj
    refine g_cV1x dX9_lotOf_5 lX9_117 vX1_findLot (ct_findLot X (by omega) a0 a2 hj (laR_j (by omega))) (by first | assumption | (repeat' (first | assumption | exact hu_same | exact Ne.symm (by assumption) | apply hu_n1))) rfl ⟨Nat.le_of_ble_eq_true rfl, Nat.le_of_ble_eq_true rfl⟩ (Nat.le_of_ble_eq_true rfl) ⟨Nat.le_of_ble_eq_true rfl, Nat.le_of_ble_eq_true rfl⟩ ?_
    refine g_astore_n (L1 := [(0, _), (1, _), (2, _), (3, _)]) dX9_lotOf_8 (by first | exact isRf_r | exact isRf_n | exact isRf_o | assumption) (by decide) (by rfl) ?_
    refine g_aload_n dX9_lotOf_9 (by rfl) (by first | exact isRf_r | exact isRf_n | exact isRf_o | assumption) ?_
    refine g_ifnonnull (tgt := 15) dX9_lotOf_10 (by decide) (by first | exact isRf_r | exact isRf_n | exact isRf_o | assumption) (fun c1 => ?_) (fun c1 => nomatch c1)
    refine g_iload_n dX9_lotOf_15 (by rfl) ?_
    refine g_tableIn (tgt := 111) (off := 95) dX9_lotOf_16 (by decide) (by decide) (by decide) (by decide) ?_
    refine g_aload_n dX9_lotOf_111 (by rfl) (by first | exact isRf_r | exact isRf_n | exact isRf_o | assumption) ?_
    refine g_getf dX9_lotOf_112 fX9_148 (by first | assumption | (repeat' (first | assumption | exact hu_same | exact Ne.symm (by assumption) | apply hu_n1))) (by rfl) ?_
    refine g_cS1x dX9_lotOf_115 lX9_92 rfl vX9_oneIf (ct_oneIfz X lok.2.2.2.2.2.1) ⟨Nat.le_of_ble_eq_true rfl, Nat.le_of_ble_eq_true rfl⟩ (Nat.le_of_ble_eq_true rfl) ⟨Nat.le_of_ble_eq_true rfl, Nat.le_of_ble_eq_true rfl⟩ ?_
    refine g_iret dX9_lotOf_118 rfl (Nat.le_refl _) (Nat.le_refl _) ?_
    refine Ex.i ?_ rfl
    unfold Q_lotOf
    rw [e8, okB_t hj (by omega), cl_nI (j := j) (by omega), cl_nI (j := 6) (by omega), show rngB 0 9 (nI 6) = true by decide]
    rfl
  · skip
    refine g_cV1x dX9_lotOf_5 lX9_117 vX1_findLot (ct_findLotN X (by omega) a0 a2 hvj) (by first | assumption | (repeat' (first | assumption | exact hu_same | exact Ne.symm (by assumption) | apply hu_n1))) rfl ⟨Nat.le_of_ble_eq_true rfl, Nat.le_of_ble_eq_true rfl⟩ (Nat.le_of_ble_eq_true rfl) ⟨Nat.le_of_ble_eq_true rfl, Nat.le_of_ble_eq_true rfl⟩ ?_
    refine g_astore_n (L1 := [(0, _), (1, _), (2, _), (3, _)]) dX9_lotOf_8 (by first | exact isRf_r | exact isRf_n | exact isRf_o | assumption) (by decide) (by rfl) ?_
    refine g_aload_n dX9_lotOf_9 (by rfl) (by first | exact isRf_r | exact isRf_n | exact isRf_o | assumption) ?_
    refine g_ifnonnull (tgt := 15) dX9_lotOf_10 (by decide) (by first | exact isRf_r | exact isRf_n | exact isRf_o | assumption) (fun c2 => absurd rfl c2) (fun c2 => ?_)
    refine g_iconst (v := (-1)) dX9_lotOf_13 (by decide) ?_
    refine g_iret dX9_lotOf_14 rfl (Nat.le_refl _) (Nat.le_refl _) ?_
    refine Ex.i ?_ rfl
    unfold Q_lotOf
    rw [e8, okB_f (by omega) hvj]; rfl

set_option maxHeartbeats 4000000 in
set_option maxRecDepth 100000 in
theorem ct_lotOf_7 (X : Cx) {h : Hp} {A B m : Nat → Nat} {C : Nat → Nat → Nat} {r : Nat → Int32} {n tn : Nat} {rows : Nat → Nat → Int32} {tg : Nat → Int32} {w : Int32}  (hO : Ok r) (hY : SysAt X h A B m C r n rows tn tg) : Ct X mX9_lotOf 2 0 0 [.ref (m 0), .int w, .int (nI 7)] h (Ex (.int (Q_lotOf r w (nI 7))) h) := by
  obtain ⟨y0, hA, -, y1, y2, -, yT, -⟩ := id hY
  have hO0 := hO
  obtain ⟨nv, nl, no, hnv, hnl, hno, e7, e8, e9, hset, hvok, hvz, hlok, hlz, hok, hoz, hw⟩ := hO0
  have hA0 := hA
  obtain ⟨a0, a1, a2, a3, a4, a5, a6, av, al, ao⟩ := hA0
  unfold hobC at a0
  rw [e7, e8, e9] at a0
  refine Ct.ofG vX9_lotOf.1.2.2.1 (Nat.le_of_ble_eq_true rfl) ?_
  show G X RX9 cX9_lotOf 4 (some .int) "lotOf" (Rm 2 0 0) (Fm X (Ex (.int (Q_lotOf r w (nI 7))) h) 0 0) 0 0 0 [(0, .ref (m 0)), (1, .int w), (2, .int (nI 7))] [] h
  refine g_aload_n dX9_lotOf_0 (by rfl) (by first | exact isRf_r | exact isRf_n | exact isRf_o | assumption) ?_
  refine g_getf dX9_lotOf_1 fX9_10 (by first | assumption | (repeat' (first | assumption | exact hu_same | exact Ne.symm (by assumption) | apply hu_n1))) (by rfl) ?_
  refine g_iload_n dX9_lotOf_4 (by rfl) ?_
  by_cases hvj : ∃ j, j < nl ∧ w = nI j
  · skip
    obtain ⟨j, hj, rfl⟩ := hvj
    have alj := al j (by omega)
    obtain ⟨l1, l2, l3⟩ := alj
    unfold lotC at l1
    have lok := hlok j hj
    refine g_cV1x dX9_lotOf_5 lX9_117 vX1_findLot (ct_findLot X (by omega) a0 a2 hj (laR_j (by omega))) (by first | assumption | (repeat' (first | assumption | exact hu_same | exact Ne.symm (by assumption) | apply hu_n1))) rfl ⟨Nat.le_of_ble_eq_true rfl, Nat.le_of_ble_eq_true rfl⟩ (Nat.le_of_ble_eq_true rfl) ⟨Nat.le_of_ble_eq_true rfl, Nat.le_of_ble_eq_true rfl⟩ ?_
    refine g_astore_n (L1 := [(0, _), (1, _), (2, _), (3, _)]) dX9_lotOf_8 (by first | exact isRf_r | exact isRf_n | exact isRf_o | assumption) (by decide) (by rfl) ?_
    refine g_aload_n dX9_lotOf_9 (by rfl) (by first | exact isRf_r | exact isRf_n | exact isRf_o | assumption) ?_
    refine g_ifnonnull (tgt := 15) dX9_lotOf_10 (by decide) (by first | exact isRf_r | exact isRf_n | exact isRf_o | assumption) (fun c1 => ?_) (fun c1 => nomatch c1)
    refine g_iload_n dX9_lotOf_15 (by rfl) ?_
    refine g_tableIn (tgt := 119) (off := 103) dX9_lotOf_16 (by decide) (by decide) (by decide) (by decide) ?_
    refine g_aload_n dX9_lotOf_119 (by rfl) (by first | exact isRf_r | exact isRf_n | exact isRf_o | assumption) ?_
    refine g_getf dX9_lotOf_120 fX9_151 (by first | assumption | (repeat' (first | assumption | exact hu_same | exact Ne.symm (by assumption) | apply hu_n1))) (by rfl) ?_
    refine g_cS1x dX9_lotOf_123 lX9_92 rfl vX9_oneIf (ct_oneIfz X lok.b12) ⟨Nat.le_of_ble_eq_true rfl, Nat.le_of_ble_eq_true rfl⟩ (Nat.le_of_ble_eq_true rfl) ⟨Nat.le_of_ble_eq_true rfl, Nat.le_of_ble_eq_true rfl⟩ ?_
    refine g_iret dX9_lotOf_126 rfl (Nat.le_refl _) (Nat.le_refl _) ?_
    refine Ex.i ?_ rfl
    unfold Q_lotOf
    rw [e8, okB_t hj (by omega), cl_nI (j := j) (by omega), cl_nI (j := 7) (by omega), show rngB 0 9 (nI 7) = true by decide]
    rfl
  · skip
    refine g_cV1x dX9_lotOf_5 lX9_117 vX1_findLot (ct_findLotN X (by omega) a0 a2 hvj) (by first | assumption | (repeat' (first | assumption | exact hu_same | exact Ne.symm (by assumption) | apply hu_n1))) rfl ⟨Nat.le_of_ble_eq_true rfl, Nat.le_of_ble_eq_true rfl⟩ (Nat.le_of_ble_eq_true rfl) ⟨Nat.le_of_ble_eq_true rfl, Nat.le_of_ble_eq_true rfl⟩ ?_
    refine g_astore_n (L1 := [(0, _), (1, _), (2, _), (3, _)]) dX9_lotOf_8 (by first | exact isRf_r | exact isRf_n | exact isRf_o | assumption) (by decide) (by rfl) ?_
    refine g_aload_n dX9_lotOf_9 (by rfl) (by first | exact isRf_r | exact isRf_n | exact isRf_o | assumption) ?_
    refine g_ifnonnull (tgt := 15) dX9_lotOf_10 (by decide) (by first | exact isRf_r | exact isRf_n | exact isRf_o | assumption) (fun c2 => absurd rfl c2) (fun c2 => ?_)
    refine g_iconst (v := (-1)) dX9_lotOf_13 (by decide) ?_
    refine g_iret dX9_lotOf_14 rfl (Nat.le_refl _) (Nat.le_refl _) ?_
    refine Ex.i ?_ rfl
    unfold Q_lotOf
    rw [e8, okB_f (by omega) hvj]; rfl

set_option maxHeartbeats 4000000 in
set_option maxRecDepth 100000 in
theorem ct_lotOf_8 (X : Cx) {h : Hp} {A B m : Nat → Nat} {C : Nat → Nat → Nat} {r : Nat → Int32} {n tn : Nat} {rows : Nat → Nat → Int32} {tg : Nat → Int32} {w : Int32}  (hO : Ok r) (hY : SysAt X h A B m C r n rows tn tg) : Ct X mX9_lotOf 2 0 0 [.ref (m 0), .int w, .int (nI 8)] h (Ex (.int (Q_lotOf r w (nI 8))) h) := by
  obtain ⟨y0, hA, -, y1, y2, -, yT, -⟩ := id hY
  have hO0 := hO
  obtain ⟨nv, nl, no, hnv, hnl, hno, e7, e8, e9, hset, hvok, hvz, hlok, hlz, hok, hoz, hw⟩ := hO0
  have hA0 := hA
  obtain ⟨a0, a1, a2, a3, a4, a5, a6, av, al, ao⟩ := hA0
  unfold hobC at a0
  rw [e7, e8, e9] at a0
  refine Ct.ofG vX9_lotOf.1.2.2.1 (Nat.le_of_ble_eq_true rfl) ?_
  show G X RX9 cX9_lotOf 4 (some .int) "lotOf" (Rm 2 0 0) (Fm X (Ex (.int (Q_lotOf r w (nI 8))) h) 0 0) 0 0 0 [(0, .ref (m 0)), (1, .int w), (2, .int (nI 8))] [] h
  refine g_aload_n dX9_lotOf_0 (by rfl) (by first | exact isRf_r | exact isRf_n | exact isRf_o | assumption) ?_
  refine g_getf dX9_lotOf_1 fX9_10 (by first | assumption | (repeat' (first | assumption | exact hu_same | exact Ne.symm (by assumption) | apply hu_n1))) (by rfl) ?_
  refine g_iload_n dX9_lotOf_4 (by rfl) ?_
  by_cases hvj : ∃ j, j < nl ∧ w = nI j
  · skip
    obtain ⟨j, hj, rfl⟩ := hvj
    have alj := al j (by omega)
    obtain ⟨l1, l2, l3⟩ := alj
    unfold lotC at l1
    have lok := hlok j hj
    refine g_cV1x dX9_lotOf_5 lX9_117 vX1_findLot (ct_findLot X (by omega) a0 a2 hj (laR_j (by omega))) (by first | assumption | (repeat' (first | assumption | exact hu_same | exact Ne.symm (by assumption) | apply hu_n1))) rfl ⟨Nat.le_of_ble_eq_true rfl, Nat.le_of_ble_eq_true rfl⟩ (Nat.le_of_ble_eq_true rfl) ⟨Nat.le_of_ble_eq_true rfl, Nat.le_of_ble_eq_true rfl⟩ ?_
    refine g_astore_n (L1 := [(0, _), (1, _), (2, _), (3, _)]) dX9_lotOf_8 (by first | exact isRf_r | exact isRf_n | exact isRf_o | assumption) (by decide) (by rfl) ?_
    refine g_aload_n dX9_lotOf_9 (by rfl) (by first | exact isRf_r | exact isRf_n | exact isRf_o | assumption) ?_
    refine g_ifnonnull (tgt := 15) dX9_lotOf_10 (by decide) (by first | exact isRf_r | exact isRf_n | exact isRf_o | assumption) (fun c1 => ?_) (fun c1 => nomatch c1)
    refine g_iload_n dX9_lotOf_15 (by rfl) ?_
    refine g_tableIn (tgt := 127) (off := 111) dX9_lotOf_16 (by decide) (by decide) (by decide) (by decide) ?_
    refine g_aload_n dX9_lotOf_127 (by rfl) (by first | exact isRf_r | exact isRf_n | exact isRf_o | assumption) ?_
    refine g_cV0x dX9_lotOf_128 lX9_154 vX2_isSold (ct_X2_isSold X (al j (by omega))) (by first | assumption | (repeat' (first | assumption | exact hu_same | exact Ne.symm (by assumption) | apply hu_n1))) rfl ⟨Nat.le_of_ble_eq_true rfl, Nat.le_of_ble_eq_true rfl⟩ (Nat.le_of_ble_eq_true rfl) ⟨Nat.le_of_ble_eq_true rfl, Nat.le_of_ble_eq_true rfl⟩ ?_
    refine g_if_eq (tgt := 141) dX9_lotOf_131 (by decide) (fun c2 => ?_) (fun c2 => ?_)
    · skip
      refine g_bipush (v := (-4)) dX9_lotOf_141 (by decide) ?_
      refine g_iret dX9_lotOf_143 rfl (Nat.le_refl _) (Nat.le_refl _) ?_
      refine Ex.i ?_ rfl
      unfold Q_lotOf
      rw [e8, okB_t hj (by omega), cl_nI (j := j) (by omega)]
      show _ = cond (sold r j) _ _
      first
        | (rw [show sold r j = true from decide_eq_true (bI_d1 _ (by assumption))]; rfl)
        | (rw [show sold r j = false from decide_eq_false (bI_d0 _ (by assumption))]; rfl)
    · skip
      refine g_aload_n dX9_lotOf_134 (by rfl) (by first | exact isRf_r | exact isRf_n | exact isRf_o | assumption) ?_
      refine g_getf dX9_lotOf_135 fX9_158 (by first | assumption | (repeat' (first | assumption | exact hu_same | exact Ne.symm (by assumption) | apply hu_n1))) (by rfl) ?_
      refine g_goto (tgt := 143) dX9_lotOf_138 (by decide) ?_
      refine g_iret dX9_lotOf_143 rfl (Nat.le_refl _) (Nat.le_refl _) ?_
      refine Ex.i ?_ rfl
      unfold Q_lotOf
      rw [e8, okB_t hj (by omega), cl_nI (j := j) (by omega)]
      show _ = cond (sold r j) _ _
      first
        | (rw [show sold r j = true from decide_eq_true (bI_d1 _ (by assumption))]; rfl)
        | (rw [show sold r j = false from decide_eq_false (bI_d0 _ (by assumption))]; rfl)
  · skip
    refine g_cV1x dX9_lotOf_5 lX9_117 vX1_findLot (ct_findLotN X (by omega) a0 a2 hvj) (by first | assumption | (repeat' (first | assumption | exact hu_same | exact Ne.symm (by assumption) | apply hu_n1))) rfl ⟨Nat.le_of_ble_eq_true rfl, Nat.le_of_ble_eq_true rfl⟩ (Nat.le_of_ble_eq_true rfl) ⟨Nat.le_of_ble_eq_true rfl, Nat.le_of_ble_eq_true rfl⟩ ?_
    refine g_astore_n (L1 := [(0, _), (1, _), (2, _), (3, _)]) dX9_lotOf_8 (by first | exact isRf_r | exact isRf_n | exact isRf_o | assumption) (by decide) (by rfl) ?_
    refine g_aload_n dX9_lotOf_9 (by rfl) (by first | exact isRf_r | exact isRf_n | exact isRf_o | assumption) ?_
    refine g_ifnonnull (tgt := 15) dX9_lotOf_10 (by decide) (by first | exact isRf_r | exact isRf_n | exact isRf_o | assumption) (fun c3 => absurd rfl c3) (fun c3 => ?_)
    refine g_iconst (v := (-1)) dX9_lotOf_13 (by decide) ?_
    refine g_iret dX9_lotOf_14 rfl (Nat.le_refl _) (Nat.le_refl _) ?_
    refine Ex.i ?_ rfl
    unfold Q_lotOf
    rw [e8, okB_f (by omega) hvj]; rfl

set_option maxHeartbeats 4000000 in
set_option maxRecDepth 100000 in
theorem ct_lotOf_9 (X : Cx) {h : Hp} {A B m : Nat → Nat} {C : Nat → Nat → Nat} {r : Nat → Int32} {n tn : Nat} {rows : Nat → Nat → Int32} {tg : Nat → Int32} {w : Int32}  (hO : Ok r) (hY : SysAt X h A B m C r n rows tn tg) : Ct X mX9_lotOf 2 0 0 [.ref (m 0), .int w, .int (nI 9)] h (Ex (.int (Q_lotOf r w (nI 9))) h) := by
  obtain ⟨y0, hA, -, y1, y2, -, yT, -⟩ := id hY
  have hO0 := hO
  obtain ⟨nv, nl, no, hnv, hnl, hno, e7, e8, e9, hset, hvok, hvz, hlok, hlz, hok, hoz, hw⟩ := hO0
  have hA0 := hA
  obtain ⟨a0, a1, a2, a3, a4, a5, a6, av, al, ao⟩ := hA0
  unfold hobC at a0
  rw [e7, e8, e9] at a0
  refine Ct.ofG vX9_lotOf.1.2.2.1 (Nat.le_of_ble_eq_true rfl) ?_
  show G X RX9 cX9_lotOf 4 (some .int) "lotOf" (Rm 2 0 0) (Fm X (Ex (.int (Q_lotOf r w (nI 9))) h) 0 0) 0 0 0 [(0, .ref (m 0)), (1, .int w), (2, .int (nI 9))] [] h
  refine g_aload_n dX9_lotOf_0 (by rfl) (by first | exact isRf_r | exact isRf_n | exact isRf_o | assumption) ?_
  refine g_getf dX9_lotOf_1 fX9_10 (by first | assumption | (repeat' (first | assumption | exact hu_same | exact Ne.symm (by assumption) | apply hu_n1))) (by rfl) ?_
  refine g_iload_n dX9_lotOf_4 (by rfl) ?_
  by_cases hvj : ∃ j, j < nl ∧ w = nI j
  · skip
    obtain ⟨j, hj, rfl⟩ := hvj
    have alj := al j (by omega)
    obtain ⟨l1, l2, l3⟩ := alj
    unfold lotC at l1
    have lok := hlok j hj
    refine g_cV1x dX9_lotOf_5 lX9_117 vX1_findLot (ct_findLot X (by omega) a0 a2 hj (laR_j (by omega))) (by first | assumption | (repeat' (first | assumption | exact hu_same | exact Ne.symm (by assumption) | apply hu_n1))) rfl ⟨Nat.le_of_ble_eq_true rfl, Nat.le_of_ble_eq_true rfl⟩ (Nat.le_of_ble_eq_true rfl) ⟨Nat.le_of_ble_eq_true rfl, Nat.le_of_ble_eq_true rfl⟩ ?_
    refine g_astore_n (L1 := [(0, _), (1, _), (2, _), (3, _)]) dX9_lotOf_8 (by first | exact isRf_r | exact isRf_n | exact isRf_o | assumption) (by decide) (by rfl) ?_
    refine g_aload_n dX9_lotOf_9 (by rfl) (by first | exact isRf_r | exact isRf_n | exact isRf_o | assumption) ?_
    refine g_ifnonnull (tgt := 15) dX9_lotOf_10 (by decide) (by first | exact isRf_r | exact isRf_n | exact isRf_o | assumption) (fun c1 => ?_) (fun c1 => nomatch c1)
    refine g_iload_n dX9_lotOf_15 (by rfl) ?_
    refine g_tableIn (tgt := 144) (off := 128) dX9_lotOf_16 (by decide) (by decide) (by decide) (by decide) ?_
    refine g_aload_n dX9_lotOf_144 (by rfl) (by first | exact isRf_r | exact isRf_n | exact isRf_o | assumption) ?_
    refine g_getf dX9_lotOf_145 fX9_161 (by first | assumption | (repeat' (first | assumption | exact hu_same | exact Ne.symm (by assumption) | apply hu_n1))) (by rfl) ?_
    refine g_iret dX9_lotOf_148 rfl (Nat.le_refl _) (Nat.le_refl _) ?_
    refine Ex.i ?_ rfl
    unfold Q_lotOf
    rw [e8, okB_t hj (by omega), cl_nI (j := j) (by omega), cl_nI (j := 9) (by omega), show rngB 0 9 (nI 9) = true by decide]
    rfl
  · skip
    refine g_cV1x dX9_lotOf_5 lX9_117 vX1_findLot (ct_findLotN X (by omega) a0 a2 hvj) (by first | assumption | (repeat' (first | assumption | exact hu_same | exact Ne.symm (by assumption) | apply hu_n1))) rfl ⟨Nat.le_of_ble_eq_true rfl, Nat.le_of_ble_eq_true rfl⟩ (Nat.le_of_ble_eq_true rfl) ⟨Nat.le_of_ble_eq_true rfl, Nat.le_of_ble_eq_true rfl⟩ ?_
    refine g_astore_n (L1 := [(0, _), (1, _), (2, _), (3, _)]) dX9_lotOf_8 (by first | exact isRf_r | exact isRf_n | exact isRf_o | assumption) (by decide) (by rfl) ?_
    refine g_aload_n dX9_lotOf_9 (by rfl) (by first | exact isRf_r | exact isRf_n | exact isRf_o | assumption) ?_
    refine g_ifnonnull (tgt := 15) dX9_lotOf_10 (by decide) (by first | exact isRf_r | exact isRf_n | exact isRf_o | assumption) (fun c2 => absurd rfl c2) (fun c2 => ?_)
    refine g_iconst (v := (-1)) dX9_lotOf_13 (by decide) ?_
    refine g_iret dX9_lotOf_14 rfl (Nat.le_refl _) (Nat.le_refl _) ?_
    refine Ex.i ?_ rfl
    unfold Q_lotOf
    rw [e8, okB_f (by omega) hvj]; rfl

set_option maxHeartbeats 4000000 in
set_option maxRecDepth 100000 in
theorem ct_lotOf_o (X : Cx) {h : Hp} {A B m : Nat → Nat} {C : Nat → Nat → Nat} {r : Nat → Int32} {n tn : Nat} {rows : Nat → Nat → Int32} {tg : Nat → Int32} {w : Int32} {k : Int32}  (hO : Ok r) (hY : SysAt X h A B m C r n rows tn tg) (hk : rngB 0 9 k = false) : Ct X mX9_lotOf 2 0 0 [.ref (m 0), .int w, .int k] h (Ex (.int (Q_lotOf r w k)) h) := by
  obtain ⟨y0, hA, -, y1, y2, -, yT, -⟩ := id hY
  have hO0 := hO
  obtain ⟨nv, nl, no, hnv, hnl, hno, e7, e8, e9, hset, hvok, hvz, hlok, hlz, hok, hoz, hw⟩ := hO0
  have hA0 := hA
  obtain ⟨a0, a1, a2, a3, a4, a5, a6, av, al, ao⟩ := hA0
  unfold hobC at a0
  rw [e7, e8, e9] at a0
  have hout := rng_o hk
  have yh : (9 : Int32).toInt = 9 := by decide
  rw [z_toInt, yh] at hout
  refine Ct.ofG vX9_lotOf.1.2.2.1 (Nat.le_of_ble_eq_true rfl) ?_
  show G X RX9 cX9_lotOf 4 (some .int) "lotOf" (Rm 2 0 0) (Fm X (Ex (.int (Q_lotOf r w k)) h) 0 0) 0 0 0 [(0, .ref (m 0)), (1, .int w), (2, .int k)] [] h
  refine g_aload_n dX9_lotOf_0 (by rfl) (by first | exact isRf_r | exact isRf_n | exact isRf_o | assumption) ?_
  refine g_getf dX9_lotOf_1 fX9_10 (by first | assumption | (repeat' (first | assumption | exact hu_same | exact Ne.symm (by assumption) | apply hu_n1))) (by rfl) ?_
  refine g_iload_n dX9_lotOf_4 (by rfl) ?_
  by_cases hvj : ∃ j, j < nl ∧ w = nI j
  · skip
    obtain ⟨j, hj, rfl⟩ := hvj
    have alj := al j (by omega)
    obtain ⟨l1, l2, l3⟩ := alj
    unfold lotC at l1
    have lok := hlok j hj
    refine g_cV1x dX9_lotOf_5 lX9_117 vX1_findLot (ct_findLot X (by omega) a0 a2 hj (laR_j (by omega))) (by first | assumption | (repeat' (first | assumption | exact hu_same | exact Ne.symm (by assumption) | apply hu_n1))) rfl ⟨Nat.le_of_ble_eq_true rfl, Nat.le_of_ble_eq_true rfl⟩ (Nat.le_of_ble_eq_true rfl) ⟨Nat.le_of_ble_eq_true rfl, Nat.le_of_ble_eq_true rfl⟩ ?_
    refine g_astore_n (L1 := [(0, _), (1, _), (2, _), (3, _)]) dX9_lotOf_8 (by first | exact isRf_r | exact isRf_n | exact isRf_o | assumption) (by decide) (by rfl) ?_
    refine g_aload_n dX9_lotOf_9 (by rfl) (by first | exact isRf_r | exact isRf_n | exact isRf_o | assumption) ?_
    refine g_ifnonnull (tgt := 15) dX9_lotOf_10 (by decide) (by first | exact isRf_r | exact isRf_n | exact isRf_o | assumption) (fun c1 => ?_) (fun c1 => nomatch c1)
    refine g_iload_n dX9_lotOf_15 (by rfl) ?_
    refine g_tableOut (tgt := 149) dX9_lotOf_16 hout (by decide) ?_
    refine g_iconst (v := (-1)) dX9_lotOf_149 (by decide) ?_
    refine g_iret dX9_lotOf_150 rfl (Nat.le_refl _) (Nat.le_refl _) ?_
    refine Ex.i ?_ rfl
    unfold Q_lotOf
    rw [hk, Bool.and_false]
    rfl
  · skip
    refine g_cV1x dX9_lotOf_5 lX9_117 vX1_findLot (ct_findLotN X (by omega) a0 a2 hvj) (by first | assumption | (repeat' (first | assumption | exact hu_same | exact Ne.symm (by assumption) | apply hu_n1))) rfl ⟨Nat.le_of_ble_eq_true rfl, Nat.le_of_ble_eq_true rfl⟩ (Nat.le_of_ble_eq_true rfl) ⟨Nat.le_of_ble_eq_true rfl, Nat.le_of_ble_eq_true rfl⟩ ?_
    refine g_astore_n (L1 := [(0, _), (1, _), (2, _), (3, _)]) dX9_lotOf_8 (by first | exact isRf_r | exact isRf_n | exact isRf_o | assumption) (by decide) (by rfl) ?_
    refine g_aload_n dX9_lotOf_9 (by rfl) (by first | exact isRf_r | exact isRf_n | exact isRf_o | assumption) ?_
    refine g_ifnonnull (tgt := 15) dX9_lotOf_10 (by decide) (by first | exact isRf_r | exact isRf_n | exact isRf_o | assumption) (fun c2 => absurd rfl c2) (fun c2 => ?_)
    refine g_iconst (v := (-1)) dX9_lotOf_13 (by decide) ?_
    refine g_iret dX9_lotOf_14 rfl (Nat.le_refl _) (Nat.le_refl _) ?_
    refine Ex.i ?_ rfl
    unfold Q_lotOf
    rw [e8, okB_f (by omega) hvj]; rfl

theorem ct_X9_lotOf (X : Cx) {h : Hp} {A B m : Nat → Nat} {C : Nat → Nat → Nat} {r : Nat → Int32} {n tn : Nat} {rows : Nat → Nat → Int32} {tg : Nat → Int32} {w : Int32} {k : Int32} (hO : Ok r) (hY : SysAt X h A B m C r n rows tn tg) : Ct X mX9_lotOf 2 0 0 [.ref (m 0), .int w, .int k] h (Ex (.int (Q_lotOf r w k)) h) := by
  cases hw : rngB 0 9 k with
  | false => exact ct_lotOf_o X hO hY hw
  | true =>
    obtain ⟨j, hj, rfl⟩ := rng_j (n := 9) hw (by decide) (by omega)
    rcases (show j = 0 ∨ j = 1 ∨ j = 2 ∨ j = 3 ∨ j = 4 ∨ j = 5 ∨ j = 6 ∨ j = 7 ∨ j = 8 ∨ j = 9 by omega) with rfl | rfl | rfl | rfl | rfl | rfl | rfl | rfl | rfl | rfl
    · exact ct_lotOf_0 X hO hY
    · exact ct_lotOf_1 X hO hY
    · exact ct_lotOf_2 X hO hY
    · exact ct_lotOf_3 X hO hY
    · exact ct_lotOf_4 X hO hY
    · exact ct_lotOf_5 X hO hY
    · exact ct_lotOf_6 X hO hY
    · exact ct_lotOf_7 X hO hY
    · exact ct_lotOf_8 X hO hY
    · exact ct_lotOf_9 X hO hY

def Q_shade (r : Nat → Int32) (w k : Int32) : Int32 := cond (okB (r 8) w && rngB 0 3 k) (shF (ltx r (cl w)) (cl k)) (-1)

set_option maxHeartbeats 4000000 in
set_option maxRecDepth 100000 in
theorem ct_X9_shade (X : Cx) {h : Hp} {A B m : Nat → Nat} {C : Nat → Nat → Nat} {r : Nat → Int32} {n tn : Nat} {rows : Nat → Nat → Int32} {tg : Nat → Int32} {w k : Int32}  (hO : Ok r) (hY : SysAt X h A B m C r n rows tn tg) : Ct X mX9_shade 2 0 0 [.ref (m 0), .int w, .int k] h (Ex (.int (Q_shade r w k)) h) := by
  obtain ⟨y0, hA, -, y1, y2, -, yT, -⟩ := id hY
  have hO0 := hO
  obtain ⟨nv, nl, no, hnv, hnl, hno, e7, e8, e9, hset, hvok, hvz, hlok, hlz, hok, hoz, hw⟩ := hO0
  have hA0 := hA
  obtain ⟨a0, a1, a2, a3, a4, a5, a6, av, al, ao⟩ := hA0
  unfold hobC at a0
  rw [e7, e8, e9] at a0
  refine Ct.ofG vX9_shade.1.2.2.1 (Nat.le_of_ble_eq_true rfl) ?_
  show G X RX9 cX9_shade 4 (some .int) "shade" (Rm 2 0 0) (Fm X (Ex (.int (Q_shade r w k)) h) 0 0) 0 0 0 [(0, .ref (m 0)), (1, .int w), (2, .int k)] [] h
  refine g_aload_n dX9_shade_0 (by rfl) (by first | exact isRf_r | exact isRf_n | exact isRf_o | assumption) ?_
  refine g_getf dX9_shade_1 fX9_10 (by first | assumption | (repeat' (first | assumption | exact hu_same | exact Ne.symm (by assumption) | apply hu_n1))) (by rfl) ?_
  refine g_iload_n dX9_shade_4 (by rfl) ?_
  by_cases hvj : ∃ j, j < nl ∧ w = nI j
  · skip
    obtain ⟨j, hj, rfl⟩ := hvj
    have alj := al j (by omega)
    obtain ⟨l1, l2, l3⟩ := alj
    unfold lotC at l1
    have lok := hlok j hj
    refine g_cV1x dX9_shade_5 lX9_117 vX1_findLot (ct_findLot X (by omega) a0 a2 hj (laR_j (by omega))) (by first | assumption | (repeat' (first | assumption | exact hu_same | exact Ne.symm (by assumption) | apply hu_n1))) rfl ⟨Nat.le_of_ble_eq_true rfl, Nat.le_of_ble_eq_true rfl⟩ (Nat.le_of_ble_eq_true rfl) ⟨Nat.le_of_ble_eq_true rfl, Nat.le_of_ble_eq_true rfl⟩ ?_
    refine g_astore_n (L1 := [(0, _), (1, _), (2, _), (3, _)]) dX9_shade_8 (by first | exact isRf_r | exact isRf_n | exact isRf_o | assumption) (by decide) (by rfl) ?_
    refine g_aload_n dX9_shade_9 (by rfl) (by first | exact isRf_r | exact isRf_n | exact isRf_o | assumption) ?_
    refine g_ifnull (tgt := 20) dX9_shade_10 (by decide) (by first | exact isRf_r | exact isRf_n | exact isRf_o | assumption) (fun c1 => nomatch c1) (fun c1 => ?_)
    refine g_iload_n dX9_shade_13 (by rfl) ?_
    refine g_cS1x dX9_shade_14 lX9_164 rfl vX9_isDye (ct_X9_isDye X) ⟨Nat.le_of_ble_eq_true rfl, Nat.le_of_ble_eq_true rfl⟩ (Nat.le_of_ble_eq_true rfl) ⟨Nat.le_of_ble_eq_true rfl, Nat.le_of_ble_eq_true rfl⟩ ?_
    refine g_if_ne (tgt := 22) dX9_shade_17 (by decide) (fun c2 => ?_) (fun c2 => ?_)
    · skip
      have hk : rngB 0 3 k = true := by rw [← dye_rng]; exact decide_eq_true (bI_d1 _ c2)
      obtain ⟨d, hd, rfl⟩ := dye_nI hk
      refine g_aload_n dX9_shade_22 (by rfl) (by first | exact isRf_r | exact isRf_n | exact isRf_o | assumption) ?_
      refine g_iload_n dX9_shade_23 (by rfl) ?_
      refine g_cV1x dX9_shade_24 lX9_168 vX2_shadeOf (ct_X2_shadeOf X hd lok.pos (al j (by omega))) (by first | assumption | (repeat' (first | assumption | exact hu_same | exact Ne.symm (by assumption) | apply hu_n1))) rfl ⟨Nat.le_of_ble_eq_true rfl, Nat.le_of_ble_eq_true rfl⟩ (Nat.le_of_ble_eq_true rfl) ⟨Nat.le_of_ble_eq_true rfl, Nat.le_of_ble_eq_true rfl⟩ ?_
      refine g_iret dX9_shade_27 rfl (Nat.le_refl _) (Nat.le_refl _) ?_
      refine Ex.i ?_ rfl
      unfold Q_shade
      rw [e8, okB_t hj (by omega), hk, cl_nI (by omega), cl_nI (by omega)]
      rfl
    · skip
      have hk : rngB 0 3 k = false := by rw [← dye_rng]; exact decide_eq_false (bI_d0 _ c2)
      refine g_iconst (v := (-1)) dX9_shade_20 (by decide) ?_
      refine g_iret dX9_shade_21 rfl (Nat.le_refl _) (Nat.le_refl _) ?_
      refine Ex.i ?_ rfl
      unfold Q_shade
      first
        | (rw [e8, okB_f (by omega) hvj]; rfl)
        | (rw [hk, Bool.and_false]; rfl)
  · skip
    refine g_cV1x dX9_shade_5 lX9_117 vX1_findLot (ct_findLotN X (by omega) a0 a2 hvj) (by first | assumption | (repeat' (first | assumption | exact hu_same | exact Ne.symm (by assumption) | apply hu_n1))) rfl ⟨Nat.le_of_ble_eq_true rfl, Nat.le_of_ble_eq_true rfl⟩ (Nat.le_of_ble_eq_true rfl) ⟨Nat.le_of_ble_eq_true rfl, Nat.le_of_ble_eq_true rfl⟩ ?_
    refine g_astore_n (L1 := [(0, _), (1, _), (2, _), (3, _)]) dX9_shade_8 (by first | exact isRf_r | exact isRf_n | exact isRf_o | assumption) (by decide) (by rfl) ?_
    refine g_aload_n dX9_shade_9 (by rfl) (by first | exact isRf_r | exact isRf_n | exact isRf_o | assumption) ?_
    refine g_ifnull (tgt := 20) dX9_shade_10 (by decide) (by first | exact isRf_r | exact isRf_n | exact isRf_o | assumption) (fun c3 => ?_) (fun c3 => absurd rfl c3)
    refine g_iconst (v := (-1)) dX9_shade_20 (by decide) ?_
    refine g_iret dX9_shade_21 rfl (Nat.le_refl _) (Nat.le_refl _) ?_
    refine Ex.i ?_ rfl
    unfold Q_shade
    first
      | (rw [e8, okB_f (by omega) hvj]; rfl)
      | (rw [hk, Bool.and_false]; rfl)

def Q_match (r : Nat → Int32) (a b : Int32) : Int32 := cond (okB (r 8) a && okB (r 8) b) (bI (allB (fun d => decide (dist (shF (ltx r (cl a)) d) (shF (ltx r (cl b)) d) ≤ r 4)) 4)) (-1)

set_option maxHeartbeats 4000000 in
set_option maxRecDepth 100000 in
theorem ct_X9_match (X : Cx) {h : Hp} {A B m : Nat → Nat} {C : Nat → Nat → Nat} {r : Nat → Int32} {n tn : Nat} {rows : Nat → Nat → Int32} {tg : Nat → Int32} {a b : Int32}  (hO : Ok r) (hY : SysAt X h A B m C r n rows tn tg) : Ct X mX9_match 2 0 0 [.ref (m 0), .int a, .int b] h (Ex (.int (Q_match r a b)) h) := by
  obtain ⟨y0, hA, -, y1, y2, -, yT, -⟩ := id hY
  have hO0 := hO
  obtain ⟨nv, nl, no, hnv, hnl, hno, e7, e8, e9, hset, hvok, hvz, hlok, hlz, hok, hoz, hw⟩ := hO0
  have hA0 := hA
  obtain ⟨a0, a1, a2, a3, a4, a5, a6, av, al, ao⟩ := hA0
  unfold hobC at a0
  rw [e7, e8, e9] at a0
  have a60 := a6.1
  refine Ct.ofG vX9_match.1.2.2.1 (Nat.le_of_ble_eq_true rfl) ?_
  show G X RX9 cX9_match 7 (some .int) "match" (Rm 2 0 0) (Fm X (Ex (.int (Q_match r a b)) h) 0 0) 0 0 0 [(0, .ref (m 0)), (1, .int a), (2, .int b)] [] h
  refine g_aload_n dX9_match_0 (by rfl) (by first | exact isRf_r | exact isRf_n | exact isRf_o | assumption) ?_
  refine g_getf dX9_match_1 fX9_10 (by first | assumption | (repeat' (first | assumption | exact hu_same | exact Ne.symm (by assumption) | apply hu_n1))) (by rfl) ?_
  refine g_iload_n dX9_match_4 (by rfl) ?_
  by_cases hvj : ∃ j, j < nl ∧ a = nI j
  · skip
    obtain ⟨j, hj, rfl⟩ := hvj
    have alj := al j (by omega)
    obtain ⟨l1, l2, l3⟩ := alj
    unfold lotC at l1
    have lok := hlok j hj
    refine g_cV1x dX9_match_5 lX9_117 vX1_findLot (ct_findLot X (by omega) a0 a2 hj (laR_j (by omega))) (by first | assumption | (repeat' (first | assumption | exact hu_same | exact Ne.symm (by assumption) | apply hu_n1))) rfl ⟨Nat.le_of_ble_eq_true rfl, Nat.le_of_ble_eq_true rfl⟩ (Nat.le_of_ble_eq_true rfl) ⟨Nat.le_of_ble_eq_true rfl, Nat.le_of_ble_eq_true rfl⟩ ?_
    refine g_astore_n (L1 := [(0, _), (1, _), (2, _), (3, _)]) dX9_match_8 (by first | exact isRf_r | exact isRf_n | exact isRf_o | assumption) (by decide) (by rfl) ?_
    refine g_aload_n dX9_match_9 (by rfl) (by first | exact isRf_r | exact isRf_n | exact isRf_o | assumption) ?_
    refine g_getf dX9_match_10 fX9_10 (by first | assumption | (repeat' (first | assumption | exact hu_same | exact Ne.symm (by assumption) | apply hu_n1))) (by rfl) ?_
    refine g_iload_n dX9_match_13 (by rfl) ?_
    by_cases hvi : ∃ j, j < nl ∧ b = nI j
    · skip
      obtain ⟨i, hi, rfl⟩ := hvi
      obtain ⟨k1, k2, k3⟩ := al i (by omega)
      unfold lotC at k1
      have loki := hlok i hi
      refine g_cV1x dX9_match_14 lX9_117 vX1_findLot (ct_findLot X (by omega) a0 a2 hi (laR_j (by omega))) (by first | assumption | (repeat' (first | assumption | exact hu_same | exact Ne.symm (by assumption) | apply hu_n1))) rfl ⟨Nat.le_of_ble_eq_true rfl, Nat.le_of_ble_eq_true rfl⟩ (Nat.le_of_ble_eq_true rfl) ⟨Nat.le_of_ble_eq_true rfl, Nat.le_of_ble_eq_true rfl⟩ ?_
      refine g_astore (L1 := [(0, _), (1, _), (2, _), (3, _), (4, _)]) dX9_match_17 (by first | exact isRf_r | exact isRf_n | exact isRf_o | assumption) (by decide) (by rfl) ?_
      refine g_aload_n dX9_match_19 (by rfl) (by first | exact isRf_r | exact isRf_n | exact isRf_o | assumption) ?_
      refine g_ifnull (tgt := 28) dX9_match_20 (by decide) (by first | exact isRf_r | exact isRf_n | exact isRf_o | assumption) (fun c1 => nomatch c1) (fun c1 => ?_)
      refine g_aload dX9_match_23 (by rfl) (by first | exact isRf_r | exact isRf_n | exact isRf_o | assumption) ?_
      refine g_ifnonnull (tgt := 30) dX9_match_25 (by decide) (by first | exact isRf_r | exact isRf_n | exact isRf_o | assumption) (fun c2 => ?_) (fun c2 => nomatch c2)
      refine g_aload_n dX9_match_30 (by rfl) (by first | exact isRf_r | exact isRf_n | exact isRf_o | assumption) ?_
      refine g_getf dX9_match_31 fX9_10 (by first | assumption | (repeat' (first | assumption | exact hu_same | exact Ne.symm (by assumption) | apply hu_n1))) (by rfl) ?_
      refine g_getf dX9_match_34 fX9_84 (by first | assumption | (repeat' (first | assumption | exact hu_same | exact Ne.symm (by assumption) | apply hu_n1))) (by rfl) ?_
      refine g_iconst (v := 4) dX9_match_37 (by decide) ?_
      refine g_cV1x dX9_match_38 lX9_210 vX6_valueOf (ct_X6_valueOf X (j := 4) (by omega) a6) (by first | assumption | (repeat' (first | assumption | exact hu_same | exact Ne.symm (by assumption) | apply hu_n1))) rfl ⟨Nat.le_of_ble_eq_true rfl, Nat.le_of_ble_eq_true rfl⟩ (Nat.le_of_ble_eq_true rfl) ⟨Nat.le_of_ble_eq_true rfl, Nat.le_of_ble_eq_true rfl⟩ ?_
      refine g_istore (L1 := [(0, _), (1, _), (2, _), (3, _), (4, _), (5, _)]) dX9_match_41 (by decide) (by rfl) ?_
      refine g_iconst (v := 0) dX9_match_43 (by decide) ?_
      refine g_istore (L1 := [(0, _), (1, _), (2, _), (3, _), (4, _), (5, _), (6, _)]) dX9_match_44 (by decide) (by rfl) ?_
      have loop46 : ∀ d, d ≤ 4 → allB (fun d => decide (dist (shF (ltx r j) d) (shF (ltx r i) d) ≤ r 4)) d = true → G X RX9 cX9_match 7 (some .int) "match" (Rm 2 0 0) (Fm X (Ex (.int (Q_match r (nI j) (nI i))) h) 0 0) 0 0 46 [(0, .ref (m 0)), (1, .int (nI j)), (2, .int (nI i)), (3, .ref (A (14 + 3 * j))), (4, .ref (A (14 + 3 * i))), (5, .int (r 4)), (6, .int (nI d))] [] h := by
        refine up_ind 4 (fun d hd ih => ?_)
        intro hall
        refine g_iload dX9_match_46 (by rfl) ?_
        refine g_iconst (v := 4) dX9_match_48 (by decide) ?_
        refine g_icmp_ge (tgt := 81) dX9_match_49 (by decide) (fun c3 => ?_) (fun c3 => ?_)
        · skip
          have hde : d = 4 := Nat.le_antisymm hd (c_ge (a := 4) (by omega) (by omega) c3)
          subst hde
          refine g_iconst (v := 1) dX9_match_81 (by decide) ?_
          refine g_iret dX9_match_82 rfl (Nat.le_refl _) (Nat.le_refl _) ?_
          refine Ex.i ?_ rfl
          unfold Q_match
          rw [e8, okB_t hj (by omega), okB_t hi (by omega), cl_nI (by omega), cl_nI (by omega), hall]
          rfl
        · skip
          have hlt : d < 4 := c_nge (a := 4) (b := d) (by omega) (by omega) c3
          refine g_aload_n dX9_match_52 (by rfl) (by first | exact isRf_r | exact isRf_n | exact isRf_o | assumption) ?_
          refine g_iload dX9_match_53 (by rfl) ?_
          refine g_cV1x dX9_match_55 lX9_168 vX2_shadeOf (ct_X2_shadeOf X (j := d) hlt lok.pos (al j (by omega))) (by first | assumption | (repeat' (first | assumption | exact hu_same | exact Ne.symm (by assumption) | apply hu_n1))) rfl ⟨Nat.le_of_ble_eq_true rfl, Nat.le_of_ble_eq_true rfl⟩ (Nat.le_of_ble_eq_true rfl) ⟨Nat.le_of_ble_eq_true rfl, Nat.le_of_ble_eq_true rfl⟩ ?_
          refine g_aload dX9_match_58 (by rfl) (by first | exact isRf_r | exact isRf_n | exact isRf_o | assumption) ?_
          refine g_iload dX9_match_60 (by rfl) ?_
          refine g_cV1x dX9_match_62 lX9_168 vX2_shadeOf (ct_X2_shadeOf X (j := d) hlt loki.pos (al i (by omega))) (by first | assumption | (repeat' (first | assumption | exact hu_same | exact Ne.symm (by assumption) | apply hu_n1))) rfl ⟨Nat.le_of_ble_eq_true rfl, Nat.le_of_ble_eq_true rfl⟩ (Nat.le_of_ble_eq_true rfl) ⟨Nat.le_of_ble_eq_true rfl, Nat.le_of_ble_eq_true rfl⟩ ?_
          refine g_cS2x dX9_match_65 lX9_213 rfl vX9_distance (ct_X9_distance X) ⟨Nat.le_of_ble_eq_true rfl, Nat.le_of_ble_eq_true rfl⟩ (Nat.le_of_ble_eq_true rfl) ⟨Nat.le_of_ble_eq_true rfl, Nat.le_of_ble_eq_true rfl⟩ ?_
          refine g_iload dX9_match_68 (by rfl) ?_
          refine g_icmp_le (tgt := 75) dX9_match_70 (by decide) (fun c4 => ?_) (fun c4 => ?_)
          · skip
            have hle : dist (shF (ltx r j) d) (shF (ltx r i) d) ≤ r 4 := c4
            refine g_iinc (v := nI (d + 1)) (L1 := [(0, _), (1, _), (2, _), (3, _), (4, _), (5, _), (6, _)]) dX9_match_75 (by rfl) (nI_1 d) (by decide) (by rfl) ?_
            refine g_goto (tgt := 46) dX9_match_78 (by decide) ?_
            exact ih hlt (by show (allB _ d && decide _) = true; rw [hall, decide_eq_true hle]; rfl)
          · skip
            have hbad : allB (fun d => decide (dist (shF (ltx r j) d) (shF (ltx r i) d) ≤ r 4)) 4 = false := allB_f (j := d) (decide_eq_false c4) hlt
            refine g_iconst (v := 0) dX9_match_73 (by decide) ?_
            refine g_iret dX9_match_74 rfl (Nat.le_refl _) (Nat.le_refl _) ?_
            refine Ex.i ?_ rfl
            unfold Q_match
            rw [e8, okB_t hj (by omega), okB_t hi (by omega), cl_nI (by omega), cl_nI (by omega), hbad]
            rfl
      exact loop46 0 (by omega) rfl
    · skip
      refine g_cV1x dX9_match_14 lX9_117 vX1_findLot (ct_findLotN X (by omega) a0 a2 hvi) (by first | assumption | (repeat' (first | assumption | exact hu_same | exact Ne.symm (by assumption) | apply hu_n1))) rfl ⟨Nat.le_of_ble_eq_true rfl, Nat.le_of_ble_eq_true rfl⟩ (Nat.le_of_ble_eq_true rfl) ⟨Nat.le_of_ble_eq_true rfl, Nat.le_of_ble_eq_true rfl⟩ ?_
      refine g_astore (L1 := [(0, _), (1, _), (2, _), (3, _), (4, _)]) dX9_match_17 (by first | exact isRf_r | exact isRf_n | exact isRf_o | assumption) (by decide) (by rfl) ?_
      refine g_aload_n dX9_match_19 (by rfl) (by first | exact isRf_r | exact isRf_n | exact isRf_o | assumption) ?_
      refine g_ifnull (tgt := 28) dX9_match_20 (by decide) (by first | exact isRf_r | exact isRf_n | exact isRf_o | assumption) (fun c5 => nomatch c5) (fun c5 => ?_)
      refine g_aload dX9_match_23 (by rfl) (by first | exact isRf_r | exact isRf_n | exact isRf_o | assumption) ?_
      refine g_ifnonnull (tgt := 30) dX9_match_25 (by decide) (by first | exact isRf_r | exact isRf_n | exact isRf_o | assumption) (fun c6 => absurd rfl c6) (fun c6 => ?_)
      refine g_iconst (v := (-1)) dX9_match_28 (by decide) ?_
      refine g_iret dX9_match_29 rfl (Nat.le_refl _) (Nat.le_refl _) ?_
      refine Ex.i ?_ rfl
      unfold Q_match
      first
        | (rw [e8, okB_f (by omega) hvj]; rfl)
        | (rw [e8, okB_f (w := b) (by omega) hvi, Bool.and_false]; rfl)
  · skip
    refine g_cV1x dX9_match_5 lX9_117 vX1_findLot (ct_findLotN X (by omega) a0 a2 hvj) (by first | assumption | (repeat' (first | assumption | exact hu_same | exact Ne.symm (by assumption) | apply hu_n1))) rfl ⟨Nat.le_of_ble_eq_true rfl, Nat.le_of_ble_eq_true rfl⟩ (Nat.le_of_ble_eq_true rfl) ⟨Nat.le_of_ble_eq_true rfl, Nat.le_of_ble_eq_true rfl⟩ ?_
    refine g_astore_n (L1 := [(0, _), (1, _), (2, _), (3, _)]) dX9_match_8 (by first | exact isRf_r | exact isRf_n | exact isRf_o | assumption) (by decide) (by rfl) ?_
    refine g_aload_n dX9_match_9 (by rfl) (by first | exact isRf_r | exact isRf_n | exact isRf_o | assumption) ?_
    refine g_getf dX9_match_10 fX9_10 (by first | assumption | (repeat' (first | assumption | exact hu_same | exact Ne.symm (by assumption) | apply hu_n1))) (by rfl) ?_
    refine g_iload_n dX9_match_13 (by rfl) ?_
    by_cases hvi : ∃ j, j < nl ∧ b = nI j
    · skip
      obtain ⟨i, hi, rfl⟩ := hvi
      obtain ⟨k1, k2, k3⟩ := al i (by omega)
      unfold lotC at k1
      have loki := hlok i hi
      refine g_cV1x dX9_match_14 lX9_117 vX1_findLot (ct_findLot X (by omega) a0 a2 hi (laR_j (by omega))) (by first | assumption | (repeat' (first | assumption | exact hu_same | exact Ne.symm (by assumption) | apply hu_n1))) rfl ⟨Nat.le_of_ble_eq_true rfl, Nat.le_of_ble_eq_true rfl⟩ (Nat.le_of_ble_eq_true rfl) ⟨Nat.le_of_ble_eq_true rfl, Nat.le_of_ble_eq_true rfl⟩ ?_
      refine g_astore (L1 := [(0, _), (1, _), (2, _), (3, _), (4, _)]) dX9_match_17 (by first | exact isRf_r | exact isRf_n | exact isRf_o | assumption) (by decide) (by rfl) ?_
      refine g_aload_n dX9_match_19 (by rfl) (by first | exact isRf_r | exact isRf_n | exact isRf_o | assumption) ?_
      refine g_ifnull (tgt := 28) dX9_match_20 (by decide) (by first | exact isRf_r | exact isRf_n | exact isRf_o | assumption) (fun c7 => ?_) (fun c7 => absurd rfl c7)
      refine g_iconst (v := (-1)) dX9_match_28 (by decide) ?_
      refine g_iret dX9_match_29 rfl (Nat.le_refl _) (Nat.le_refl _) ?_
      refine Ex.i ?_ rfl
      unfold Q_match
      first
        | (rw [e8, okB_f (by omega) hvj]; rfl)
        | (rw [e8, okB_f (w := b) (by omega) hvi, Bool.and_false]; rfl)
    · skip
      refine g_cV1x dX9_match_14 lX9_117 vX1_findLot (ct_findLotN X (by omega) a0 a2 hvi) (by first | assumption | (repeat' (first | assumption | exact hu_same | exact Ne.symm (by assumption) | apply hu_n1))) rfl ⟨Nat.le_of_ble_eq_true rfl, Nat.le_of_ble_eq_true rfl⟩ (Nat.le_of_ble_eq_true rfl) ⟨Nat.le_of_ble_eq_true rfl, Nat.le_of_ble_eq_true rfl⟩ ?_
      refine g_astore (L1 := [(0, _), (1, _), (2, _), (3, _), (4, _)]) dX9_match_17 (by first | exact isRf_r | exact isRf_n | exact isRf_o | assumption) (by decide) (by rfl) ?_
      refine g_aload_n dX9_match_19 (by rfl) (by first | exact isRf_r | exact isRf_n | exact isRf_o | assumption) ?_
      refine g_ifnull (tgt := 28) dX9_match_20 (by decide) (by first | exact isRf_r | exact isRf_n | exact isRf_o | assumption) (fun c8 => ?_) (fun c8 => absurd rfl c8)
      refine g_iconst (v := (-1)) dX9_match_28 (by decide) ?_
      refine g_iret dX9_match_29 rfl (Nat.le_refl _) (Nat.le_refl _) ?_
      refine Ex.i ?_ rfl
      unfold Q_match
      first
        | (rw [e8, okB_f (by omega) hvj]; rfl)
        | (rw [e8, okB_f (w := b) (by omega) hvi, Bool.and_false]; rfl)

def takL (r0 g l : Int32) (x : Nat → Int32) : Nat → Int32
  | 0 => g
  | k + 1 => takL r0 g l x k - takF r0 x (takL r0 g l x k) l
def Q_takes (r : Nat → Int32) (a b t : Int32) : Int32 := cond (okB (r 8) a && (okB (r 7) b && rngB 1 30 t)) (cond (sold r (cl a)) (-2) (vt r (cl b) 2 - takL (r 0) (vt r (cl b) 2) (vt r (cl b) 1) (ltx r (cl a)) (cl t))) (-1)

set_option maxHeartbeats 4000000 in
set_option maxRecDepth 100000 in
theorem ct_X9_takes (X : Cx) {h : Hp} {A B m : Nat → Nat} {C : Nat → Nat → Nat} {r : Nat → Int32} {n tn : Nat} {rows : Nat → Nat → Int32} {tg : Nat → Int32} {a b t : Int32}  (hO : Ok r) (hY : SysAt X h A B m C r n rows tn tg) : Ct X mX9_takes 2 0 0 [.ref (m 0), .int a, .int b, .int t] h (Ex (.int (Q_takes r a b t)) h) := by
  obtain ⟨y0, hA, -, y1, y2, -, yT, -⟩ := id hY
  have hO0 := hO
  obtain ⟨nv, nl, no, hnv, hnl, hno, e7, e8, e9, hset, hvok, hvz, hlok, hlz, hok, hoz, hw⟩ := hO0
  have hA0 := hA
  obtain ⟨a0, a1, a2, a3, a4, a5, a6, av, al, ao⟩ := hA0
  unfold hobC at a0
  rw [e7, e8, e9] at a0
  have a60 := a6.1
  refine Ct.ofG vX9_takes.1.2.2.1 (Nat.le_of_ble_eq_true rfl) ?_
  show G X RX9 cX9_takes 8 (some .int) "takes" (Rm 2 0 0) (Fm X (Ex (.int (Q_takes r a b t)) h) 0 0) 0 0 0 [(0, .ref (m 0)), (1, .int a), (2, .int b), (3, .int t)] [] h
  refine g_aload_n dX9_takes_0 (by rfl) (by first | exact isRf_r | exact isRf_n | exact isRf_o | assumption) ?_
  refine g_getf dX9_takes_1 fX9_10 (by first | assumption | (repeat' (first | assumption | exact hu_same | exact Ne.symm (by assumption) | apply hu_n1))) (by rfl) ?_
  refine g_iload_n dX9_takes_4 (by rfl) ?_
  by_cases hvj : ∃ j, j < nl ∧ a = nI j
  · skip
    obtain ⟨j, hj, rfl⟩ := hvj
    have alj := al j (by omega)
    obtain ⟨l1, l2, l3⟩ := alj
    unfold lotC at l1
    have lok := hlok j hj
    refine g_cV1x dX9_takes_5 lX9_117 vX1_findLot (ct_findLot X (by omega) a0 a2 hj (laR_j (by omega))) (by first | assumption | (repeat' (first | assumption | exact hu_same | exact Ne.symm (by assumption) | apply hu_n1))) rfl ⟨Nat.le_of_ble_eq_true rfl, Nat.le_of_ble_eq_true rfl⟩ (Nat.le_of_ble_eq_true rfl) ⟨Nat.le_of_ble_eq_true rfl, Nat.le_of_ble_eq_true rfl⟩ ?_
    refine g_astore (L1 := [(0, _), (1, _), (2, _), (3, _), (4, _)]) dX9_takes_8 (by first | exact isRf_r | exact isRf_n | exact isRf_o | assumption) (by decide) (by rfl) ?_
    refine g_aload_n dX9_takes_10 (by rfl) (by first | exact isRf_r | exact isRf_n | exact isRf_o | assumption) ?_
    refine g_getf dX9_takes_11 fX9_10 (by first | assumption | (repeat' (first | assumption | exact hu_same | exact Ne.symm (by assumption) | apply hu_n1))) (by rfl) ?_
    refine g_iload_n dX9_takes_14 (by rfl) ?_
    by_cases hvi : ∃ j, j < nv ∧ b = nI j
    · skip
      obtain ⟨i, hi, rfl⟩ := hvi
      have vok := hvok i hi
      have avi := av i (by omega)
      have avi0 := avi
      unfold VatAt at avi0
      refine g_cV1x dX9_takes_15 lX9_65 vX1_findVat (ct_findVat X (by omega) a0 a1 hi (vaR_j (by omega))) (by first | assumption | (repeat' (first | assumption | exact hu_same | exact Ne.symm (by assumption) | apply hu_n1))) rfl ⟨Nat.le_of_ble_eq_true rfl, Nat.le_of_ble_eq_true rfl⟩ (Nat.le_of_ble_eq_true rfl) ⟨Nat.le_of_ble_eq_true rfl, Nat.le_of_ble_eq_true rfl⟩ ?_
      refine g_astore (L1 := [(0, _), (1, _), (2, _), (3, _), (4, _), (5, _)]) dX9_takes_18 (by first | exact isRf_r | exact isRf_n | exact isRf_o | assumption) (by decide) (by rfl) ?_
      refine g_aload dX9_takes_20 (by rfl) (by first | exact isRf_r | exact isRf_n | exact isRf_o | assumption) ?_
      refine g_ifnull (tgt := 41) dX9_takes_22 (by decide) (by first | exact isRf_r | exact isRf_n | exact isRf_o | assumption) (fun c1 => nomatch c1) (fun c1 => ?_)
      refine g_aload dX9_takes_25 (by rfl) (by first | exact isRf_r | exact isRf_n | exact isRf_o | assumption) ?_
      refine g_ifnull (tgt := 41) dX9_takes_27 (by decide) (by first | exact isRf_r | exact isRf_n | exact isRf_o | assumption) (fun c2 => nomatch c2) (fun c2 => ?_)
      refine g_iload_n dX9_takes_30 (by rfl) ?_
      refine g_iconst (v := 1) dX9_takes_31 (by decide) ?_
      refine g_icmp_lt (tgt := 41) dX9_takes_32 (by decide) (fun c3 => ?_) (fun c3 => ?_)
      · skip
        have ht : rngB 1 30 t = false := rngB_f1 (i_nle c3)
        refine g_iconst (v := (-1)) dX9_takes_41 (by decide) ?_
        refine g_iret dX9_takes_42 rfl (Nat.le_refl _) (Nat.le_refl _) ?_
        refine Ex.i ?_ rfl
        unfold Q_takes
        first
          | (rw [e8, okB_f (by omega) hvj]; rfl)
          | (rw [e7, okB_f (w := b) (by omega) hvi, Bool.false_and, Bool.and_false]; rfl)
          | (rw [ht, Bool.and_false, Bool.and_false]; rfl)
      · skip
        have cq := c3
        refine g_iload_n dX9_takes_35 (by rfl) ?_
        refine g_bipush (v := 30) dX9_takes_36 (by decide) ?_
        refine g_icmp_le (tgt := 43) dX9_takes_38 (by decide) (fun c4 => ?_) (fun c4 => ?_)
        · skip
          have ht : rngB 1 30 t = true := rngB_t (i_nlt cq) c4
          obtain ⟨u, hu, rfl⟩ : ∃ u, u < 31 ∧ t = nI u := by
            have hb := rng_b ht
            have q1 : (1 : Int32).toInt = 1 := by decide
            have q2 : (30 : Int32).toInt = 30 := by decide
            rw [q1, q2] at hb
            exact i_sm (by omega) (by omega) (by omega)
          refine g_aload dX9_takes_43 (by rfl) (by first | exact isRf_r | exact isRf_n | exact isRf_o | assumption) ?_
          refine g_cV0x dX9_takes_45 lX9_154 vX2_isSold (ct_X2_isSold X (al j (by omega))) (by first | assumption | (repeat' (first | assumption | exact hu_same | exact Ne.symm (by assumption) | apply hu_n1))) rfl ⟨Nat.le_of_ble_eq_true rfl, Nat.le_of_ble_eq_true rfl⟩ (Nat.le_of_ble_eq_true rfl) ⟨Nat.le_of_ble_eq_true rfl, Nat.le_of_ble_eq_true rfl⟩ ?_
          refine g_if_eq (tgt := 54) dX9_takes_48 (by decide) (fun c5 => ?_) (fun c5 => ?_)
          · skip
            have hb : sold r j = false := decide_eq_false (bI_d0 _ c5)
            refine g_aload dX9_takes_54 (by rfl) (by first | exact isRf_r | exact isRf_n | exact isRf_o | assumption) ?_
            refine g_getf dX9_takes_56 fX9_78 (by first | assumption | (repeat' (first | assumption | exact hu_same | exact Ne.symm (by assumption) | apply hu_n1))) (by rfl) ?_
            refine g_istore (L1 := [(0, _), (1, _), (2, _), (3, _), (4, _), (5, _), (6, _)]) dX9_takes_59 (by decide) (by rfl) ?_
            refine g_iconst (v := 0) dX9_takes_61 (by decide) ?_
            refine g_istore (L1 := [(0, _), (1, _), (2, _), (3, _), (4, _), (5, _), (6, _), (7, _)]) dX9_takes_62 (by decide) (by rfl) ?_
            have loop64 : ∀ q, q ≤ u → G X RX9 cX9_takes 8 (some .int) "takes" (Rm 2 0 0) (Fm X (Ex (.int (Q_takes r (nI j) (nI i) (nI u))) h) 0 0) 0 0 64 [(0, .ref (m 0)), (1, .int (nI j)), (2, .int (nI i)), (3, .int (nI u)), (4, .ref (A (14 + 3 * j))), (5, .ref (A (8 + i))), (6, .int (takL (r 0) (vt r i 2) (vt r i 1) (ltx r j) q)), (7, .int (nI q))] [] h := by
              refine up_ind u (fun q hq ih => ?_)
              refine g_iload dX9_takes_64 (by rfl) ?_
              refine g_iload_n dX9_takes_66 (by rfl) ?_
              refine g_icmp_ge (tgt := 100) dX9_takes_67 (by decide) (fun c6 => ?_) (fun c6 => ?_)
              · skip
                have hqe : q = u := Nat.le_antisymm hq (c_ge (by omega) (by omega) c6)
                subst hqe
                refine g_aload dX9_takes_100 (by rfl) (by first | exact isRf_r | exact isRf_n | exact isRf_o | assumption) ?_
                refine g_getf dX9_takes_102 fX9_78 (by first | assumption | (repeat' (first | assumption | exact hu_same | exact Ne.symm (by assumption) | apply hu_n1))) (by rfl) ?_
                refine g_iload dX9_takes_105 (by rfl) ?_
                refine g_isub dX9_takes_107 ?_
                refine g_iret dX9_takes_108 rfl (Nat.le_refl _) (Nat.le_refl _) ?_
                refine Ex.i ?_ rfl
                unfold Q_takes
                rw [e8, e7, okB_t hj (by omega), okB_t hi (by omega), ht, cl_nI (by omega), cl_nI (by omega), cl_nI (by omega), hb]
                rfl
              · skip
                have hlt : q < u := c_nge (by omega) (by omega) c6
                refine g_iload dX9_takes_70 (by rfl) ?_
                refine g_aload dX9_takes_72 (by rfl) (by first | exact isRf_r | exact isRf_n | exact isRf_o | assumption) ?_
                refine g_iload dX9_takes_74 (by rfl) ?_
                refine g_aload dX9_takes_76 (by rfl) (by first | exact isRf_r | exact isRf_n | exact isRf_o | assumption) ?_
                refine g_getf dX9_takes_78 fX9_75 (by first | assumption | (repeat' (first | assumption | exact hu_same | exact Ne.symm (by assumption) | apply hu_n1))) (by rfl) ?_
                refine g_aload_n dX9_takes_81 (by rfl) (by first | exact isRf_r | exact isRf_n | exact isRf_o | assumption) ?_
                refine g_getf dX9_takes_82 fX9_10 (by first | assumption | (repeat' (first | assumption | exact hu_same | exact Ne.symm (by assumption) | apply hu_n1))) (by rfl) ?_
                refine g_getf dX9_takes_85 fX9_84 (by first | assumption | (repeat' (first | assumption | exact hu_same | exact Ne.symm (by assumption) | apply hu_n1))) (by rfl) ?_
                refine g_cV3x dX9_takes_88 lX9_229 vX2_grainsTaken (ct_X2_grainsTaken X (dok_of hset vok lok) (al j (by omega)) a6) (by first | assumption | (repeat' (first | assumption | exact hu_same | exact Ne.symm (by assumption) | apply hu_n1))) rfl ⟨Nat.le_of_ble_eq_true rfl, Nat.le_of_ble_eq_true rfl⟩ (Nat.le_of_ble_eq_true rfl) ⟨Nat.le_of_ble_eq_true rfl, Nat.le_of_ble_eq_true rfl⟩ ?_
                refine g_isub dX9_takes_91 ?_
                refine g_istore (L1 := [(0, _), (1, _), (2, _), (3, _), (4, _), (5, _), (6, _), (7, _)]) dX9_takes_92 (by decide) (by rfl) ?_
                refine g_iinc (v := nI (q + 1)) (L1 := [(0, _), (1, _), (2, _), (3, _), (4, _), (5, _), (6, _), (7, _)]) dX9_takes_94 (by rfl) (nI_1 q) (by decide) (by rfl) ?_
                refine g_goto (tgt := 64) dX9_takes_97 (by decide) ?_
                exact ih hlt
            exact loop64 0 (by omega)
          · skip
            have hb : sold r j = true := decide_eq_true (bI_d1 _ c5)
            refine g_bipush (v := (-2)) dX9_takes_51 (by decide) ?_
            refine g_iret dX9_takes_53 rfl (Nat.le_refl _) (Nat.le_refl _) ?_
            refine Ex.i ?_ rfl
            unfold Q_takes
            rw [e8, e7, okB_t hj (by omega), okB_t hi (by omega), ht, cl_nI (by omega), hb]
            rfl
        · skip
          have ht : rngB 1 30 t = false := rngB_f2 c4
          refine g_iconst (v := (-1)) dX9_takes_41 (by decide) ?_
          refine g_iret dX9_takes_42 rfl (Nat.le_refl _) (Nat.le_refl _) ?_
          refine Ex.i ?_ rfl
          unfold Q_takes
          first
            | (rw [e8, okB_f (by omega) hvj]; rfl)
            | (rw [e7, okB_f (w := b) (by omega) hvi, Bool.false_and, Bool.and_false]; rfl)
            | (rw [ht, Bool.and_false, Bool.and_false]; rfl)
    · skip
      refine g_cV1x dX9_takes_15 lX9_65 vX1_findVat (ct_findVatN X (by omega) a0 a1 hvi) (by first | assumption | (repeat' (first | assumption | exact hu_same | exact Ne.symm (by assumption) | apply hu_n1))) rfl ⟨Nat.le_of_ble_eq_true rfl, Nat.le_of_ble_eq_true rfl⟩ (Nat.le_of_ble_eq_true rfl) ⟨Nat.le_of_ble_eq_true rfl, Nat.le_of_ble_eq_true rfl⟩ ?_
      refine g_astore (L1 := [(0, _), (1, _), (2, _), (3, _), (4, _), (5, _)]) dX9_takes_18 (by first | exact isRf_r | exact isRf_n | exact isRf_o | assumption) (by decide) (by rfl) ?_
      refine g_aload dX9_takes_20 (by rfl) (by first | exact isRf_r | exact isRf_n | exact isRf_o | assumption) ?_
      refine g_ifnull (tgt := 41) dX9_takes_22 (by decide) (by first | exact isRf_r | exact isRf_n | exact isRf_o | assumption) (fun c7 => nomatch c7) (fun c7 => ?_)
      refine g_aload dX9_takes_25 (by rfl) (by first | exact isRf_r | exact isRf_n | exact isRf_o | assumption) ?_
      refine g_ifnull (tgt := 41) dX9_takes_27 (by decide) (by first | exact isRf_r | exact isRf_n | exact isRf_o | assumption) (fun c8 => ?_) (fun c8 => absurd rfl c8)
      refine g_iconst (v := (-1)) dX9_takes_41 (by decide) ?_
      refine g_iret dX9_takes_42 rfl (Nat.le_refl _) (Nat.le_refl _) ?_
      refine Ex.i ?_ rfl
      unfold Q_takes
      first
        | (rw [e8, okB_f (by omega) hvj]; rfl)
        | (rw [e7, okB_f (w := b) (by omega) hvi, Bool.false_and, Bool.and_false]; rfl)
        | (rw [ht, Bool.and_false, Bool.and_false]; rfl)
  · skip
    refine g_cV1x dX9_takes_5 lX9_117 vX1_findLot (ct_findLotN X (by omega) a0 a2 hvj) (by first | assumption | (repeat' (first | assumption | exact hu_same | exact Ne.symm (by assumption) | apply hu_n1))) rfl ⟨Nat.le_of_ble_eq_true rfl, Nat.le_of_ble_eq_true rfl⟩ (Nat.le_of_ble_eq_true rfl) ⟨Nat.le_of_ble_eq_true rfl, Nat.le_of_ble_eq_true rfl⟩ ?_
    refine g_astore (L1 := [(0, _), (1, _), (2, _), (3, _), (4, _)]) dX9_takes_8 (by first | exact isRf_r | exact isRf_n | exact isRf_o | assumption) (by decide) (by rfl) ?_
    refine g_aload_n dX9_takes_10 (by rfl) (by first | exact isRf_r | exact isRf_n | exact isRf_o | assumption) ?_
    refine g_getf dX9_takes_11 fX9_10 (by first | assumption | (repeat' (first | assumption | exact hu_same | exact Ne.symm (by assumption) | apply hu_n1))) (by rfl) ?_
    refine g_iload_n dX9_takes_14 (by rfl) ?_
    by_cases hvi : ∃ j, j < nv ∧ b = nI j
    · skip
      obtain ⟨i, hi, rfl⟩ := hvi
      have vok := hvok i hi
      have avi := av i (by omega)
      have avi0 := avi
      unfold VatAt at avi0
      refine g_cV1x dX9_takes_15 lX9_65 vX1_findVat (ct_findVat X (by omega) a0 a1 hi (vaR_j (by omega))) (by first | assumption | (repeat' (first | assumption | exact hu_same | exact Ne.symm (by assumption) | apply hu_n1))) rfl ⟨Nat.le_of_ble_eq_true rfl, Nat.le_of_ble_eq_true rfl⟩ (Nat.le_of_ble_eq_true rfl) ⟨Nat.le_of_ble_eq_true rfl, Nat.le_of_ble_eq_true rfl⟩ ?_
      refine g_astore (L1 := [(0, _), (1, _), (2, _), (3, _), (4, _), (5, _)]) dX9_takes_18 (by first | exact isRf_r | exact isRf_n | exact isRf_o | assumption) (by decide) (by rfl) ?_
      refine g_aload dX9_takes_20 (by rfl) (by first | exact isRf_r | exact isRf_n | exact isRf_o | assumption) ?_
      refine g_ifnull (tgt := 41) dX9_takes_22 (by decide) (by first | exact isRf_r | exact isRf_n | exact isRf_o | assumption) (fun c9 => ?_) (fun c9 => absurd rfl c9)
      refine g_iconst (v := (-1)) dX9_takes_41 (by decide) ?_
      refine g_iret dX9_takes_42 rfl (Nat.le_refl _) (Nat.le_refl _) ?_
      refine Ex.i ?_ rfl
      unfold Q_takes
      first
        | (rw [e8, okB_f (by omega) hvj]; rfl)
        | (rw [e7, okB_f (w := b) (by omega) hvi, Bool.false_and, Bool.and_false]; rfl)
        | (rw [ht, Bool.and_false, Bool.and_false]; rfl)
    · skip
      refine g_cV1x dX9_takes_15 lX9_65 vX1_findVat (ct_findVatN X (by omega) a0 a1 hvi) (by first | assumption | (repeat' (first | assumption | exact hu_same | exact Ne.symm (by assumption) | apply hu_n1))) rfl ⟨Nat.le_of_ble_eq_true rfl, Nat.le_of_ble_eq_true rfl⟩ (Nat.le_of_ble_eq_true rfl) ⟨Nat.le_of_ble_eq_true rfl, Nat.le_of_ble_eq_true rfl⟩ ?_
      refine g_astore (L1 := [(0, _), (1, _), (2, _), (3, _), (4, _), (5, _)]) dX9_takes_18 (by first | exact isRf_r | exact isRf_n | exact isRf_o | assumption) (by decide) (by rfl) ?_
      refine g_aload dX9_takes_20 (by rfl) (by first | exact isRf_r | exact isRf_n | exact isRf_o | assumption) ?_
      refine g_ifnull (tgt := 41) dX9_takes_22 (by decide) (by first | exact isRf_r | exact isRf_n | exact isRf_o | assumption) (fun c10 => ?_) (fun c10 => absurd rfl c10)
      refine g_iconst (v := (-1)) dX9_takes_41 (by decide) ?_
      refine g_iret dX9_takes_42 rfl (Nat.le_refl _) (Nat.le_refl _) ?_
      refine Ex.i ?_ rfl
      unfold Q_takes
      first
        | (rw [e8, okB_f (by omega) hvj]; rfl)
        | (rw [e7, okB_f (w := b) (by omega) hvi, Bool.false_and, Bool.and_false]; rfl)
        | (rw [ht, Bool.and_false, Bool.and_false]; rfl)

noncomputable def Q_vatAt (r : Nat → Int32) (w : Int32) : Int32 := cond (decide (0 ≤ w)) (fstI (fun v => decide (nI (cntN (avB r v) (cl (r 7))) = w)) 0 (cl (r 7))) (-1)

set_option maxHeartbeats 4000000 in
set_option maxRecDepth 100000 in
theorem ct_X9_vatAt (X : Cx) {h : Hp} {A B m : Nat → Nat} {C : Nat → Nat → Nat} {r : Nat → Int32} {n tn : Nat} {rows : Nat → Nat → Int32} {tg : Nat → Int32} {w : Int32}  (hO : Ok r) (hY : SysAt X h A B m C r n rows tn tg) : Ct X mX9_vatAt 3 0 0 [.ref (m 0), .int w] h (Ex (.int (Q_vatAt r w)) h) := by
  obtain ⟨y0, hA, -, y1, y2, -, yT, -⟩ := id hY
  have hO0 := hO
  obtain ⟨nv, nl, no, hnv, hnl, hno, e7, e8, e9, hset, hvok, hvz, hlok, hlz, hok, hoz, hw⟩ := hO0
  have hA0 := hA
  obtain ⟨a0, a1, a2, a3, a4, a5, a6, av, al, ao⟩ := hA0
  unfold hobC at a0
  rw [e7, e8, e9] at a0
  have eq : 0 ≤ w → Q_vatAt r w = fstI (fun v => decide (nI (cntN (avB r v) nv) = w)) 0 nv := fun z => by
    unfold Q_vatAt
    rw [decide_eq_true z, e7, cl_nI (by omega)]
    rfl
  refine Ct.ofG vX9_vatAt.1.2.2.1 (Nat.le_of_ble_eq_true rfl) ?_
  show G X RX9 cX9_vatAt 3 (some .int) "vatAt" (Rm 3 0 0) (Fm X (Ex (.int (Q_vatAt r w)) h) 0 0) 0 0 0 [(0, .ref (m 0)), (1, .int w)] [] h
  refine g_iload_n dX9_vatAt_0 (by rfl) ?_
  refine g_if_ge (tgt := 6) dX9_vatAt_1 (by decide) (fun c1 => ?_) (fun c1 => ?_)
  · skip
    have hw := c1
    refine g_iconst (v := 0) dX9_vatAt_6 (by decide) ?_
    refine g_istore_n (L1 := [(0, _), (1, _), (2, _)]) dX9_vatAt_7 (by decide) (by rfl) ?_
    have loop8 : ∀ i, i ≤ nv → fstI (fun v => decide (nI (cntN (avB r v) nv) = w)) i (nv - i) = Q_vatAt r w → G X RX9 cX9_vatAt 3 (some .int) "vatAt" (Rm 3 0 0) (Fm X (Ex (.int (Q_vatAt r w)) h) 0 0) 0 0 8 [(0, .ref (m 0)), (1, .int w), (2, .int (nI i))] [] h := by
      refine up_ind nv (fun i hi ih => ?_)
      intro kR
      refine g_iload_n dX9_vatAt_8 (by rfl) ?_
      refine g_aload_n dX9_vatAt_9 (by rfl) (by first | exact isRf_r | exact isRf_n | exact isRf_o | assumption) ?_
      refine g_getf dX9_vatAt_10 fX9_10 (by first | assumption | (repeat' (first | assumption | exact hu_same | exact Ne.symm (by assumption) | apply hu_n1))) (by rfl) ?_
      refine g_getf dX9_vatAt_13 fX9_96 (by first | assumption | (repeat' (first | assumption | exact hu_same | exact Ne.symm (by assumption) | apply hu_n1))) (by rfl) ?_
      refine g_icmp_ge (tgt := 39) dX9_vatAt_16 (by decide) (fun c2 => ?_) (fun c2 => ?_)
      · skip
        have hie : i = nv := Nat.le_antisymm hi (c_ge (by omega) (by omega) c2)
        refine g_bipush (v := (-4)) dX9_vatAt_39 (by decide) ?_
        refine g_iret dX9_vatAt_41 rfl (Nat.le_refl _) (Nat.le_refl _) ?_
        refine Ex.i ?_ rfl
        rw [← kR, hie, Nat.sub_self]
        rfl
      · skip
        have hlt : i < nv := c_nge (by omega) (by omega) c2
        refine g_aload_n dX9_vatAt_19 (by rfl) (by first | exact isRf_r | exact isRf_n | exact isRf_o | assumption) ?_
        refine g_getf dX9_vatAt_20 fX9_10 (by first | assumption | (repeat' (first | assumption | exact hu_same | exact Ne.symm (by assumption) | apply hu_n1))) (by rfl) ?_
        refine g_iload_n dX9_vatAt_23 (by rfl) ?_
        refine g_cV1x dX9_vatAt_24 lX9_99 vX1_vatsAheadOf (ct_X1_vatsAheadOf X hlt hnv e7 hvok hA) (by first | assumption | (repeat' (first | assumption | exact hu_same | exact Ne.symm (by assumption) | apply hu_n1))) rfl ⟨Nat.le_of_ble_eq_true rfl, Nat.le_of_ble_eq_true rfl⟩ (Nat.le_of_ble_eq_true rfl) ⟨Nat.le_of_ble_eq_true rfl, Nat.le_of_ble_eq_true rfl⟩ ?_
        refine g_iload_n dX9_vatAt_27 (by rfl) ?_
        refine g_icmp_ne (tgt := 33) dX9_vatAt_28 (by decide) (fun c3 => ?_) (fun c3 => ?_)
        · skip
          have hne := c3
          refine g_iinc (v := nI (i + 1)) (L1 := [(0, _), (1, _), (2, _)]) dX9_vatAt_33 (by rfl) (nI_1 i) (by decide) (by rfl) ?_
          refine g_goto (tgt := 8) dX9_vatAt_36 (by decide) ?_
          refine ih hlt ?_
          rw [← kR, show nv - i = (nv - (i + 1)) + 1 by omega]
          show _ = cond (decide _) _ _
          rw [decide_eq_false hne]
          rfl
        · skip
          have hne := c3
          refine g_iload_n dX9_vatAt_31 (by rfl) ?_
          refine g_iret dX9_vatAt_32 rfl (Nat.le_refl _) (Nat.le_refl _) ?_
          refine Ex.i ?_ rfl
          rw [← kR, show nv - i = (nv - (i + 1)) + 1 by omega]
          show _ = cond (decide _) _ _
          rw [decide_eq_true hne]
          rfl
    exact loop8 0 (by omega) (eq hw).symm
  · skip
    have hw := c1
    refine g_iconst (v := (-1)) dX9_vatAt_4 (by decide) ?_
    refine g_iret dX9_vatAt_5 rfl (Nat.le_refl _) (Nat.le_refl _) ?_
    refine Ex.i ?_ rfl
    unfold Q_vatAt
    rw [decide_eq_false hw]
    rfl
