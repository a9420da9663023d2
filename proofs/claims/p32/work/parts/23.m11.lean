def rowV (r : Nat → Int32) (v : Nat) (y : Nat → Int32) : Nat → Int32 := fun p => if 19 + 4 * v ≤ p ∧ p < 23 + 4 * v then y (p - (19 + 4 * v)) else r p
def rowL (r : Nat → Int32) (l : Nat) (x : Nat → Int32) : Nat → Int32 := fun p => if 43 + 15 * l ≤ p ∧ p < 58 + 15 * l then x (p - (43 + 15 * l)) else r p
theorem rowV_in {r y : Nat → Int32} {v j : Nat} (hj : j < 4) : rowV r v y (19 + 4 * v + j) = y j := by
  unfold rowV
  rw [if_pos (by omega)]
  congr 1
  omega
theorem rowV_out {r y : Nat → Int32} {v p : Nat} (h : p < 19 + 4 * v ∨ 23 + 4 * v ≤ p) : rowV r v y p = r p := if_neg (by omega)
theorem rowL_in {r y : Nat → Int32} {v j : Nat} (hj : j < 15) : rowL r v y (43 + 15 * v + j) = y j := by
  unfold rowL
  rw [if_pos (by omega)]
  congr 1
  omega
theorem rowL_out {r y : Nat → Int32} {v p : Nat} (h : p < 43 + 15 * v ∨ 58 + 15 * v ≤ p) : rowL r v y p = r p := if_neg (by omega)
noncomputable def spoV (x y r : Nat → Int32) (d : Nat) (t : Int32) : Int32 := @ite Int32 (spoP x y r d t) (Classical.propDecidable _) 1 (x 11)
noncomputable def soakF (x y r : Nat → Int32) (d : Nat) (t : Int32) : Nat → Int32 := @ite (Nat → Int32) (savP x r d t (spoV x y r d t)) (Classical.propDecidable _) (upd (upd (soakG x r d t) 11 0) 12 1) (upd (soakG x r d t) 11 (spoV x y r d t))
theorem soak_f {x y r x2 : Nat → Int32} {d : Nat} {t : Int32} (h : soakX x y r d t x2) : x2 = soakF x y r d t := by
  obtain ⟨s, hs, h⟩ := h
  have e : s = spoV x y r d t := by
    unfold spoV
    rcases hs with ⟨h1, h2⟩ | ⟨h1, h2⟩
    · rw [if_pos h1, h2]
    · rw [if_neg h1, h2]
  subst e
  unfold soakF
  rcases h with ⟨h1, h2⟩ | ⟨h1, h2⟩
  · rw [if_pos h1, h2]
  · rw [if_neg h1, h2]
def tkR (r : Nat → Int32) (l v : Nat) : Int32 := takF (r 0) (ltx r l) (vt r v 2) (vt r v 1)
/-- the row behind a dip of the lot l into the vat v -/
noncomputable def dyeR (r : Nat → Int32) (l v : Nat) : Nat → Int32 := rowL (rowV (upd r 10 (r 10 + 1)) v (soakY (ltx r l) (vt r v) r (tkR r l v))) l (soakF (ltx r l) (vt r v) r (cl (vt r v 0)) (tkR r l v))
noncomputable def F_dip (r : Nat → Int32) (lw vw : Int32) : Int32 × (Nat → Int32) :=
  cond (okB (r 8) lw && okB (r 7) vw) (cond (sold r (cl lw) || (hangs r (cl lw) || decide (vt r (cl vw) 2 ≤ 0))) (-2, r) (tkR r (cl lw) (cl vw), dyeR r (cl lw) (cl vw))) (-1, r)
def rinR (r : Nat → Int32) (l : Nat) : Nat → (Nat → Int32)
  | 0 => r
  | k + 1 => upd (upd (rinR r l k) (15 + k) (rinR r l k (15 + k) + rinR r l k (43 + 15 * l + (6 + k)))) (43 + 15 * l + (6 + k)) 0
def F_rinse (r : Nat → Int32) (lw : Int32) : Int32 × (Nat → Int32) :=
  cond (okB (r 8) lw) (cond (sold r (cl lw) || hangs r (cl lw)) (-2, r) (sumI (fun d => ltx r (cl lw) (6 + d)) 4, rinR r (cl lw) 4)) (-1, r)
def F_hang (r : Nat → Int32) (lw k : Int32) : Int32 × (Nat → Int32) :=
  cond (okB (r 8) lw && rngB 0 1 k) (cond (sold r (cl lw) || (hangs r (cl lw) || decide (¬ ltx r (cl lw) 0 = k))) (-2, r) (cond (decide (4 ≤ nI (rackN r k))) (-3, r) (nI (rackN (upd r (43 + 15 * cl lw + 10) 1) k), upd r (43 + 15 * cl lw + 10) 1))) (-1, r)
def F_take (r : Nat → Int32) (lw : Int32) : Int32 × (Nat → Int32) :=
  cond (okB (r 8) lw) (cond (hangs r (cl lw)) (nI (rackN (upd r (43 + 15 * cl lw + 10) 0) (ltx r (cl lw) 0)), upd r (43 + 15 * cl lw + 10) 0) (-2, r)) (-1, r)
def F_order (r : Nat → Int32) (a b c d : Int32) : Int32 × (Nat → Int32) :=
  cond (rngB 0 20000 a && (rngB 0 20000 b && (rngB 0 20000 c && rngB 0 20000 d))) (cond (decide (r 9 < 60) && decide (nI (unsN r) < 8)) (r 9, upd (upd (upd (upd (upd r (343 + 5 * cl (r 9) + 0) a) (343 + 5 * cl (r 9) + 1) b) (343 + 5 * cl (r 9) + 2) c) (343 + 5 * cl (r 9) + 3) d) 9 (r 9 + 1)) (-3, r)) (-1, r)
noncomputable def F_sell (r : Nat → Int32) (lw ow : Int32) : Int32 × (Nat → Int32) :=
  cond (okB (r 8) lw && okB (r 9) ow) (cond (sold r (cl lw) || (!hangs r (cl lw) || (decide (¬ od r (cl ow) 4 = 0) || !fitB (ltx r (cl lw)) (od r (cl ow)) r))) (-2, r) (ltx r (cl lw) 1, upd (upd (upd r (43 + 15 * cl lw + 13) (ow + 1)) (43 + 15 * cl lw + 10) 0) (343 + 5 * cl ow + 4) 1)) (-1, r)
theorem ltx_lo {r : Nat → Int32} {p l : Nat} {x : Int32} (h : p < 43) : ltx (upd r p x) l = ltx r l := by
  funext k
  exact upd_n (by omega)
theorem vt_lo {r : Nat → Int32} {p v : Nat} {x : Int32} (h : p < 19) : vt (upd r p x) v = vt r v := by
  funext k
  exact upd_n (by omega)
theorem od_lo {r : Nat → Int32} {p o : Nat} {x : Int32} (h : p < 343) : od (upd r p x) o = od r o := by
  funext k
  exact upd_n (by omega)
theorem hob_10 {A : Nat → Nat} {r : Nat → Int32} {x : Int32} : ob 1 (hobC A (upd r 10 x)) = ob 1 [.ref (A 1), .ref (A 2), .ref (A 3), .int (r 7), .int (r 8), .int (r 9), .int x, .ref (A 4), .ref (A 5), .ref (A 6)] := rfl
theorem HouseAt.dye {X : Cx} {h h2 : Hp} {A : Nat → Nat} {r : Nat → Int32} {l v d : Nat} {t : Int32} {x2 : Nat → Int32} (hI : InjA A) (k : HouseAt X h A r) (hv : v < 6) (hl : l < 20) (hd : vt r v 0 = nI d) (hd4 : d < 4) (ht : t = tkR r l v) (hx : soakX (ltx r l) (vt r v) r d t x2) (kl : LotAt X h2 (A (14 + 3 * l)) (A (15 + 3 * l)) (A (16 + 3 * l)) x2) (kv : VatAt h2 (A (8 + v)) (soakY (ltx r l) (vt r v) r t)) (f : ∀ q, q ≠ A (14 + 3 * l) → q ≠ A (15 + 3 * l) → q ≠ A (16 + 3 * l) → q ≠ A (8 + v) → h2 q = hu h (A 0) (ob 1 (hobC A (upd r 10 (r 10 + 1)))) q) : HouseAt X h2 A (dyeR r l v) := by
  subst ht
  have k1 : HouseAt X (hu h (A 0) (ob 1 (hobC A (upd r 10 (r 10 + 1))))) A (upd r 10 (r 10 + 1)) := HouseAt.fld hI k rfl (fun p _ _ _ n => upd_n n)
  have k2 : HouseAt X (fun q => if q = A (8 + v) then h2 q else hu h (A 0) (ob 1 (hobC A (upd r 10 (r 10 + 1)))) q) A (rowV (upd r 10 (r 10 + 1)) v (soakY (ltx r l) (vt r v) r (tkR r l v))) := by
    refine HouseAt.vat hI k1 hv (kv.kept (if_pos rfl)) (fun q n => if_neg n) (fun j hj => (rowV_in hj).symm) (fun p _ hp => (rowV_out hp).symm)
  have e : x2 = soakF (ltx r l) (vt r v) r (cl (vt r v 0)) (tkR r l v) := by
    rw [hd, cl_nI (by omega)]
    exact soak_f hx
  refine HouseAt.lot hI k2 hl kl (fun q n1 n2 n3 => ?_) (fun j hj => ?_) (fun p _ hp => (rowL_out hp).symm)
  · show h2 q = if q = A (8 + v) then h2 q else _
    by_cases z : q = A (8 + v)
    · rw [if_pos z]
    · rw [if_neg z]
      exact f q n1 n2 n3 z
  · rw [e]
    exact (rowL_in hj).symm

set_option maxHeartbeats 4000000 in
set_option maxRecDepth 100000 in
theorem ct_X1_dipLot (X : Cx) {h : Hp} {A : Nat → Nat} {r : Nat → Int32} {lw vw : Int32}  (hI : InjA A) (hO : Ok r) (hA : HouseAt X h A r) : Ct X mX1_dipLot 3 0 0 [.ref (A 0), .int lw, .int vw] h (fun u h1 => u = some (.int (F_dip r lw vw).1) ∧ HouseAt X h1 A (F_dip r lw vw).2 ∧ ∀ q, outA A q → h1 q = h q) := by
  have hO0 := hO
  obtain ⟨nv, nl, no, hnv, hnl, hno, e7, e8, e9, hset, hvok, hvz, hlok, hlz, hok, hoz, hw⟩ := hO0
  have hA0 := hA
  obtain ⟨a0, a1, a2, a3, a4, a5, a6, av, al, ao⟩ := hA0
  unfold hobC at a0
  rw [e7, e8, e9] at a0
  refine Ct.ofG vX1_dipLot.1.2.2.1 (Nat.le_of_ble_eq_true rfl) ?_
  show G X RX1 cX1_dipLot 5 (some .int) "dipLot" (Rm 3 0 0) (Fm X (fun u h1 => u = some (.int (F_dip r lw vw).1) ∧ HouseAt X h1 A (F_dip r lw vw).2 ∧ ∀ q, outA A q → h1 q = h q) 0 0) 0 0 0 [(0, .ref (A 0)), (1, .int lw), (2, .int vw)] [] h
  refine g_aload_n dX1_dipLot_0 (by rfl) (by first | exact isRf_r | exact isRf_n | exact isRf_o | assumption) ?_
  refine g_iload_n dX1_dipLot_1 (by rfl) ?_
  by_cases hvj : ∃ j, j < nl ∧ lw = nI j
  · skip
    obtain ⟨j, hj, rfl⟩ := hvj
    have alj := al j (by omega)
    obtain ⟨l1, l2, l3⟩ := alj
    unfold lotC at l1
    refine g_cV1x dX1_dipLot_2 lX1_118 vX1_findLot (ct_findLot X (by omega) a0 a2 hj (laR_j (by omega))) (by first | assumption | (repeat' (first | assumption | exact hu_same | exact Ne.symm (by assumption) | apply hu_n1))) rfl ⟨Nat.le_of_ble_eq_true rfl, Nat.le_of_ble_eq_true rfl⟩ (Nat.le_of_ble_eq_true rfl) ⟨Nat.le_of_ble_eq_true rfl, Nat.le_of_ble_eq_true rfl⟩ ?_
    refine g_astore_n (L1 := [(0, _), (1, _), (2, _), (3, _)]) dX1_dipLot_5 (by first | exact isRf_r | exact isRf_n | exact isRf_o | assumption) (by decide) (by rfl) ?_
    refine g_aload_n dX1_dipLot_6 (by rfl) (by first | exact isRf_r | exact isRf_n | exact isRf_o | assumption) ?_
    refine g_iload_n dX1_dipLot_7 (by rfl) ?_
    by_cases hvi : ∃ j, j < nv ∧ vw = nI j
    · skip
      obtain ⟨i, hi, rfl⟩ := hvi
      obtain ⟨⟨d, hd, ed⟩, hli1, hli2, hgr⟩ := hvok i hi
      have avi := av i (by omega)
      have avi0 := avi
      unfold VatAt at avi0
      refine g_cV1x dX1_dipLot_8 lX1_92 vX1_findVat (ct_findVat X (by omega) a0 a1 hi (vaR_j (by omega))) (by first | assumption | (repeat' (first | assumption | exact hu_same | exact Ne.symm (by assumption) | apply hu_n1))) rfl ⟨Nat.le_of_ble_eq_true rfl, Nat.le_of_ble_eq_true rfl⟩ (Nat.le_of_ble_eq_true rfl) ⟨Nat.le_of_ble_eq_true rfl, Nat.le_of_ble_eq_true rfl⟩ ?_
      refine g_astore (L1 := [(0, _), (1, _), (2, _), (3, _), (4, _)]) dX1_dipLot_11 (by first | exact isRf_r | exact isRf_n | exact isRf_o | assumption) (by decide) (by rfl) ?_
      refine g_aload_n dX1_dipLot_13 (by rfl) (by first | exact isRf_r | exact isRf_n | exact isRf_o | assumption) ?_
      refine g_ifnull (tgt := 22) dX1_dipLot_14 (by decide) (by first | exact isRf_r | exact isRf_n | exact isRf_o | assumption) (fun c1 => nomatch c1) (fun c1 => ?_)
      refine g_aload dX1_dipLot_17 (by rfl) (by first | exact isRf_r | exact isRf_n | exact isRf_o | assumption) ?_
      refine g_ifnonnull (tgt := 24) dX1_dipLot_19 (by decide) (by first | exact isRf_r | exact isRf_n | exact isRf_o | assumption) (fun c2 => ?_) (fun c2 => nomatch c2)
      refine g_aload_n dX1_dipLot_24 (by rfl) (by first | exact isRf_r | exact isRf_n | exact isRf_o | assumption) ?_
      refine g_cV0x dX1_dipLot_25 lX1_128 vX2_isSold (ct_X2_isSold X (al j (by omega))) (by first | assumption | (repeat' (first | assumption | exact hu_same | exact Ne.symm (by assumption) | apply hu_n1))) rfl ⟨Nat.le_of_ble_eq_true rfl, Nat.le_of_ble_eq_true rfl⟩ (Nat.le_of_ble_eq_true rfl) ⟨Nat.le_of_ble_eq_true rfl, Nat.le_of_ble_eq_true rfl⟩ ?_
      refine g_if_ne (tgt := 46) dX1_dipLot_28 (by decide) (fun c3 => ?_) (fun c3 => ?_)
      · skip
        have hb : (sold r j || (hangs r j || decide (vt r i 2 ≤ 0))) = true := by simp [sold, bI_d1 _ c3]
        refine g_bipush (v := (-2)) dX1_dipLot_46 (by decide) ?_
        refine g_iret dX1_dipLot_48 rfl (Nat.le_refl _) (Nat.le_refl _) ?_
        refine fin_err hA ?_
        unfold F_dip
        rw [e8, e7, okB_t hj (by omega), okB_t hi (by omega), cl_nI (by omega), cl_nI (by omega), hb]
        rfl
      · skip
        have hs := bI_d0 _ c3
        have hs2 : ltx r j 13 = 0 := Classical.byContradiction (fun q => hs q)
        refine g_aload_n dX1_dipLot_31 (by rfl) (by first | exact isRf_r | exact isRf_n | exact isRf_o | assumption) ?_
        refine g_getf dX1_dipLot_32 fX1_132 (by first | assumption | (repeat' (first | assumption | exact hu_same | exact Ne.symm (by assumption) | apply hu_n1))) (by rfl) ?_
        refine g_if_ne (tgt := 46) dX1_dipLot_35 (by decide) (fun c4 => ?_) (fun c4 => ?_)
        · skip
          have hb : (sold r j || (hangs r j || decide (vt r i 2 ≤ 0))) = true := by simp [hangs, c4]
          refine g_bipush (v := (-2)) dX1_dipLot_46 (by decide) ?_
          refine g_iret dX1_dipLot_48 rfl (Nat.le_refl _) (Nat.le_refl _) ?_
          refine fin_err hA ?_
          unfold F_dip
          rw [e8, e7, okB_t hj (by omega), okB_t hi (by omega), cl_nI (by omega), cl_nI (by omega), hb]
          rfl
        · skip
          have hh := c4
          refine g_aload dX1_dipLot_38 (by rfl) (by first | exact isRf_r | exact isRf_n | exact isRf_o | assumption) ?_
          refine g_getf dX1_dipLot_40 fX1_112 (by first | assumption | (repeat' (first | assumption | exact hu_same | exact Ne.symm (by assumption) | apply hu_n1))) (by rfl) ?_
          refine g_if_gt (tgt := 49) dX1_dipLot_43 (by decide) (fun c5 => ?_) (fun c5 => ?_)
          · skip
            have hb : (sold r j || (hangs r j || decide (vt r i 2 ≤ 0))) = false := by
              have z : ¬ vt r i 2 ≤ 0 := i_nle c5
              simp [sold, hangs, hs2, hh, z]
            refine g_aload_n dX1_dipLot_49 (by rfl) (by first | exact isRf_r | exact isRf_n | exact isRf_o | assumption) ?_
            refine g_dup dX1_dipLot_50 (by rfl) ?_
            refine g_getf dX1_dipLot_51 fX1_56 (by first | assumption | (repeat' (first | assumption | exact hu_same | exact Ne.symm (by assumption) | apply hu_n1))) (by rfl) ?_
            refine g_iconst (v := 1) dX1_dipLot_54 (by decide) ?_
            refine g_iadd dX1_dipLot_55 ?_
            refine g_putf (ty := .int) dX1_dipLot_56 fX1_56 (by decide +kernel) (by rfl) (by rfl) (by first | assumption | (repeat' (first | assumption | exact hu_same | exact Ne.symm (by assumption) | apply hu_n1))) (by exact Nat.le_of_ble_eq_true rfl) ?_
            refine g_gen (fun h1 e1 => ?_)
            have kL : LotAt X h1 (A (14 + 3 * j)) (A (15 + 3 * j)) (A (16 + 3 * j)) (ltx r j) := (al j (by omega)).kept (by rw [e1, hu_ne (hI.ne (by omega) (by omega) (by omega))]) (by rw [e1, hu_ne (hI.ne (by omega) (by omega) (by omega))]) (by rw [e1, hu_ne (hI.ne (by omega) (by omega) (by omega))])
            have kV : VatAt h1 (A (8 + i)) (vt r i) := avi.kept (by rw [e1, hu_ne (hI.ne (by omega) (by omega) (by omega))])
            have kS : SetAt X h1 (A 6) (A 7) r := a6.kept (by rw [e1, hu_ne (hI.ne (by omega) (by omega) (by omega))]) (by rw [e1, hu_ne (hI.ne (by omega) (by omega) (by omega))])
            have kL0 := kL.1
            unfold lotC at kL0
            have k0 : h1 (A 0) = some (ob 1 [.ref (A 1), .ref (A 2), .ref (A 3), .int (nI nv), .int (nI nl), .int (nI no), .int (r 10 + 1), .ref (A 4), .ref (A 5), .ref (A 6)]) := by rw [e1]; exact hu_same
            refine g_aload_n dX1_dipLot_59 (by rfl) (by first | exact isRf_r | exact isRf_n | exact isRf_o | assumption) ?_
            refine g_aload dX1_dipLot_60 (by rfl) (by first | exact isRf_r | exact isRf_n | exact isRf_o | assumption) ?_
            refine g_aload_n dX1_dipLot_62 (by rfl) (by first | exact isRf_r | exact isRf_n | exact isRf_o | assumption) ?_
            refine g_getf dX1_dipLot_63 fX1_39 (by first | assumption | (repeat' (first | assumption | exact hu_same | exact Ne.symm (by assumption) | apply hu_n1))) (by rfl) ?_
            refine g_cV2 dX1_dipLot_66 lX1_136 vX2_soakIn (ct_X2_soakIn X (t := tkR r j i) (d := d) rfl (dok_of hset (hvok i hi) (hlok j hj)) hd ed kL kV kS (hI.ne (by omega) (by omega) (by omega))) (by first | assumption | (repeat' (first | assumption | exact hu_same | exact Ne.symm (by assumption) | apply hu_n1))) rfl ⟨Nat.le_of_ble_eq_true rfl, Nat.le_of_ble_eq_true rfl⟩ (Nat.le_of_ble_eq_true rfl) ⟨Nat.le_of_ble_eq_true rfl, Nat.le_of_ble_eq_true rfl⟩ ?_
            rintro _ h2 ⟨rfl, ⟨x2, hx2, kl⟩, kv, kf⟩
            refine g_stk (st' := [.int (tkR r j i)]) rfl ?_
            refine g_iret dX1_dipLot_69 rfl (Nat.le_refl _) (Nat.le_refl _) ?_
            refine fin_ok (x := tkR r j i) (r2 := dyeR r j i) ?_ ?_ ?_
            · unfold F_dip
              rw [e8, e7, okB_t hj (by omega), okB_t hi (by omega), cl_nI (by omega), cl_nI (by omega), hb]
              rfl
            · refine HouseAt.dye hI hA (by omega) (by omega) ed hd rfl hx2 kl kv (fun q n1 n2 n3 n4 => ?_)
              rw [kf q n1 n2 n3 n4, e1, hob_10, e7, e8, e9]
              rfl
            · intro q hq
              rw [kf q (hq _ (by omega)) (hq _ (by omega)) (hq _ (by omega)) (hq _ (by omega)), e1, hu_ne (hq _ (by omega))]
          · skip
            have hb : (sold r j || (hangs r j || decide (vt r i 2 ≤ 0))) = true := by simp [i_nlt c5]
            refine g_bipush (v := (-2)) dX1_dipLot_46 (by decide) ?_
            refine g_iret dX1_dipLot_48 rfl (Nat.le_refl _) (Nat.le_refl _) ?_
            refine fin_err hA ?_
            unfold F_dip
            rw [e8, e7, okB_t hj (by omega), okB_t hi (by omega), cl_nI (by omega), cl_nI (by omega), hb]
            rfl
    · skip
      refine g_cV1x dX1_dipLot_8 lX1_92 vX1_findVat (ct_findVatN X (by omega) a0 a1 hvi) (by first | assumption | (repeat' (first | assumption | exact hu_same | exact Ne.symm (by assumption) | apply hu_n1))) rfl ⟨Nat.le_of_ble_eq_true rfl, Nat.le_of_ble_eq_true rfl⟩ (Nat.le_of_ble_eq_true rfl) ⟨Nat.le_of_ble_eq_true rfl, Nat.le_of_ble_eq_true rfl⟩ ?_
      refine g_astore (L1 := [(0, _), (1, _), (2, _), (3, _), (4, _)]) dX1_dipLot_11 (by first | exact isRf_r | exact isRf_n | exact isRf_o | assumption) (by decide) (by rfl) ?_
      refine g_aload_n dX1_dipLot_13 (by rfl) (by first | exact isRf_r | exact isRf_n | exact isRf_o | assumption) ?_
      refine g_ifnull (tgt := 22) dX1_dipLot_14 (by decide) (by first | exact isRf_r | exact isRf_n | exact isRf_o | assumption) (fun c6 => nomatch c6) (fun c6 => ?_)
      refine g_aload dX1_dipLot_17 (by rfl) (by first | exact isRf_r | exact isRf_n | exact isRf_o | assumption) ?_
      refine g_ifnonnull (tgt := 24) dX1_dipLot_19 (by decide) (by first | exact isRf_r | exact isRf_n | exact isRf_o | assumption) (fun c7 => absurd rfl c7) (fun c7 => ?_)
      refine g_iconst (v := (-1)) dX1_dipLot_22 (by decide) ?_
      refine g_iret dX1_dipLot_23 rfl (Nat.le_refl _) (Nat.le_refl _) ?_
      refine fin_err hA ?_
      unfold F_dip
      first
        | (rw [e8, okB_f (by omega) hvj]; rfl)
        | (rw [e7, okB_f (by omega) hvi, Bool.and_false]; rfl)
  · skip
    refine g_cV1x dX1_dipLot_2 lX1_118 vX1_findLot (ct_findLotN X (by omega) a0 a2 hvj) (by first | assumption | (repeat' (first | assumption | exact hu_same | exact Ne.symm (by assumption) | apply hu_n1))) rfl ⟨Nat.le_of_ble_eq_true rfl, Nat.le_of_ble_eq_true rfl⟩ (Nat.le_of_ble_eq_true rfl) ⟨Nat.le_of_ble_eq_true rfl, Nat.le_of_ble_eq_true rfl⟩ ?_
    refine g_astore_n (L1 := [(0, _), (1, _), (2, _), (3, _)]) dX1_dipLot_5 (by first | exact isRf_r | exact isRf_n | exact isRf_o | assumption) (by decide) (by rfl) ?_
    refine g_aload_n dX1_dipLot_6 (by rfl) (by first | exact isRf_r | exact isRf_n | exact isRf_o | assumption) ?_
    refine g_iload_n dX1_dipLot_7 (by rfl) ?_
    by_cases hvi : ∃ j, j < nv ∧ vw = nI j
    · skip
      obtain ⟨i, hi, rfl⟩ := hvi
      obtain ⟨⟨d, hd, ed⟩, hli1, hli2, hgr⟩ := hvok i hi
      have avi := av i (by omega)
      have avi0 := avi
      unfold VatAt at avi0
      refine g_cV1x dX1_dipLot_8 lX1_92 vX1_findVat (ct_findVat X (by omega) a0 a1 hi (vaR_j (by omega))) (by first | assumption | (repeat' (first | assumption | exact hu_same | exact Ne.symm (by assumption) | apply hu_n1))) rfl ⟨Nat.le_of_ble_eq_true rfl, Nat.le_of_ble_eq_true rfl⟩ (Nat.le_of_ble_eq_true rfl) ⟨Nat.le_of_ble_eq_true rfl, Nat.le_of_ble_eq_true rfl⟩ ?_
      refine g_astore (L1 := [(0, _), (1, _), (2, _), (3, _), (4, _)]) dX1_dipLot_11 (by first | exact isRf_r | exact isRf_n | exact isRf_o | assumption) (by decide) (by rfl) ?_
      refine g_aload_n dX1_dipLot_13 (by rfl) (by first | exact isRf_r | exact isRf_n | exact isRf_o | assumption) ?_
      refine g_ifnull (tgt := 22) dX1_dipLot_14 (by decide) (by first | exact isRf_r | exact isRf_n | exact isRf_o | assumption) (fun c8 => ?_) (fun c8 => absurd rfl c8)
      refine g_iconst (v := (-1)) dX1_dipLot_22 (by decide) ?_
      refine g_iret dX1_dipLot_23 rfl (Nat.le_refl _) (Nat.le_refl _) ?_
      refine fin_err hA ?_
      unfold F_dip
      first
        | (rw [e8, okB_f (by omega) hvj]; rfl)
        | (rw [e7, okB_f (by omega) hvi, Bool.and_false]; rfl)
    · skip
      refine g_cV1x dX1_dipLot_8 lX1_92 vX1_findVat (ct_findVatN X (by omega) a0 a1 hvi) (by first | assumption | (repeat' (first | assumption | exact hu_same | exact Ne.symm (by assumption) | apply hu_n1))) rfl ⟨Nat.le_of_ble_eq_true rfl, Nat.le_of_ble_eq_true rfl⟩ (Nat.le_of_ble_eq_true rfl) ⟨Nat.le_of_ble_eq_true rfl, Nat.le_of_ble_eq_true rfl⟩ ?_
      refine g_astore (L1 := [(0, _), (1, _), (2, _), (3, _), (4, _)]) dX1_dipLot_11 (by first | exact isRf_r | exact isRf_n | exact isRf_o | assumption) (by decide) (by rfl) ?_
      refine g_aload_n dX1_dipLot_13 (by rfl) (by first | exact isRf_r | exact isRf_n | exact isRf_o | assumption) ?_
      refine g_ifnull (tgt := 22) dX1_dipLot_14 (by decide) (by first | exact isRf_r | exact isRf_n | exact isRf_o | assumption) (fun c9 => ?_) (fun c9 => absurd rfl c9)
      refine g_iconst (v := (-1)) dX1_dipLot_22 (by decide) ?_
      refine g_iret dX1_dipLot_23 rfl (Nat.le_refl _) (Nat.le_refl _) ?_
      refine fin_err hA ?_
      unfold F_dip
      first
        | (rw [e8, okB_f (by omega) hvj]; rfl)
        | (rw [e7, okB_f (by omega) hvi, Bool.and_false]; rfl)

set_option maxHeartbeats 4000000 in
set_option maxRecDepth 100000 in
theorem ct_X1_drainVat (X : Cx) {h : Hp} {A : Nat → Nat} {r : Nat → Int32} {w : Int32}  (hI : InjA A) (hO : Ok r) (hA : HouseAt X h A r) : Ct X mX1_drainVat 1 0 0 [.ref (A 0), .int w] h (fun u h1 => u = some (.int (F_drain r w).1) ∧ HouseAt X h1 A (F_drain r w).2 ∧ ∀ q, outA A q → h1 q = h q) := by
  have hO0 := hO
  obtain ⟨nv, nl, no, hnv, hnl, hno, e7, e8, e9, hset, hvok, hvz, hlok, hlz, hok, hoz, hw⟩ := hO0
  have hA0 := hA
  obtain ⟨a0, a1, a2, a3, a4, a5, a6, av, al, ao⟩ := hA0
  unfold hobC at a0
  rw [e7, e8, e9] at a0
  refine Ct.ofG vX1_drainVat.1.2.2.1 (Nat.le_of_ble_eq_true rfl) ?_
  show G X RX1 cX1_drainVat 4 (some .int) "drainVat" (Rm 1 0 0) (Fm X (fun u h1 => u = some (.int (F_drain r w).1) ∧ HouseAt X h1 A (F_drain r w).2 ∧ ∀ q, outA A q → h1 q = h q) 0 0) 0 0 0 [(0, .ref (A 0)), (1, .int w)] [] h
  refine g_aload_n dX1_drainVat_0 (by rfl) (by first | exact isRf_r | exact isRf_n | exact isRf_o | assumption) ?_
  refine g_iload_n dX1_drainVat_1 (by rfl) ?_
  by_cases hvj : ∃ j, j < nv ∧ w = nI j
  · skip
    obtain ⟨j, hj, rfl⟩ := hvj
    obtain ⟨⟨d, hd, ed⟩, hli1, hli2, hgr⟩ := hvok j hj
    have avj := av j (by omega)
    unfold VatAt at avj
    rw [ed] at avj
    have nv4 : A (8 + j) ≠ A 4 := hI.ne (by omega) (by omega) (by omega)
    have nv5 : A (8 + j) ≠ A 5 := hI.ne (by omega) (by omega) (by omega)
    refine g_cV1x dX1_drainVat_2 lX1_92 vX1_findVat (ct_findVat X (by omega) a0 a1 hj (vaR_j (by omega))) (by first | assumption | (repeat' (first | assumption | exact hu_same | exact Ne.symm (by assumption) | apply hu_n1))) rfl ⟨Nat.le_of_ble_eq_true rfl, Nat.le_of_ble_eq_true rfl⟩ (Nat.le_of_ble_eq_true rfl) ⟨Nat.le_of_ble_eq_true rfl, Nat.le_of_ble_eq_true rfl⟩ ?_
    refine g_astore_n (L1 := [(0, _), (1, _), (2, _)]) dX1_drainVat_5 (by first | exact isRf_r | exact isRf_n | exact isRf_o | assumption) (by decide) (by rfl) ?_
    refine g_aload_n dX1_drainVat_6 (by rfl) (by first | exact isRf_r | exact isRf_n | exact isRf_o | assumption) ?_
    refine g_ifnonnull (tgt := 12) dX1_drainVat_7 (by decide) (by first | exact isRf_r | exact isRf_n | exact isRf_o | assumption) (fun c1 => ?_) (fun c1 => nomatch c1)
    refine g_aload_n dX1_drainVat_12 (by rfl) (by first | exact isRf_r | exact isRf_n | exact isRf_o | assumption) ?_
    refine g_getf dX1_drainVat_13 fX1_112 (by first | assumption | (repeat' (first | assumption | exact hu_same | exact Ne.symm (by assumption) | apply hu_n1))) (by rfl) ?_
    refine g_istore_n (L1 := [(0, _), (1, _), (2, _), (3, _)]) dX1_drainVat_16 (by decide) (by rfl) ?_
    refine g_aload_n dX1_drainVat_17 (by rfl) (by first | exact isRf_r | exact isRf_n | exact isRf_o | assumption) ?_
    refine g_getf dX1_drainVat_18 fX1_33 (by first | assumption | (repeat' (first | assumption | exact hu_same | exact Ne.symm (by assumption) | apply hu_n1))) (by rfl) ?_
    refine g_aload_n dX1_drainVat_21 (by rfl) (by first | exact isRf_r | exact isRf_n | exact isRf_o | assumption) ?_
    refine g_getf dX1_drainVat_22 fX1_96 (by first | assumption | (repeat' (first | assumption | exact hu_same | exact Ne.symm (by assumption) | apply hu_n1))) (by rfl) ?_
    refine g_iload_n dX1_drainVat_25 (by rfl) ?_
    refine g_cN3v dX1_drainVat_26 lX1_108 vX9_addTo (ct_X9_addTo X hd (by omega) a5) ⟨Nat.le_of_ble_eq_true rfl, Nat.le_of_ble_eq_true rfl⟩ (Nat.le_of_ble_eq_true rfl) ⟨Nat.le_of_ble_eq_true rfl, Nat.le_of_ble_eq_true rfl⟩ ?_
    refine g_aload_n dX1_drainVat_29 (by rfl) (by first | exact isRf_r | exact isRf_n | exact isRf_o | assumption) ?_
    refine g_iconst (v := 0) dX1_drainVat_30 (by decide) ?_
    refine g_putf (ty := .int) dX1_drainVat_31 fX1_112 (by decide +kernel) (by rfl) (by rfl) (by first | assumption | (repeat' (first | assumption | exact hu_same | exact Ne.symm (by assumption) | apply hu_n1))) (by exact Nat.le_of_ble_eq_true rfl) ?_
    refine g_aload_n dX1_drainVat_34 (by rfl) (by first | exact isRf_r | exact isRf_n | exact isRf_o | assumption) ?_
    refine g_iconst (v := 0) dX1_drainVat_35 (by decide) ?_
    refine g_putf (ty := .int) dX1_drainVat_36 fX1_115 (by decide +kernel) (by rfl) (by rfl) (by first | assumption | (repeat' (first | assumption | exact hu_same | exact Ne.symm (by assumption) | apply hu_n1))) (by exact Nat.le_of_ble_eq_true rfl) ?_
    refine g_iload_n dX1_drainVat_39 (by rfl) ?_
    refine g_iret dX1_drainVat_40 rfl (Nat.le_refl _) (Nat.le_refl _) ?_
    refine fin_ok (x := vt r j 2) (r2 := upd (upd (upd r (15 + d) (r (15 + d) + vt r j 2)) (19 + 4 * j + 2) 0) (19 + 4 * j + 3) 0) ?_ ?_ ?_
    · unfold F_drain
      rw [e7, okB_t hj (by omega), cl_nI (by omega), ed, cl_nI (by omega)]
      rfl
    · rw [nr_lt hd, hu_hu]
      exact HouseAt.vatU hI (HouseAt.was hI hA hd) (by omega) (by rw [upd_n (by omega), upd_n (by omega), upd_n (by omega), ← ed]; rfl) (by rw [upd_n (by omega), upd_n (by omega), upd_n (by omega)]; rfl) (by rw [upd_n (by omega), upd_s]) (by rw [upd_s]) (fun p hp h2 => ((upd_n (by omega)).trans (upd_n (by omega))).symm)
    · intro q hq
      rw [hu_ne (hq _ (by omega)), hu_ne (hq _ (by omega)), hu_ne (hq _ (by omega))]
  · skip
    refine g_cV1x dX1_drainVat_2 lX1_92 vX1_findVat (ct_findVatN X (by omega) a0 a1 hvj) (by first | assumption | (repeat' (first | assumption | exact hu_same | exact Ne.symm (by assumption) | apply hu_n1))) rfl ⟨Nat.le_of_ble_eq_true rfl, Nat.le_of_ble_eq_true rfl⟩ (Nat.le_of_ble_eq_true rfl) ⟨Nat.le_of_ble_eq_true rfl, Nat.le_of_ble_eq_true rfl⟩ ?_
    refine g_astore_n (L1 := [(0, _), (1, _), (2, _)]) dX1_drainVat_5 (by first | exact isRf_r | exact isRf_n | exact isRf_o | assumption) (by decide) (by rfl) ?_
    refine g_aload_n dX1_drainVat_6 (by rfl) (by first | exact isRf_r | exact isRf_n | exact isRf_o | assumption) ?_
    refine g_ifnonnull (tgt := 12) dX1_drainVat_7 (by decide) (by first | exact isRf_r | exact isRf_n | exact isRf_o | assumption) (fun c2 => absurd rfl c2) (fun c2 => ?_)
    refine g_iconst (v := (-1)) dX1_drainVat_10 (by decide) ?_
    refine g_iret dX1_drainVat_11 rfl (Nat.le_refl _) (Nat.le_refl _) ?_
    refine fin_err hA ?_
    unfold F_drain
    first
      | (rw [e7, okB_f (by omega) hvj]; rfl)

theorem rin_ltx {r : Nat → Int32} {l : Nat} : ∀ {n k : Nat}, (∀ m, m < n → k ≠ 6 + m) → n ≤ 4 → l < 20 → ltx (rinR r l n) l k = ltx r l k
  | 0, k, _, _, _ => rfl
  | n + 1, k, h, hn, hl => by
    show upd (upd _ _ _) _ _ (43 + 15 * l + k) = _
    rw [upd_n (by have := h n (by omega); omega), upd_n (by omega)]
    exact rin_ltx (fun m hm => h m (by omega)) (by omega) hl
theorem rin_lo {r : Nat → Int32} {l p : Nat} : ∀ {n : Nat}, p < 15 → rinR r l n p = r p
  | 0, _ => rfl
  | n + 1, h => by
    show upd (upd _ _ _) _ _ p = _
    rw [upd_n (by omega), upd_n (by omega)]
    exact rin_lo h

set_option maxHeartbeats 4000000 in
set_option maxRecDepth 100000 in
theorem ct_X1_rinseLot (X : Cx) {h : Hp} {A : Nat → Nat} {r : Nat → Int32} {w : Int32}  (hI : InjA A) (hO : Ok r) (hA : HouseAt X h A r) : Ct X mX1_rinseLot 1 0 0 [.ref (A 0), .int w] h (fun u h1 => u = some (.int (F_rinse r w).1) ∧ HouseAt X h1 A (F_rinse r w).2 ∧ ∀ q, outA A q → h1 q = h q) := by
  have hO0 := hO
  obtain ⟨nv, nl, no, hnv, hnl, hno, e7, e8, e9, hset, hvok, hvz, hlok, hlz, hok, hoz, hw⟩ := hO0
  have hA0 := hA
  obtain ⟨a0, a1, a2, a3, a4, a5, a6, av, al, ao⟩ := hA0
  unfold hobC at a0
  rw [e7, e8, e9] at a0
  refine Ct.ofG vX1_rinseLot.1.2.2.1 (Nat.le_of_ble_eq_true rfl) ?_
  show G X RX1 cX1_rinseLot 5 (some .int) "rinseLot" (Rm 1 0 0) (Fm X (fun u h1 => u = some (.int (F_rinse r w).1) ∧ HouseAt X h1 A (F_rinse r w).2 ∧ ∀ q, outA A q → h1 q = h q) 0 0) 0 0 0 [(0, .ref (A 0)), (1, .int w)] [] h
  refine g_aload_n dX1_rinseLot_0 (by rfl) (by first | exact isRf_r | exact isRf_n | exact isRf_o | assumption) ?_
  refine g_iload_n dX1_rinseLot_1 (by rfl) ?_
  by_cases hvj : ∃ j, j < nl ∧ w = nI j
  · skip
    obtain ⟨j, hj, rfl⟩ := hvj
    have alj := al j (by omega)
    obtain ⟨l1, l2, l3⟩ := alj
    unfold lotC at l1
    unfold looA at l3
    unfold fixA at l2
    refine g_cV1x dX1_rinseLot_2 lX1_118 vX1_findLot (ct_findLot X (by omega) a0 a2 hj (laR_j (by omega))) (by first | assumption | (repeat' (first | assumption | exact hu_same | exact Ne.symm (by assumption) | apply hu_n1))) rfl ⟨Nat.le_of_ble_eq_true rfl, Nat.le_of_ble_eq_true rfl⟩ (Nat.le_of_ble_eq_true rfl) ⟨Nat.le_of_ble_eq_true rfl, Nat.le_of_ble_eq_true rfl⟩ ?_
    refine g_astore_n (L1 := [(0, _), (1, _), (2, _)]) dX1_rinseLot_5 (by first | exact isRf_r | exact isRf_n | exact isRf_o | assumption) (by decide) (by rfl) ?_
    refine g_aload_n dX1_rinseLot_6 (by rfl) (by first | exact isRf_r | exact isRf_n | exact isRf_o | assumption) ?_
    refine g_ifnonnull (tgt := 12) dX1_rinseLot_7 (by decide) (by first | exact isRf_r | exact isRf_n | exact isRf_o | assumption) (fun c1 => ?_) (fun c1 => nomatch c1)
    refine g_aload_n dX1_rinseLot_12 (by rfl) (by first | exact isRf_r | exact isRf_n | exact isRf_o | assumption) ?_
    refine g_cV0x dX1_rinseLot_13 lX1_128 vX2_isSold (ct_X2_isSold X (al j (by omega))) (by first | assumption | (repeat' (first | assumption | exact hu_same | exact Ne.symm (by assumption) | apply hu_n1))) rfl ⟨Nat.le_of_ble_eq_true rfl, Nat.le_of_ble_eq_true rfl⟩ (Nat.le_of_ble_eq_true rfl) ⟨Nat.le_of_ble_eq_true rfl, Nat.le_of_ble_eq_true rfl⟩ ?_
    refine g_if_ne (tgt := 26) dX1_rinseLot_16 (by decide) (fun c2 => ?_) (fun c2 => ?_)
    · skip
      have hb : (sold r j || hangs r j) = true := by simp [sold, bI_d1 _ c2]
      refine g_bipush (v := (-2)) dX1_rinseLot_26 (by decide) ?_
      refine g_iret dX1_rinseLot_28 rfl (Nat.le_refl _) (Nat.le_refl _) ?_
      refine fin_err hA ?_
      unfold F_rinse
      rw [e8, okB_t hj (by omega), cl_nI (by omega), hb]
      rfl
    · skip
      have hs := bI_d0 _ c2
      have hs2 : ltx r j 13 = 0 := Classical.byContradiction (fun q => hs q)
      refine g_aload_n dX1_rinseLot_19 (by rfl) (by first | exact isRf_r | exact isRf_n | exact isRf_o | assumption) ?_
      refine g_getf dX1_rinseLot_20 fX1_132 (by first | assumption | (repeat' (first | assumption | exact hu_same | exact Ne.symm (by assumption) | apply hu_n1))) (by rfl) ?_
      refine g_if_eq (tgt := 29) dX1_rinseLot_23 (by decide) (fun c3 => ?_) (fun c3 => ?_)
      · skip
        have hb : (sold r j || hangs r j) = false := by simp [sold, hangs, hs2, c3]
        refine g_aload_n dX1_rinseLot_29 (by rfl) (by first | exact isRf_r | exact isRf_n | exact isRf_o | assumption) ?_
        refine g_getf dX1_rinseLot_30 fX1_140 (by first | assumption | (repeat' (first | assumption | exact hu_same | exact Ne.symm (by assumption) | apply hu_n1))) (by rfl) ?_
        refine g_cN1x dX1_rinseLot_33 lX1_143 vX9_sumOf (ct_X9_sumOf X (by omega) l3) ⟨Nat.le_of_ble_eq_true rfl, Nat.le_of_ble_eq_true rfl⟩ (Nat.le_of_ble_eq_true rfl) ⟨Nat.le_of_ble_eq_true rfl, Nat.le_of_ble_eq_true rfl⟩ ?_
        rw [sumI_nr 4 (by omega)]
        refine g_istore_n (L1 := [(0, _), (1, _), (2, _), (3, _)]) dX1_rinseLot_36 (by decide) (by rfl) ?_
        refine g_iconst (v := 0) dX1_rinseLot_37 (by decide) ?_
        refine g_istore (L1 := [(0, _), (1, _), (2, _), (3, _), (4, _)]) dX1_rinseLot_38 (by decide) (by rfl) ?_
        have loop40 : ∀ i, i ≤ 4 → ∀ h1, HouseAt X h1 A (rinR r j i) → (∀ q, outA A q → h1 q = h q) → G X RX1 cX1_rinseLot 5 (some .int) "rinseLot" (Rm 1 0 0) (Fm X (fun u h1 => u = some (.int (F_rinse r (nI j)).1) ∧ HouseAt X h1 A (F_rinse r (nI j)).2 ∧ ∀ q, outA A q → h1 q = h q) 0 0) 0 0 40 [(0, .ref (A 0)), (1, .int (nI j)), (2, .ref (A (14 + 3 * j))), (3, .int (sumI (fun d => ltx r j (6 + d)) 4)), (4, .int (nI i))] [] h1 := by
          refine up_ind 4 (fun i hi ih => ?_)
          intro h1 kH kF
          obtain ⟨k0, k1, k2, k3, k4, k5, k6, kv, kl, ko⟩ := id kH
          obtain ⟨m1, m2, m3⟩ := kl j (by omega)
          unfold lotC at m1
          unfold looA at m3
          unfold hobC at k0
          have n35 : A (16 + 3 * j) ≠ A 5 := hI.ne (by omega) (by omega) (by omega)
          have n15 : A (14 + 3 * j) ≠ A 5 := hI.ne (by omega) (by omega) (by omega)
          have n05 : A 0 ≠ A 5 := hI.ne (by omega) (by omega) (by omega)
          refine g_iload dX1_rinseLot_40 (by rfl) ?_
          refine g_iconst (v := 4) dX1_rinseLot_42 (by decide) ?_
          refine g_icmp_ge (tgt := 80) dX1_rinseLot_43 (by decide) (fun c4 => ?_) (fun c4 => ?_)
          · skip
            have hje : i = 4 := Nat.le_antisymm hi (c_ge (a := 4) (by omega) (by omega) c4)
            subst hje
            refine g_iload_n dX1_rinseLot_80 (by rfl) ?_
            refine g_iret dX1_rinseLot_81 rfl (Nat.le_refl _) (Nat.le_refl _) ?_
            refine fin_ok (x := sumI (fun d => ltx r j (6 + d)) 4) (r2 := rinR r j 4) ?_ kH kF
            unfold F_rinse
            rw [e8, okB_t hj (by omega), cl_nI (by omega), hb]
            rfl
          · skip
            have hlt : i < 4 := c_nge (a := 4) (b := i) (by omega) (by omega) c4
            refine g_aload_n dX1_rinseLot_46 (by rfl) (by first | exact isRf_r | exact isRf_n | exact isRf_o | assumption) ?_
            refine g_getf dX1_rinseLot_47 fX1_33 (by first | assumption | (repeat' (first | assumption | exact hu_same | exact Ne.symm (by assumption) | apply hu_n1))) (by rfl) ?_
            refine g_iload dX1_rinseLot_50 (by rfl) ?_
            refine g_aload_n dX1_rinseLot_52 (by rfl) (by first | exact isRf_r | exact isRf_n | exact isRf_o | assumption) ?_
            refine g_getf dX1_rinseLot_53 fX1_140 (by first | assumption | (repeat' (first | assumption | exact hu_same | exact Ne.symm (by assumption) | apply hu_n1))) (by rfl) ?_
            refine g_iload dX1_rinseLot_56 (by rfl) ?_
            refine g_cN2x dX1_rinseLot_58 lX1_103 vX9_cellAt (ct_X9_cellAtI X hlt (by omega) m3) ⟨Nat.le_of_ble_eq_true rfl, Nat.le_of_ble_eq_true rfl⟩ (Nat.le_of_ble_eq_true rfl) ⟨Nat.le_of_ble_eq_true rfl, Nat.le_of_ble_eq_true rfl⟩ ?_
            rw [nr_lt hlt]
            refine g_cN3v dX1_rinseLot_61 lX1_108 vX9_addTo (ct_X9_addTo X hlt (by omega) k5) ⟨Nat.le_of_ble_eq_true rfl, Nat.le_of_ble_eq_true rfl⟩ (Nat.le_of_ble_eq_true rfl) ⟨Nat.le_of_ble_eq_true rfl, Nat.le_of_ble_eq_true rfl⟩ ?_
            refine g_aload_n dX1_rinseLot_64 (by rfl) (by first | exact isRf_r | exact isRf_n | exact isRf_o | assumption) ?_
            refine g_getf dX1_rinseLot_65 fX1_140 (by first | assumption | (repeat' (first | assumption | exact hu_same | exact Ne.symm (by assumption) | apply hu_n1))) (by rfl) ?_
            refine g_iload dX1_rinseLot_68 (by rfl) ?_
            refine g_iconst (v := 0) dX1_rinseLot_70 (by decide) ?_
            refine g_cN3v dX1_rinseLot_71 lX1_147 vX9_putAt (ct_X9_putAt X hlt (by omega) (hu_n1 n35 m3)) ⟨Nat.le_of_ble_eq_true rfl, Nat.le_of_ble_eq_true rfl⟩ (Nat.le_of_ble_eq_true rfl) ⟨Nat.le_of_ble_eq_true rfl, Nat.le_of_ble_eq_true rfl⟩ ?_
            refine g_iinc (v := nI (i + 1)) (L1 := [(0, _), (1, _), (2, _), (3, _), (4, _)]) dX1_rinseLot_74 (by rfl) (nI_1 i) (by decide) (by rfl) ?_
            refine g_goto (tgt := 40) dX1_rinseLot_77 (by decide) ?_
            refine ih hlt _ ?_ ?_
            · rw [nr_lt hlt]
              have H1 := HouseAt.was (d := i) (x := rinR r j i (15 + i) + ltx (rinR r j i) j (6 + i)) hI kH hlt
              obtain ⟨-, -, -, -, -, -, -, -, pl, -⟩ := id H1
              obtain ⟨p1, p2, p3⟩ := pl j (by omega)
              have e3 : ltx (upd (rinR r j i) (15 + i) (rinR r j i (15 + i) + ltx (rinR r j i) j (6 + i))) j = ltx (rinR r j i) j := ltx_lo (by omega)
              rw [e3] at p1 p2 p3
              refine HouseAt.lot (l := j) (x := upd (ltx (rinR r j i) j) (6 + i) 0) hI H1 (by omega) ⟨?_, ?_, ?_⟩ (fun q n1 n2 n3 => hu_ne n3) (fun k hk => ?_) (fun p hp h9 => (upd_n (by omega)).symm)
              · rw [hu_ne (hI.ne (by omega) (by omega) (by omega)), p1]
                unfold lotC
                rw [upd_n (by omega), upd_n (by omega), upd_n (by omega), upd_n (by omega), upd_n (by omega), upd_n (by omega), upd_n (by omega)]
              · rw [hu_ne (hI.ne (by omega) (by omega) (by omega)), p2]
                unfold fixA
                congr 2
                exact nr_ext (fun k hk => (upd_n (by omega)).symm)
              · rw [hu_same, nr_up hlt]
                unfold looA
                congr 2
                refine nr_ext (fun k hk => ?_)
                by_cases e : k = i
                · subst e; rw [upd_s, upd_s]
                · rw [upd_n e, upd_n (by omega)]
              · by_cases e : k = 6 + i
                · subst e; rw [upd_s]; exact upd_s.symm
                · rw [upd_n e]
                  show ltx (rinR r j i) j k = upd (upd (rinR r j i) (15 + i) _) (43 + 15 * j + (6 + i)) 0 (43 + 15 * j + k)
                  rw [upd_n (by omega), upd_n (by omega)]
                  rfl
            · intro q hq
              rw [hu_ne (hq _ (by omega)), hu_ne (hq _ (by omega))]
              exact kF q hq
        exact loop40 0 (by omega) h hA (fun q _ => rfl)
      · skip
        have hb : (sold r j || hangs r j) = true := by simp [hangs, c3]
        refine g_bipush (v := (-2)) dX1_rinseLot_26 (by decide) ?_
        refine g_iret dX1_rinseLot_28 rfl (Nat.le_refl _) (Nat.le_refl _) ?_
        refine fin_err hA ?_
        unfold F_rinse
        rw [e8, okB_t hj (by omega), cl_nI (by omega), hb]
        rfl
  · skip
    refine g_cV1x dX1_rinseLot_2 lX1_118 vX1_findLot (ct_findLotN X (by omega) a0 a2 hvj) (by first | assumption | (repeat' (first | assumption | exact hu_same | exact Ne.symm (by assumption) | apply hu_n1))) rfl ⟨Nat.le_of_ble_eq_true rfl, Nat.le_of_ble_eq_true rfl⟩ (Nat.le_of_ble_eq_true rfl) ⟨Nat.le_of_ble_eq_true rfl, Nat.le_of_ble_eq_true rfl⟩ ?_
    refine g_astore_n (L1 := [(0, _), (1, _), (2, _)]) dX1_rinseLot_5 (by first | exact isRf_r | exact isRf_n | exact isRf_o | assumption) (by decide) (by rfl) ?_
    refine g_aload_n dX1_rinseLot_6 (by rfl) (by first | exact isRf_r | exact isRf_n | exact isRf_o | assumption) ?_
    refine g_ifnonnull (tgt := 12) dX1_rinseLot_7 (by decide) (by first | exact isRf_r | exact isRf_n | exact isRf_o | assumption) (fun c5 => absurd rfl c5) (fun c5 => ?_)
    refine g_iconst (v := (-1)) dX1_rinseLot_10 (by decide) ?_
    refine g_iret dX1_rinseLot_11 rfl (Nat.le_refl _) (Nat.le_refl _) ?_
    refine fin_err hA ?_
    unfold F_rinse
    first
      | (rw [e8, okB_f (by omega) hvj]; rfl)
