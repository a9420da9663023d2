def fstV (P : Nat → Option (List Nat)) : Nat → Nat → Option (List Nat)
  | _, 0 => none
  | v, c + 1 => match P v with
    | some p => some (v :: p)
    | none => fstV P (v + 1) c
theorem fst_s {P : Nat → Option (List Nat)} {v c : Nat} {p : List Nat} (h : P v = some p) : fstV P v (c + 1) = some (v :: p) := by rw [fstV, h]
theorem fst_n {P : Nat → Option (List Nat)} {v c : Nat} (h : P v = none) : fstV P v (c + 1) = fstV P (v + 1) c := by rw [fstV, h]
/-- the first row of so many dips, one vat behind the other, that makes the lot l fit x -/
noncomputable def rch (l : Nat) (x : Nat → Int32) : Nat → (Nat → Int32) → Option (List Nat)
  | 0, r => cond (fitB (ltx r l) x r) (some []) none
  | k + 1, r => fstV (fun v => cond (decide (0 < vt r v 2)) (rch l x k (dyeR r l v)) none) 0 (cl (r 7))
def dpR (D : Nat → Nat → Nat) : Nat → Option Nat := fun k => if k < 5 then some (D k 0) else none
def PlSep (a dp pa : Nat) (D : Nat → Nat → Nat) (B : Nat → Nat) (oa os : Nat) : Prop := InjA B ∧ (∀ k i, k < 5 → i < 3 → outA B (D k i)) ∧ (outA B a ∧ outA B dp ∧ outA B pa ∧ outA B oa ∧ outA B os) ∧ (∀ k i k2 i2, k < 5 → i < 3 → k2 < 5 → i2 < 3 → D k i = D k2 i2 → k = k2 ∧ i = i2) ∧ (∀ k i, k < 5 → i < 3 → D k i ≠ pa ∧ D k i ≠ os ∧ D k i ≠ oa ∧ D k i ≠ a ∧ D k i ≠ dp) ∧ pa ≠ os ∧ pa ≠ oa ∧ pa ≠ a ∧ pa ≠ dp
def PlPre (X : Cx) (h : Hp) (a dp pa : Nat) (D : Nat → Nat → Nat) (path : Nat → Int32) (B : Nat → Nat) (t r : Nat → Int32) (l oa os : Nat) (x : Nat → Int32) (xs : Nat → Nat → Int32) (depth : Nat) : Prop :=
  h a = some (ob 4 [.ref dp, .ref pa]) ∧ h dp = some (oR X 3 5 (dpR D)) ∧ h pa = some (oI X 4 (nr 4 path)) ∧ HouseAt X h B t ∧ (∀ k, k < 5 → LotAt X h (D k 0) (D k 1) (D k 2) (xs k)) ∧ OrdAt X h oa os x ∧ Ok r ∧ l < 20 ∧ LOk (ltx r l) ∧ (∀ j, j < 15 → xs depth j = ltx r l j) ∧ (∀ p, p < 8 → t p = r p) ∧ ∀ p, 19 ≤ p → p < 43 → t p = r p
def PlPost (X : Cx) (h : Hp) (pa : Nat) (D : Nat → Nat → Nat) (path : Nat → Int32) (B : Nat → Nat) (t : Nat → Int32) (xs : Nat → Nat → Int32) (depth rem : Nat) (res : Option (List Nat)) : Option Value → Hp → Prop := fun u h1 =>
  u = some (.int (bI res.isSome)) ∧ HouseAt X h1 B t ∧ (∃ path2 : Nat → Int32, h1 pa = some (oI X 4 (nr 4 path2)) ∧ (∀ j, j < depth → path2 j = path j) ∧ ∀ p, res = some p → p.length = rem ∧ ∀ i, i < rem → path2 (depth + i) = nI (p.getD i 0)) ∧ (∃ xs2 : Nat → Nat → Int32, (∀ k, k < 5 → LotAt X h1 (D k 0) (D k 1) (D k 2) (xs2 k)) ∧ ∀ k, k ≤ depth → xs2 k = xs k) ∧ ∀ q, outA B q → q ≠ pa → (∀ k i, depth < k → k < 5 → i < 3 → q ≠ D k i) → h1 q = h q
theorem dpR_j {D : Nat → Nat → Nat} {j : Nat} (h : j < 5) : dpR D j = some (D j 0) := if_pos h
theorem HouseAt.vatB {X : Cx} {h h1 : Hp} {A : Nat → Nat} {r r2 : Nat → Int32} {v : Nat} {y : Nat → Int32} (hI : InjA A) (k : HouseAt X h A r) (hv : v < 6) (hy : VatAt h1 (A (8 + v)) y) (f : ∀ j, j < 194 → j ≠ 8 + v → h1 (A j) = h (A j)) (e1 : ∀ j, j < 4 → y j = r2 (19 + 4 * v + j)) (e2 : ∀ p, p < 643 → (p < 19 + 4 * v ∨ 23 + 4 * v ≤ p) → r p = r2 p) : HouseAt X h1 A r2 := by
  have k2 : HouseAt X (fun q => if q = A (8 + v) then h1 q else h q) A r2 := HouseAt.vat hI k hv (hy.kept (if_pos rfl)) (fun q n => if_neg n) e1 e2
  refine k2.kept (fun j hj => ?_)
  show h1 (A j) = if A j = A (8 + v) then h1 (A j) else h (A j)
  by_cases z : j = 8 + v
  · subst z
    rw [if_pos rfl]
  · rw [if_neg (hI.ne hj (by omega) z)]
    exact f j hj z
theorem LOk_dye {r : Nat → Int32} {l v : Nat} (k : Ok r) (k2 : Ok (dyeR r l v)) (hl : l < 20) (hlo : LOk (ltx r l)) : LOk (ltx (dyeR r l v) l) := by
  obtain ⟨nv, nl, no, hnv, hnl, hno, f7, f8, f9, kset, kvok, kvz, klok, klz, -⟩ := k
  obtain ⟨nv2, nl2, no2, hnv2, hnl2, hno2, g7, g8, g9, gset, gvok, gvz, glok, -⟩ := k2
  have h1 : l < nl := by
    rcases Nat.lt_or_ge l nl with z | z
    · exact z
    · exact (hlo.nz (klz l z hl)).elim
  have e : nI nl2 = nI nl := by rw [← g8, dye_lo (by omega) (by omega), f8]
  have e2 := (nI_eq (by omega) (by omega)).mp e
  exact glok l (by omega)
theorem dye_p {t r : Nat → Int32} {l v p : Nat} (hl : 19 ≤ p) (hp : p < 43) (e : t p = r p) : rowV t v (soakY (ltx r l) (vt r v) r (tkR r l v)) p = dyeR r l v p := by
  unfold dyeR
  rw [rowL_out (by omega)]
  unfold rowV
  by_cases z : 19 + 4 * v ≤ p ∧ p < 23 + 4 * v
  · rw [if_pos z, if_pos z]
  · rw [if_neg z, if_neg z, upd_n (by omega)]
    exact e

set_option maxHeartbeats 4000000 in
set_option maxRecDepth 100000 in
theorem ct_X4_lotBehind (X : Cx) {h : Hp} {a dp pa j : Nat} {D : Nat → Nat → Nat}  (ha : h a = some (ob 4 [.ref dp, .ref pa])) (hd : h dp = some (oR X 3 5 (dpR D))) (hj : j < 5) : Ct X mX4_lotBehind 0 0 0 [.ref a, .int (nI j)] h (Ex (.ref (D j 0)) h) := by
  refine Ct.ofG vX4_lotBehind.1.2.2.1 (Nat.le_of_ble_eq_true rfl) ?_
  show G X RX4 cX4_lotBehind 2 (some (.object "DarkVats$Lot")) "lotBehind" (Rm 0 0 0) (Fm X (Ex (.ref (D j 0)) h) 0 0) 0 0 0 [(0, .ref a), (1, .int (nI j))] [] h
  refine g_iload_n dX4_lotBehind_0 (by rfl) ?_
  refine g_if_lt (tgt := 22) dX4_lotBehind_1 (by decide) (fun c1 => absurd c1 (c_neg (by omega))) (fun c1 => ?_)
  refine g_iload_n dX4_lotBehind_4 (by rfl) ?_
  refine g_aload_n dX4_lotBehind_5 (by rfl) (by first | exact isRf_r | exact isRf_n | exact isRf_o | assumption) ?_
  refine g_getf dX4_lotBehind_6 fX4_11 (by first | assumption | (repeat' (first | assumption | exact hu_same | exact Ne.symm (by assumption) | apply hu_n1))) (by rfl) ?_
  refine g_alenR dX4_lotBehind_9 (by first | assumption | (repeat' (first | assumption | exact hu_same | exact Ne.symm (by assumption) | apply hu_n1))) (by decide) ?_
  refine g_icmp_ge (tgt := 22) dX4_lotBehind_10 (by decide) (fun c2 => absurd (c_ge (a := 5) (by omega) (by omega) c2) (by omega)) (fun c2 => ?_)
  refine g_aload_n dX4_lotBehind_13 (by rfl) (by first | exact isRf_r | exact isRf_n | exact isRf_o | assumption) ?_
  refine g_getf dX4_lotBehind_14 fX4_11 (by first | assumption | (repeat' (first | assumption | exact hu_same | exact Ne.symm (by assumption) | apply hu_n1))) (by rfl) ?_
  refine g_iload_n dX4_lotBehind_17 (by rfl) ?_
  refine g_aaN dX4_lotBehind_18 (by first | assumption | (repeat' (first | assumption | exact hu_same | exact Ne.symm (by assumption) | apply hu_n1))) rfl hj (by omega) (if_pos hj) ?_
  refine g_goto (tgt := 23) dX4_lotBehind_19 (by decide) ?_
  refine g_aret dX4_lotBehind_23 rfl (by first | exact isRf_r | exact isRf_n | exact isRf_o | assumption) (Nat.le_refl _) (Nat.le_refl _) ?_
  exact ⟨rfl, rfl⟩

set_option maxHeartbeats 4000000 in
set_option maxRecDepth 100000 in
theorem ct_X4_vatOfDip (X : Cx) {h : Hp} {a dp pa j : Nat} {path : Nat → Int32}  (ha : h a = some (ob 4 [.ref dp, .ref pa])) (hp : h pa = some (oI X 4 (nr 4 path))) (hj : j < 4) : Ct X mX4_vatOfDip 1 0 0 [.ref a, .int (nI j)] h (Ex (.int (path j)) h) := by
  refine Ct.ofG vX4_vatOfDip.1.2.2.1 (Nat.le_of_ble_eq_true rfl) ?_
  show G X RX4 cX4_vatOfDip 2 (some .int) "vatOfDip" (Rm 1 0 0) (Fm X (Ex (.int (path j)) h) 0 0) 0 0 0 [(0, .ref a), (1, .int (nI j))] [] h
  refine g_aload_n dX4_vatOfDip_0 (by rfl) (by first | exact isRf_r | exact isRf_n | exact isRf_o | assumption) ?_
  refine g_getf dX4_vatOfDip_1 fX4_15 (by first | assumption | (repeat' (first | assumption | exact hu_same | exact Ne.symm (by assumption) | apply hu_n1))) (by rfl) ?_
  refine g_iload_n dX4_vatOfDip_4 (by rfl) ?_
  refine g_cN2x dX4_vatOfDip_5 lX4_20 vX9_cellAt (ct_X9_cellAtI X hj (by omega) hp) ⟨Nat.le_of_ble_eq_true rfl, Nat.le_of_ble_eq_true rfl⟩ (Nat.le_of_ble_eq_true rfl) ⟨Nat.le_of_ble_eq_true rfl, Nat.le_of_ble_eq_true rfl⟩ ?_
  refine g_iret dX4_vatOfDip_8 rfl (Nat.le_refl _) (Nat.le_refl _) ?_
  exact Ex.i (nr_lt hj) rfl

set_option maxHeartbeats 4000000 in
set_option maxRecDepth 100000 in
theorem ct_isReached0 (X : Cx) {h : Hp} {a dp pa l oa os depth : Nat} {D : Nat → Nat → Nat} {path : Nat → Int32} {B : Nat → Nat} {t r x : Nat → Int32} {xs : Nat → Nat → Int32}  (hS : PlSep a dp pa D B oa os) (hP : PlPre X h a dp pa D path B t r l oa os x xs depth) (hdep : depth + 0 ≤ 4) : Ct X mX4_isReached 3 0 0 [.ref a, .ref (B 0), .ref oa, .int (nI depth), .int (nI (depth + 0))] h (PlPost X h pa D path B t xs depth 0 (rch l x 0 r)) := by
  obtain ⟨pa0, pd, pp, hB, hL, hX, hO, hl, hlo, hx0, ag1, ag2⟩ := hP
  have hP := True.intro
  obtain ⟨sI, sD, ⟨sa, sdp, spa, soa, sos⟩, sI2, sN, sp1, sp2, sp3, sp4⟩ := hS
  obtain ⟨b0, b1, b2, b3, b4, b5, b6, bv, bl, bo⟩ := id hB
  unfold hobC at b0
  have hSet : SetAt X h (B 6) (B 7) r := b6.ext (fun j hj => ag1 j (by omega))
  have b60 := b6.1
  have hLd : LotAt X h (D depth 0) (D depth 1) (D depth 2) (ltx r l) := (hL depth (by omega)).ext hx0
  have hX1 := hX.1
  unfold ordC at hX1
  refine Ct.ofG vX4_isReached.1.2.2.1 (Nat.le_of_ble_eq_true rfl) ?_
  show G X RX4 cX4_isReached 12 (some .boolean) "isReached" (Rm 3 0 0) (Fm X (PlPost X h pa D path B t xs depth 0 (rch l x 0 r)) 0 0) 0 0 0 [(0, .ref a), (1, .ref (B 0)), (2, .ref oa), (3, .int (nI depth)), (4, .int (nI (depth + 0)))] [] h
  refine g_aload_n dX4_isReached_0 (by rfl) (by first | exact isRf_r | exact isRf_n | exact isRf_o | assumption) ?_
  refine g_iload_n dX4_isReached_1 (by rfl) ?_
  refine g_cV1x dX4_isReached_2 lX4_26 vX4_lotBehind (ct_X4_lotBehind X pa0 pd (j := depth) (by omega)) (by first | assumption | (repeat' (first | assumption | exact hu_same | exact Ne.symm (by assumption) | apply hu_n1))) rfl ⟨Nat.le_of_ble_eq_true rfl, Nat.le_of_ble_eq_true rfl⟩ (Nat.le_of_ble_eq_true rfl) ⟨Nat.le_of_ble_eq_true rfl, Nat.le_of_ble_eq_true rfl⟩ ?_
  refine g_astore (L1 := [(0, _), (1, _), (2, _), (3, _), (4, _), (5, _)]) dX4_isReached_5 (by first | exact isRf_r | exact isRf_n | exact isRf_o | assumption) (by decide) (by rfl) ?_
  refine g_aload dX4_isReached_7 (by rfl) (by first | exact isRf_r | exact isRf_n | exact isRf_o | assumption) ?_
  refine g_ifnonnull (tgt := 14) dX4_isReached_9 (by decide) (by first | exact isRf_r | exact isRf_n | exact isRf_o | assumption) (fun c1 => ?_) (fun c1 => nomatch c1)
  refine g_iload_n dX4_isReached_14 (by rfl) ?_
  refine g_iload dX4_isReached_15 (by rfl) ?_
  refine g_icmp_lt (tgt := 31) dX4_isReached_17 (by decide) (fun c2 => absurd c2 (nI_nlt (Nat.le_refl depth) (by omega))) (fun c2 => ?_)
  refine g_aload_n dX4_isReached_20 (by rfl) (by first | exact isRf_r | exact isRf_n | exact isRf_o | assumption) ?_
  refine g_aload dX4_isReached_21 (by rfl) (by first | exact isRf_r | exact isRf_n | exact isRf_o | assumption) ?_
  refine g_aload_n dX4_isReached_23 (by rfl) (by first | exact isRf_r | exact isRf_n | exact isRf_o | assumption) ?_
  refine g_getf dX4_isReached_24 fX4_38 (by first | assumption | (repeat' (first | assumption | exact hu_same | exact Ne.symm (by assumption) | apply hu_n1))) (by rfl) ?_
  refine g_cV2x dX4_isReached_27 lX4_44 vX3_isFittedBy (ct_X3_isFittedBy X (t := fitB (ltx r l) x r) fitB_i hlo.pos hX hLd hSet) (by first | assumption | (repeat' (first | assumption | exact hu_same | exact Ne.symm (by assumption) | apply hu_n1))) rfl ⟨Nat.le_of_ble_eq_true rfl, Nat.le_of_ble_eq_true rfl⟩ (Nat.le_of_ble_eq_true rfl) ⟨Nat.le_of_ble_eq_true rfl, Nat.le_of_ble_eq_true rfl⟩ ?_
  refine g_zret dX4_isReached_30 rfl (bI_nz _) (Nat.le_refl _) (Nat.le_refl _) ?_
  refine ⟨?_, hB, ⟨path, pp, fun j _ => rfl, fun p e => ?_⟩, ⟨xs, hL, fun k _ => rfl⟩, fun q _ _ _ => rfl⟩
  · show some (Value.int (bI (fitB (ltx r l) x r))) = some (.int (bI (cond (fitB (ltx r l) x r) (some []) none).isSome))
    cases fitB (ltx r l) x r <;> rfl
  · have e2 : cond (fitB (ltx r l) x r) (some ([] : List Nat)) none = some p := e
    cases hf : fitB (ltx r l) x r with
    | false => rw [hf] at e2; cases e2
    | true =>
      rw [hf] at e2
      cases e2
      exact ⟨rfl, fun i hi => absurd hi (by omega)⟩

set_option maxHeartbeats 8000000 in
set_option maxRecDepth 100000 in
theorem ct_isReached1 (X : Cx) {h : Hp} {a dp pa l oa os depth : Nat} {D : Nat → Nat → Nat} {path : Nat → Int32} {B : Nat → Nat} {t r x : Nat → Int32} {xs : Nat → Nat → Int32}  (hS : PlSep a dp pa D B oa os) (hP : PlPre X h a dp pa D path B t r l oa os x xs depth) (hdep : depth + 1 ≤ 4) : Ct X mX4_isReached 4 0 0 [.ref a, .ref (B 0), .ref oa, .int (nI depth), .int (nI (depth + 1))] h (PlPost X h pa D path B t xs depth 1 (rch l x 1 r)) := by
  obtain ⟨pa0, pd, pp, hB, hL, hX, hO, hl, hlo, hx0, ag1, ag2⟩ := hP
  have hP := True.intro
  obtain ⟨sI, sD, ⟨sa, sdp, spa, soa, sos⟩, sI2, sN, sp1, sp2, sp3, sp4⟩ := hS
  have hS0 : PlSep a dp pa D B oa os := ⟨sI, sD, ⟨sa, sdp, spa, soa, sos⟩, sI2, sN, sp1, sp2, sp3, sp4⟩
  obtain ⟨b0, b1, b2, b3, b4, b5, b6, bv, bl, bo⟩ := id hB
  unfold hobC at b0
  have hSet : SetAt X h (B 6) (B 7) r := b6.ext (fun j hj => ag1 j (by omega))
  have b60 := b6.1
  have hLd : LotAt X h (D depth 0) (D depth 1) (D depth 2) (ltx r l) := (hL depth (by omega)).ext hx0
  obtain ⟨nv, nl, no, hnv, hnl, hno, e7, e8, e9, hset, hvok, -⟩ := id hO
  have t7 : t 7 = nI nv := (ag1 7 (by omega)).trans e7
  rw [t7] at b0
  refine Ct.ofG vX4_isReached.1.2.2.1 (Nat.le_of_ble_eq_true rfl) ?_
  show G X RX4 cX4_isReached 12 (some .boolean) "isReached" (Rm 4 0 0) (Fm X (PlPost X h pa D path B t xs depth 1 (rch l x 1 r)) 0 0) 0 0 0 [(0, .ref a), (1, .ref (B 0)), (2, .ref oa), (3, .int (nI depth)), (4, .int (nI (depth + 1)))] [] h
  refine g_aload_n dX4_isReached_0 (by rfl) (by first | exact isRf_r | exact isRf_n | exact isRf_o | assumption) ?_
  refine g_iload_n dX4_isReached_1 (by rfl) ?_
  refine g_cV1x dX4_isReached_2 lX4_26 vX4_lotBehind (ct_X4_lotBehind X pa0 pd (j := depth) (by omega)) (by first | assumption | (repeat' (first | assumption | exact hu_same | exact Ne.symm (by assumption) | apply hu_n1))) rfl ⟨Nat.le_of_ble_eq_true rfl, Nat.le_of_ble_eq_true rfl⟩ (Nat.le_of_ble_eq_true rfl) ⟨Nat.le_of_ble_eq_true rfl, Nat.le_of_ble_eq_true rfl⟩ ?_
  refine g_astore (L1 := [(0, _), (1, _), (2, _), (3, _), (4, _), (5, _)]) dX4_isReached_5 (by first | exact isRf_r | exact isRf_n | exact isRf_o | assumption) (by decide) (by rfl) ?_
  refine g_aload dX4_isReached_7 (by rfl) (by first | exact isRf_r | exact isRf_n | exact isRf_o | assumption) ?_
  refine g_ifnonnull (tgt := 14) dX4_isReached_9 (by decide) (by first | exact isRf_r | exact isRf_n | exact isRf_o | assumption) (fun c1 => ?_) (fun c1 => nomatch c1)
  refine g_iload_n dX4_isReached_14 (by rfl) ?_
  refine g_iload dX4_isReached_15 (by rfl) ?_
  refine g_icmp_lt (tgt := 31) dX4_isReached_17 (by decide) (fun c2 => ?_) (fun c2 => absurd (nI_lt (show depth < depth + 1 by omega) (by omega)) c2)
  refine g_aload_n dX4_isReached_31 (by rfl) (by first | exact isRf_r | exact isRf_n | exact isRf_o | assumption) ?_
  refine g_iload_n dX4_isReached_32 (by rfl) ?_
  refine g_iconst (v := 1) dX4_isReached_33 (by decide) ?_
  refine g_iadd dX4_isReached_34 ?_
  rw [nI_1]
  refine g_cV1x dX4_isReached_35 lX4_26 vX4_lotBehind (ct_X4_lotBehind X pa0 pd (j := depth + 1) (by omega)) (by first | assumption | (repeat' (first | assumption | exact hu_same | exact Ne.symm (by assumption) | apply hu_n1))) rfl ⟨Nat.le_of_ble_eq_true rfl, Nat.le_of_ble_eq_true rfl⟩ (Nat.le_of_ble_eq_true rfl) ⟨Nat.le_of_ble_eq_true rfl, Nat.le_of_ble_eq_true rfl⟩ ?_
  refine g_astore (L1 := [(0, _), (1, _), (2, _), (3, _), (4, _), (5, _), (6, _)]) dX4_isReached_38 (by first | exact isRf_r | exact isRf_n | exact isRf_o | assumption) (by decide) (by rfl) ?_
  refine g_iconst (v := 0) dX4_isReached_40 (by decide) ?_
  refine g_istore (L1 := [(0, _), (1, _), (2, _), (3, _), (4, _), (5, _), (6, _), (7, _)]) dX4_isReached_41 (by decide) (by rfl) ?_
  have loop43 : ∀ i, i ≤ nv → ∀ (h1 : Hp) (path1 : Nat → Int32) (xs1 : Nat → Nat → Int32), HouseAt X h1 B t → h1 pa = some (oI X 4 (nr 4 path1)) → (∀ j, j < depth → path1 j = path j) → (∀ k, k < 5 → LotAt X h1 (D k 0) (D k 1) (D k 2) (xs1 k)) → (∀ k, k ≤ depth → xs1 k = xs k) → (∀ q, outA B q → q ≠ pa → (∀ k i, depth < k → k < 5 → i < 3 → q ≠ D k i) → h1 q = h q) → fstV (fun v => cond (decide (0 < vt r v 2)) (rch l x 0 (dyeR r l v)) none) i (nv - i) = rch l x 1 r → G X RX4 cX4_isReached 12 (some .boolean) "isReached" (Rm 4 0 0) (Fm X (PlPost X h pa D path B t xs depth 1 (rch l x 1 r)) 0 0) 0 0 43 [(0, .ref a), (1, .ref (B 0)), (2, .ref oa), (3, .int (nI depth)), (4, .int (nI (depth + 1))), (5, .ref (D depth 0)), (6, .ref (D (depth + 1) 0)), (7, .int (nI i))] [] h1 := by
    refine up_ind nv (fun i hi ih => ?_)
    intro h1 path1 xs1 kB kp kpj kL kx kF kR
    obtain ⟨c0, c1, c2, c3, c4, c5, c6, cv, cq, co⟩ := id kB
    unfold hobC at c0
    rw [t7] at c0
    have cSet : SetAt X h1 (B 6) (B 7) r := c6.ext (fun j hj => ag1 j (by omega))
    have c60 := c6.1
    have q0 : h1 a = _ := (kF a sa (Ne.symm sp3) (fun k i2 _ hk hi2 => Ne.symm (sN k i2 hk hi2).2.2.2.1)).trans pa0
    have q1 : h1 dp = _ := (kF dp sdp (Ne.symm sp4) (fun k i2 _ hk hi2 => Ne.symm (sN k i2 hk hi2).2.2.2.2)).trans pd
    have qd : LotAt X h1 (D depth 0) (D depth 1) (D depth 2) (ltx r l) := (kL depth (by omega)).ext (fun j hj => by rw [kx depth (Nat.le_refl _)]; exact hx0 j hj)
    have qX : OrdAt X h1 oa os x := hX.kept (kF oa soa (Ne.symm sp2) (fun k i2 _ hk hi2 => Ne.symm (sN k i2 hk hi2).2.2.1)) (kF os sos (Ne.symm sp1) (fun k i2 _ hk hi2 => Ne.symm (sN k i2 hk hi2).2.1))
    refine g_iload dX4_isReached_43 (by rfl) ?_
    refine g_aload_n dX4_isReached_45 (by rfl) (by first | exact isRf_r | exact isRf_n | exact isRf_o | assumption) ?_
    refine g_getf dX4_isReached_46 fX4_50 (by first | assumption | (repeat' (first | assumption | exact hu_same | exact Ne.symm (by assumption) | apply hu_n1))) (by rfl) ?_
    refine g_icmp_ge (tgt := 164) dX4_isReached_49 (by decide) (fun c3 => ?_) (fun c3 => ?_)
    · skip
      have hie : i = nv := Nat.le_antisymm hi (c_ge (by omega) (by omega) c3)
      refine g_iconst (v := 0) dX4_isReached_164 (by decide) ?_
      refine g_zret dX4_isReached_165 rfl (by decide) (Nat.le_refl _) (Nat.le_refl _) ?_
      have eR : rch l x 1 r = none := by
        rw [← kR, hie, Nat.sub_self]
        rfl
      rw [eR]
      exact ⟨rfl, kB, ⟨path1, kp, kpj, fun p e => nomatch e⟩, ⟨xs1, kL, kx⟩, kF⟩
    · skip
      have hlt : i < nv := c_nge (by omega) (by omega) c3
      refine g_aload dX4_isReached_52 (by rfl) (by first | exact isRf_r | exact isRf_n | exact isRf_o | assumption) ?_
      refine g_ifnull (tgt := 164) dX4_isReached_54 (by decide) (by first | exact isRf_r | exact isRf_n | exact isRf_o | assumption) (fun c4 => nomatch c4) (fun c4 => ?_)
      refine g_aload_n dX4_isReached_57 (by rfl) (by first | exact isRf_r | exact isRf_n | exact isRf_o | assumption) ?_
      refine g_iload dX4_isReached_58 (by rfl) ?_
      refine g_cV1x dX4_isReached_60 lX4_54 vX1_findVat (ct_findVat X (by omega) c0 c1 hlt (vaR_j (by omega))) (by first | assumption | (repeat' (first | assumption | exact hu_same | exact Ne.symm (by assumption) | apply hu_n1))) rfl ⟨Nat.le_of_ble_eq_true rfl, Nat.le_of_ble_eq_true rfl⟩ (Nat.le_of_ble_eq_true rfl) ⟨Nat.le_of_ble_eq_true rfl, Nat.le_of_ble_eq_true rfl⟩ ?_
      have cvi : VatAt h1 (B (8 + i)) (vt r i) := (cv i (by omega)).ext (fun j hj => ag2 _ (by omega) (by omega))
      have cvi0 := cvi
      unfold VatAt at cvi0
      refine g_astore (L1 := [(0, _), (1, _), (2, _), (3, _), (4, _), (5, _), (6, _), (7, _), (8, _)]) dX4_isReached_63 (by first | exact isRf_r | exact isRf_n | exact isRf_o | assumption) (by decide) (by rfl) ?_
      refine g_aload dX4_isReached_65 (by rfl) (by first | exact isRf_r | exact isRf_n | exact isRf_o | assumption) ?_
      refine g_ifnull (tgt := 158) dX4_isReached_67 (by decide) (by first | exact isRf_r | exact isRf_n | exact isRf_o | assumption) (fun c5 => nomatch c5) (fun c5 => ?_)
      refine g_aload dX4_isReached_70 (by rfl) (by first | exact isRf_r | exact isRf_n | exact isRf_o | assumption) ?_
      refine g_getf dX4_isReached_72 fX4_58 (by first | assumption | (repeat' (first | assumption | exact hu_same | exact Ne.symm (by assumption) | apply hu_n1))) (by rfl) ?_
      refine g_if_gt (tgt := 81) dX4_isReached_75 (by decide) (fun c6 => ?_) (fun c6 => ?_)
      · skip
        have hgr := c6
        refine g_aload dX4_isReached_81 (by rfl) (by first | exact isRf_r | exact isRf_n | exact isRf_o | assumption) ?_
        refine g_getf dX4_isReached_83 fX4_58 (by first | assumption | (repeat' (first | assumption | exact hu_same | exact Ne.symm (by assumption) | apply hu_n1))) (by rfl) ?_
        refine g_istore (L1 := [(0, _), (1, _), (2, _), (3, _), (4, _), (5, _), (6, _), (7, _), (8, _), (9, _)]) dX4_isReached_86 (by decide) (by rfl) ?_
        refine g_aload dX4_isReached_88 (by rfl) (by first | exact isRf_r | exact isRf_n | exact isRf_o | assumption) ?_
        refine g_getf dX4_isReached_90 fX4_63 (by first | assumption | (repeat' (first | assumption | exact hu_same | exact Ne.symm (by assumption) | apply hu_n1))) (by rfl) ?_
        refine g_istore (L1 := [(0, _), (1, _), (2, _), (3, _), (4, _), (5, _), (6, _), (7, _), (8, _), (9, _), (10, _)]) dX4_isReached_93 (by decide) (by rfl) ?_
        refine g_aload dX4_isReached_95 (by rfl) (by first | exact isRf_r | exact isRf_n | exact isRf_o | assumption) ?_
        refine g_aload dX4_isReached_97 (by rfl) (by first | exact isRf_r | exact isRf_n | exact isRf_o | assumption) ?_
        have qn := (kL (depth + 1) (by omega)).1
        unfold lotC at qn
        refine g_cV1 dX4_isReached_99 lX4_30 vX2_copyFrom (ct_X2_copyFrom X (kL (depth + 1) (by omega)) qd hlo.b10 hlo.2.2.2.2.2.1 hlo.b12 (fun e => absurd (sI2 _ _ _ _ (by omega) (by omega) (by omega) (by omega) e) (by omega)) (fun e => absurd (sI2 _ _ _ _ (by omega) (by omega) (by omega) (by omega) e) (by omega)) (fun e => absurd (sI2 _ _ _ _ (by omega) (by omega) (by omega) (by omega) e) (by omega)) (fun e => absurd (sI2 _ _ _ _ (by omega) (by omega) (by omega) (by omega) e) (by omega)) (fun e => absurd (sI2 _ _ _ _ (by omega) (by omega) (by omega) (by omega) e) (by omega)) (fun e => absurd (sI2 _ _ _ _ (by omega) (by omega) (by omega) (by omega) e) (by omega))) (by first | assumption | (repeat' (first | assumption | exact hu_same | exact Ne.symm (by assumption) | apply hu_n1))) rfl ⟨Nat.le_of_ble_eq_true rfl, Nat.le_of_ble_eq_true rfl⟩ (Nat.le_of_ble_eq_true rfl) ⟨Nat.le_of_ble_eq_true rfl, Nat.le_of_ble_eq_true rfl⟩ ?_
        rintro _ h2 ⟨rfl, kn, kf2⟩
        refine g_stk (st' := []) rfl ?_
        have kn0 := kn.1
        unfold lotC at kn0
        have o2 : ∀ q, outA B q → (∀ i2, i2 < 3 → q ≠ D (depth + 1) i2) → h2 q = h1 q := fun q _ z => kf2 q (z 0 (by omega)) (z 1 (by omega)) (z 2 (by omega))
        have oB2 : ∀ j, j < 194 → h2 (B j) = h1 (B j) := fun j hj => kf2 _ (Ne.symm (sD (depth + 1) 0 (by omega) (by omega) j hj)) (Ne.symm (sD (depth + 1) 1 (by omega) (by omega) j hj)) (Ne.symm (sD (depth + 1) 2 (by omega) (by omega) j hj))
        have B2 : HouseAt X h2 B t := kB.kept oB2
        have d60 := B2.2.2.2.2.2.2.1.1
        have d0 := B2.1
        unfold hobC at d0
        have v2 : VatAt h2 (B (8 + i)) (vt r i) := cvi.kept (oB2 _ (by omega))
        have S2 : SetAt X h2 (B 6) (B 7) r := cSet.kept (oB2 _ (by omega)) (oB2 _ (by omega))
        obtain ⟨⟨dd, hdd, edd⟩, -⟩ := id (hvok i hlt)
        refine g_aload dX4_isReached_102 (by rfl) (by first | exact isRf_r | exact isRf_n | exact isRf_o | assumption) ?_
        refine g_aload dX4_isReached_104 (by rfl) (by first | exact isRf_r | exact isRf_n | exact isRf_o | assumption) ?_
        refine g_aload_n dX4_isReached_106 (by rfl) (by first | exact isRf_r | exact isRf_n | exact isRf_o | assumption) ?_
        refine g_getf dX4_isReached_107 fX4_38 (by first | assumption | (repeat' (first | assumption | exact hu_same | exact Ne.symm (by assumption) | apply hu_n1))) (by rfl) ?_
        refine g_cV2 dX4_isReached_110 lX4_66 vX2_soakIn (ct_X2_soakIn X (t := tkR r l i) (d := dd) rfl (dok_of hset (hvok i hlt) hlo) hdd edd kn v2 S2 (fun e => absurd (sI2 _ _ _ _ (by omega) (by omega) (by omega) (by omega) e) (by omega))) (by first | assumption | (repeat' (first | assumption | exact hu_same | exact Ne.symm (by assumption) | apply hu_n1))) rfl ⟨Nat.le_of_ble_eq_true rfl, Nat.le_of_ble_eq_true rfl⟩ (Nat.le_of_ble_eq_true rfl) ⟨Nat.le_of_ble_eq_true rfl, Nat.le_of_ble_eq_true rfl⟩ ?_
        rintro _ h3 ⟨rfl, ⟨x2, hx2, kl⟩, kv, kf3⟩
        refine g_stk (st' := [.int (tkR r l i)]) rfl ?_
        have o3 : ∀ q, outA B q → (∀ i2, i2 < 3 → q ≠ D (depth + 1) i2) → h3 q = h1 q := fun q q1 z => (kf3 q (z 0 (by omega)) (z 1 (by omega)) (z 2 (by omega)) (q1 _ (by omega))).trans (o2 q q1 z)
        have B3 : HouseAt X h3 B (rowV t i (soakY (ltx r l) (vt r i) r (tkR r l i))) := HouseAt.vatB sI B2 (by omega) kv (fun j hj hn => kf3 _ (Ne.symm (sD (depth + 1) 0 (by omega) (by omega) j hj)) (Ne.symm (sD (depth + 1) 1 (by omega) (by omega) j hj)) (Ne.symm (sD (depth + 1) 2 (by omega) (by omega) j hj)) (sI.ne hj (by omega) hn)) (fun j hj => (rowV_in hj).symm) (fun p _ hp => (rowV_out hp).symm)
        have p3 : h3 pa = some (oI X 4 (nr 4 path1)) := (o3 pa spa (fun i2 h2 => Ne.symm (sN (depth + 1) i2 (by omega) h2).1)).trans kp
        have q03 : h3 a = _ := (o3 a sa (fun i2 h2 => Ne.symm (sN (depth + 1) i2 (by omega) h2).2.2.2.1)).trans q0
        refine g_pop dX4_isReached_113 (by rfl) ?_
        refine g_aload_n dX4_isReached_114 (by rfl) (by first | exact isRf_r | exact isRf_n | exact isRf_o | assumption) ?_
        refine g_getf dX4_isReached_115 fX4_15 (by first | assumption | (repeat' (first | assumption | exact hu_same | exact Ne.symm (by assumption) | apply hu_n1))) (by rfl) ?_
        refine g_iload_n dX4_isReached_118 (by rfl) ?_
        refine g_iload dX4_isReached_119 (by rfl) ?_
        refine g_cN3v dX4_isReached_121 lX4_70 vX9_putAt (ct_X9_putAt X (N := 4) (j := depth) (by omega) (by omega) p3) ⟨Nat.le_of_ble_eq_true rfl, Nat.le_of_ble_eq_true rfl⟩ (Nat.le_of_ble_eq_true rfl) ⟨Nat.le_of_ble_eq_true rfl, Nat.le_of_ble_eq_true rfl⟩ ?_
        refine g_gen (fun h4 e4 => ?_)
        have o4 : ∀ q, outA B q → q ≠ pa → (∀ i2, i2 < 3 → q ≠ D (depth + 1) i2) → h4 q = h1 q := fun q q1 q2 z => by
          rw [e4, hu_ne q2]
          exact o3 q q1 z
        have B4 : HouseAt X h4 B (rowV t i (soakY (ltx r l) (vt r i) r (tkR r l i))) := B3.kept (fun j hj => by rw [e4, hu_ne (Ne.symm (spa j hj))])
        have p4 : h4 pa = some (oI X 4 (nr 4 (upd path1 depth (nI i)))) := by rw [e4, hu_same, nr_up (by omega)]
        have kl4 : LotAt X h4 (D (depth + 1) 0) (D (depth + 1) 1) (D (depth + 1) 2) x2 := kl.kept (by rw [e4, hu_ne (sN (depth + 1) 0 (by omega) (by omega)).1]) (by rw [e4, hu_ne (sN (depth + 1) 1 (by omega) (by omega)).1]) (by rw [e4, hu_ne (sN (depth + 1) 2 (by omega) (by omega)).1])
        have D4 : ∀ k i2, k < 5 → i2 < 3 → k ≠ depth + 1 → h4 (D k i2) = h1 (D k i2) := fun k i2 hk hi2 hn => o4 _ (sD k i2 hk hi2) (sN k i2 hk hi2).1 (fun i3 hi3 e => hn (sI2 _ _ _ _ hk hi2 (by omega) hi3 e).1)
        have L4 : ∀ k, k < 5 → LotAt X h4 (D k 0) (D k 1) (D k 2) ((fun k => if k = depth + 1 then x2 else xs1 k) k) := fun k hk => by
          by_cases z : k = depth + 1
          · subst z
            show LotAt X h4 _ _ _ (if depth + 1 = depth + 1 then x2 else xs1 (depth + 1))
            rw [if_pos rfl]
            exact kl4
          · show LotAt X h4 _ _ _ (if k = depth + 1 then x2 else xs1 k)
            rw [if_neg z]
            exact (kL k hk).kept (D4 k 0 hk (by omega) z) (D4 k 1 hk (by omega) z) (D4 k 2 hk (by omega) z)
        have X4 : OrdAt X h4 oa os x := qX.kept (o4 oa soa (Ne.symm sp2) (fun i2 h2 => Ne.symm (sN (depth + 1) i2 (by omega) h2).2.2.1)) (o4 os sos (Ne.symm sp1) (fun i2 h2 => Ne.symm (sN (depth + 1) i2 (by omega) h2).2.1))
        have q04 : h4 a = _ := (o4 a sa (Ne.symm sp3) (fun i2 h2 => Ne.symm (sN (depth + 1) i2 (by omega) h2).2.2.2.1)).trans q0
        have q14 : h4 dp = _ := (o4 dp sdp (Ne.symm sp4) (fun i2 h2 => Ne.symm (sN (depth + 1) i2 (by omega) h2).2.2.2.2)).trans q1
        have kOd : Ok (dyeR r l i) := Ok_dye hO hl (by omega) hlo (hvok i hlt)
        have ex2 : x2 = soakF (ltx r l) (vt r i) r (cl (vt r i 0)) (tkR r l i) := by
          rw [edd, cl_nI (by omega)]
          exact soak_f hx2
        have hP4 : PlPre X h4 a dp pa D (upd path1 depth (nI i)) B (rowV t i (soakY (ltx r l) (vt r i) r (tkR r l i))) (dyeR r l i) l oa os x (fun k => if k = depth + 1 then x2 else xs1 k) (depth + 1) := by
          refine ⟨q04, q14, p4, B4, L4, X4, kOd, hl, LOk_dye hO kOd hl hlo, fun j hj => ?_, fun p hp => ?_, fun p h19 h43 => dye_p h19 h43 (ag2 p h19 h43)⟩
          · show (if depth + 1 = depth + 1 then x2 else xs1 (depth + 1)) j = _
            rw [if_pos rfl, dye_ll hj, ex2]
          · rw [rowV_out (by omega), dye_lo (by omega) (by omega)]
            exact ag1 p hp
        refine g_aload_n dX4_isReached_124 (by rfl) (by first | exact isRf_r | exact isRf_n | exact isRf_o | assumption) ?_
        refine g_aload_n dX4_isReached_125 (by rfl) (by first | exact isRf_r | exact isRf_n | exact isRf_o | assumption) ?_
        refine g_aload_n dX4_isReached_126 (by rfl) (by first | exact isRf_r | exact isRf_n | exact isRf_o | assumption) ?_
        refine g_iload_n dX4_isReached_127 (by rfl) ?_
        refine g_iconst (v := 1) dX4_isReached_128 (by decide) ?_
        refine g_iadd dX4_isReached_129 ?_
        rw [nI_1]
        refine g_iload dX4_isReached_130 (by rfl) ?_
        refine g_cS5 dX4_isReached_132 lX4_34 rfl vX4_isReached (ct_isReached0 X hS0 hP4 (by omega)) ⟨Nat.le_of_ble_eq_true rfl, Nat.le_of_ble_eq_true rfl⟩ (Nat.le_of_ble_eq_true rfl) ⟨Nat.le_of_ble_eq_true rfl, Nat.le_of_ble_eq_true rfl⟩ ?_
        rintro _ h5 ⟨rfl, kB5, ⟨path5, kp5, kpj5, kpr5⟩, ⟨xs5, kL5, kx5⟩, kF5⟩
        refine g_stk (st' := [.int (bI (rch l x 0 (dyeR r l i)).isSome)]) rfl ?_
        have v5 := kB5.2.2.2.2.2.2.2.1 i (by omega)
        unfold VatAt at v5
        refine g_istore (L1 := [(0, _), (1, _), (2, _), (3, _), (4, _), (5, _), (6, _), (7, _), (8, _), (9, _), (10, _), (11, _)]) dX4_isReached_135 (by decide) (by rfl) ?_
        refine g_aload dX4_isReached_137 (by rfl) (by first | exact isRf_r | exact isRf_n | exact isRf_o | assumption) ?_
        refine g_iload dX4_isReached_139 (by rfl) ?_
        refine g_putf (ty := .int) dX4_isReached_141 fX4_58 (by decide +kernel) (by rfl) (by rfl) (by first | assumption | (repeat' (first | assumption | exact hu_same | exact Ne.symm (by assumption) | apply hu_n1))) (by exact Nat.le_of_ble_eq_true rfl) ?_
        refine g_aload dX4_isReached_144 (by rfl) (by first | exact isRf_r | exact isRf_n | exact isRf_o | assumption) ?_
        refine g_iload dX4_isReached_146 (by rfl) ?_
        refine g_putf (ty := .int) dX4_isReached_148 fX4_63 (by decide +kernel) (by rfl) (by rfl) (by first | assumption | (repeat' (first | assumption | exact hu_same | exact Ne.symm (by assumption) | apply hu_n1))) (by exact Nat.le_of_ble_eq_true rfl) ?_
        refine g_gen (fun h7 e7h => ?_)
        have n7 : ∀ q, q ≠ B (8 + i) → h7 q = h5 q := fun q n => by
          rw [e7h]
          simp only [hu_ne n]
        have kB7 : HouseAt X h7 B t := by
          rw [e7h, hu_hu]
          exact HouseAt.vatU sI kB5 (by omega) (((rowV_in (by omega)).trans ((upd_n (by omega)).trans (upd_n (by omega)))).trans (ag2 (19 + 4 * i + 0) (by omega) (by omega)).symm) (((rowV_in (by omega)).trans ((upd_n (by omega)).trans (upd_n (by omega)))).trans (ag2 (19 + 4 * i + 1) (by omega) (by omega)).symm) (ag2 (19 + 4 * i + 2) (by omega) (by omega)).symm (ag2 (19 + 4 * i + 3) (by omega) (by omega)).symm (fun p hp h9 => rowV_out h9)
        have kp7 : h7 pa = _ := (n7 pa (spa _ (by omega))).trans kp5
        have kpj7 : ∀ j, j < depth → path5 j = path j := fun j hj => (kpj5 j (by omega)).trans ((upd_n (by omega)).trans (kpj j hj))
        have kL7 : ∀ k, k < 5 → LotAt X h7 (D k 0) (D k 1) (D k 2) (xs5 k) := fun k hk => (kL5 k hk).kept (n7 _ (sD k 0 hk (by omega) _ (by omega))) (n7 _ (sD k 1 hk (by omega) _ (by omega))) (n7 _ (sD k 2 hk (by omega) _ (by omega)))
        have kx7 : ∀ k, k ≤ depth → xs5 k = xs k := fun k hk => (kx5 k (by omega)).trans ((if_neg (by omega)).trans (kx k hk))
        have kF7 : ∀ q, outA B q → q ≠ pa → (∀ k i, depth < k → k < 5 → i < 3 → q ≠ D k i) → h7 q = h q := fun q q1 q2 q3 => (n7 q (q1 _ (by omega))).trans ((kF5 q q1 q2 (fun k i2 h1 h2 h3 => q3 k i2 (by omega) h2 h3)).trans ((o4 q q1 q2 (fun i2 h2 => q3 (depth + 1) i2 (by omega) (by omega) h2)).trans (kF q q1 q2 q3)))
        refine g_iload dX4_isReached_151 (by rfl) ?_
        refine g_if_eq (tgt := 158) dX4_isReached_153 (by decide) (fun c7 => ?_) (fun c7 => ?_)
        · skip
          have hnone : (fun v => cond (decide (0 < vt r v 2)) (rch l x 0 (dyeR r l v)) none) i = none := by
            show cond (decide (0 < vt r i 2)) _ _ = _
            rw [decide_eq_true hgr]
            show rch l x 0 (dyeR r l i) = none
            exact Option.not_isSome_iff_eq_none.mp (by rw [bI_0 c7]; decide)
          refine g_iinc (v := nI (i + 1)) (L1 := [(0, _), (1, _), (2, _), (3, _), (4, _), (5, _), (6, _), (7, _), (8, _), (9, _), (10, _), (11, _)]) dX4_isReached_158 (by rfl) (nI_1 i) (by decide) (by rfl) ?_
          refine g_goto (tgt := 43) dX4_isReached_161 (by decide) ?_
          refine g_pick [0, 1, 2, 3, 4, 5, 6, 7] rfl ?_
          first
            | exact ih hlt h1 path1 xs1 kB kp kpj kL kx kF (by rw [← kR, show nv - i = (nv - (i + 1)) + 1 by omega, fst_n hnone])
            | exact ih hlt _ _ _ kB7 kp7 kpj7 kL7 kx7 kF7 (by rw [← kR, show nv - i = (nv - (i + 1)) + 1 by omega, fst_n hnone])
        · skip
          obtain ⟨p5, ep5⟩ := Option.isSome_iff_exists.mp (bI_1 c7)
          have hsome : (fun v => cond (decide (0 < vt r v 2)) (rch l x 0 (dyeR r l v)) none) i = some p5 := by
            show cond (decide (0 < vt r i 2)) _ _ = _
            rw [decide_eq_true hgr]
            exact ep5
          have eR : rch l x 1 r = some (i :: p5) := by rw [← kR, show nv - i = (nv - (i + 1)) + 1 by omega, fst_s hsome]
          refine g_iconst (v := 1) dX4_isReached_156 (by decide) ?_
          refine g_zret dX4_isReached_157 rfl (by decide) (Nat.le_refl _) (Nat.le_refl _) ?_
          rw [eR]
          refine ⟨rfl, kB7, ⟨path5, kp7, kpj7, fun p e => ?_⟩, ⟨xs5, kL7, kx7⟩, kF7⟩
          cases e
          obtain ⟨g1, g2⟩ := kpr5 p5 ep5
          refine ⟨by rw [List.length_cons, g1], fun i2 hi2 => ?_⟩
          cases i2 with
          | zero => exact (kpj5 depth (by omega)).trans upd_s
          | succ s =>
            have z := g2 s (by omega)
            rw [show depth + (s + 1) = depth + 1 + s by omega, z]
            rfl
      · skip
        have hnone : (fun v => cond (decide (0 < vt r v 2)) (rch l x 0 (dyeR r l v)) none) i = none := by
          show cond (decide (0 < vt r i 2)) _ _ = _
          rw [decide_eq_false c6]
          rfl
        refine g_goto (tgt := 158) dX4_isReached_78 (by decide) ?_
        refine g_iinc (v := nI (i + 1)) (L1 := [(0, _), (1, _), (2, _), (3, _), (4, _), (5, _), (6, _), (7, _), (8, _)]) dX4_isReached_158 (by rfl) (nI_1 i) (by decide) (by rfl) ?_
        refine g_goto (tgt := 43) dX4_isReached_161 (by decide) ?_
        refine g_pick [0, 1, 2, 3, 4, 5, 6, 7] rfl ?_
        first
          | exact ih hlt h1 path1 xs1 kB kp kpj kL kx kF (by rw [← kR, show nv - i = (nv - (i + 1)) + 1 by omega, fst_n hnone])
          | exact ih hlt _ _ _ kB7 kp7 kpj7 kL7 kx7 kF7 (by rw [← kR, show nv - i = (nv - (i + 1)) + 1 by omega, fst_n hnone])
  exact loop43 0 (by omega) h path xs hB pp (fun j _ => rfl) hL (fun k _ => rfl) (fun q _ _ _ => rfl) (by show fstV _ 0 (nv - 0) = fstV _ 0 (cl (r 7)); rw [e7, cl_nI (by omega)]; rfl)

set_option maxHeartbeats 8000000 in
set_option maxRecDepth 100000 in
theorem ct_isReached2 (X : Cx) {h : Hp} {a dp pa l oa os depth : Nat} {D : Nat → Nat → Nat} {path : Nat → Int32} {B : Nat → Nat} {t r x : Nat → Int32} {xs : Nat → Nat → Int32}  (hS : PlSep a dp pa D B oa os) (hP : PlPre X h a dp pa D path B t r l oa os x xs depth) (hdep : depth + 2 ≤ 4) : Ct X mX4_isReached 5 0 0 [.ref a, .ref (B 0), .ref oa, .int (nI depth), .int (nI (depth + 2))] h (PlPost X h pa D path B t xs depth 2 (rch l x 2 r)) := by
  obtain ⟨pa0, pd, pp, hB, hL, hX, hO, hl, hlo, hx0, ag1, ag2⟩ := hP
  have hP := True.intro
  obtain ⟨sI, sD, ⟨sa, sdp, spa, soa, sos⟩, sI2, sN, sp1, sp2, sp3, sp4⟩ := hS
  have hS0 : PlSep a dp pa D B oa os := ⟨sI, sD, ⟨sa, sdp, spa, soa, sos⟩, sI2, sN, sp1, sp2, sp3, sp4⟩
  obtain ⟨b0, b1, b2, b3, b4, b5, b6, bv, bl, bo⟩ := id hB
  unfold hobC at b0
  have hSet : SetAt X h (B 6) (B 7) r := b6.ext (fun j hj => ag1 j (by omega))
  have b60 := b6.1
  have hLd : LotAt X h (D depth 0) (D depth 1) (D depth 2) (ltx r l) := (hL depth (by omega)).ext hx0
  obtain ⟨nv, nl, no, hnv, hnl, hno, e7, e8, e9, hset, hvok, -⟩ := id hO
  have t7 : t 7 = nI nv := (ag1 7 (by omega)).trans e7
  rw [t7] at b0
  refine Ct.ofG vX4_isReached.1.2.2.1 (Nat.le_of_ble_eq_true rfl) ?_
  show G X RX4 cX4_isReached 12 (some .boolean) "isReached" (Rm 5 0 0) (Fm X (PlPost X h pa D path B t xs depth 2 (rch l x 2 r)) 0 0) 0 0 0 [(0, .ref a), (1, .ref (B 0)), (2, .ref oa), (3, .int (nI depth)), (4, .int (nI (depth + 2)))] [] h
  refine g_aload_n dX4_isReached_0 (by rfl) (by first | exact isRf_r | exact isRf_n | exact isRf_o | assumption) ?_
  refine g_iload_n dX4_isReached_1 (by rfl) ?_
  refine g_cV1x dX4_isReached_2 lX4_26 vX4_lotBehind (ct_X4_lotBehind X pa0 pd (j := depth) (by omega)) (by first | assumption | (repeat' (first | assumption | exact hu_same | exact Ne.symm (by assumption) | apply hu_n1))) rfl ⟨Nat.le_of_ble_eq_true rfl, Nat.le_of_ble_eq_true rfl⟩ (Nat.le_of_ble_eq_true rfl) ⟨Nat.le_of_ble_eq_true rfl, Nat.le_of_ble_eq_true rfl⟩ ?_
  refine g_astore (L1 := [(0, _), (1, _), (2, _), (3, _), (4, _), (5, _)]) dX4_isReached_5 (by first | exact isRf_r | exact isRf_n | exact isRf_o | assumption) (by decide) (by rfl) ?_
  refine g_aload dX4_isReached_7 (by rfl) (by first | exact isRf_r | exact isRf_n | exact isRf_o | assumption) ?_
  refine g_ifnonnull (tgt := 14) dX4_isReached_9 (by decide) (by first | exact isRf_r | exact isRf_n | exact isRf_o | assumption) (fun c1 => ?_) (fun c1 => nomatch c1)
  refine g_iload_n dX4_isReached_14 (by rfl) ?_
  refine g_iload dX4_isReached_15 (by rfl) ?_
  refine g_icmp_lt (tgt := 31) dX4_isReached_17 (by decide) (fun c2 => ?_) (fun c2 => absurd (nI_lt (show depth < depth + 2 by omega) (by omega)) c2)
  refine g_aload_n dX4_isReached_31 (by rfl) (by first | exact isRf_r | exact isRf_n | exact isRf_o | assumption) ?_
  refine g_iload_n dX4_isReached_32 (by rfl) ?_
  refine g_iconst (v := 1) dX4_isReached_33 (by decide) ?_
  refine g_iadd dX4_isReached_34 ?_
  rw [nI_1]
  refine g_cV1x dX4_isReached_35 lX4_26 vX4_lotBehind (ct_X4_lotBehind X pa0 pd (j := depth + 1) (by omega)) (by first | assumption | (repeat' (first | assumption | exact hu_same | exact Ne.symm (by assumption) | apply hu_n1))) rfl ⟨Nat.le_of_ble_eq_true rfl, Nat.le_of_ble_eq_true rfl⟩ (Nat.le_of_ble_eq_true rfl) ⟨Nat.le_of_ble_eq_true rfl, Nat.le_of_ble_eq_true rfl⟩ ?_
  refine g_astore (L1 := [(0, _), (1, _), (2, _), (3, _), (4, _), (5, _), (6, _)]) dX4_isReached_38 (by first | exact isRf_r | exact isRf_n | exact isRf_o | assumption) (by decide) (by rfl) ?_
  refine g_iconst (v := 0) dX4_isReached_40 (by decide) ?_
  refine g_istore (L1 := [(0, _), (1, _), (2, _), (3, _), (4, _), (5, _), (6, _), (7, _)]) dX4_isReached_41 (by decide) (by rfl) ?_
  have loop43 : ∀ i, i ≤ nv → ∀ (h1 : Hp) (path1 : Nat → Int32) (xs1 : Nat → Nat → Int32), HouseAt X h1 B t → h1 pa = some (oI X 4 (nr 4 path1)) → (∀ j, j < depth → path1 j = path j) → (∀ k, k < 5 → LotAt X h1 (D k 0) (D k 1) (D k 2) (xs1 k)) → (∀ k, k ≤ depth → xs1 k = xs k) → (∀ q, outA B q → q ≠ pa → (∀ k i, depth < k → k < 5 → i < 3 → q ≠ D k i) → h1 q = h q) → fstV (fun v => cond (decide (0 < vt r v 2)) (rch l x 1 (dyeR r l v)) none) i (nv - i) = rch l x 2 r → G X RX4 cX4_isReached 12 (some .boolean) "isReached" (Rm 5 0 0) (Fm X (PlPost X h pa D path B t xs depth 2 (rch l x 2 r)) 0 0) 0 0 43 [(0, .ref a), (1, .ref (B 0)), (2, .ref oa), (3, .int (nI depth)), (4, .int (nI (depth + 2))), (5, .ref (D depth 0)), (6, .ref (D (depth + 1) 0)), (7, .int (nI i))] [] h1 := by
    refine up_ind nv (fun i hi ih => ?_)
    intro h1 path1 xs1 kB kp kpj kL kx kF kR
    obtain ⟨c0, c1, c2, c3, c4, c5, c6, cv, cq, co⟩ := id kB
    unfold hobC at c0
    rw [t7] at c0
    have cSet : SetAt X h1 (B 6) (B 7) r := c6.ext (fun j hj => ag1 j (by omega))
    have c60 := c6.1
    have q0 : h1 a = _ := (kF a sa (Ne.symm sp3) (fun k i2 _ hk hi2 => Ne.symm (sN k i2 hk hi2).2.2.2.1)).trans pa0
    have q1 : h1 dp = _ := (kF dp sdp (Ne.symm sp4) (fun k i2 _ hk hi2 => Ne.symm (sN k i2 hk hi2).2.2.2.2)).trans pd
    have qd : LotAt X h1 (D depth 0) (D depth 1) (D depth 2) (ltx r l) := (kL depth (by omega)).ext (fun j hj => by rw [kx depth (Nat.le_refl _)]; exact hx0 j hj)
    have qX : OrdAt X h1 oa os x := hX.kept (kF oa soa (Ne.symm sp2) (fun k i2 _ hk hi2 => Ne.symm (sN k i2 hk hi2).2.2.1)) (kF os sos (Ne.symm sp1) (fun k i2 _ hk hi2 => Ne.symm (sN k i2 hk hi2).2.1))
    refine g_iload dX4_isReached_43 (by rfl) ?_
    refine g_aload_n dX4_isReached_45 (by rfl) (by first | exact isRf_r | exact isRf_n | exact isRf_o | assumption) ?_
    refine g_getf dX4_isReached_46 fX4_50 (by first | assumption | (repeat' (first | assumption | exact hu_same | exact Ne.symm (by assumption) | apply hu_n1))) (by rfl) ?_
    refine g_icmp_ge (tgt := 164) dX4_isReached_49 (by decide) (fun c3 => ?_) (fun c3 => ?_)
    · skip
      have hie : i = nv := Nat.le_antisymm hi (c_ge (by omega) (by omega) c3)
      refine g_iconst (v := 0) dX4_isReached_164 (by decide) ?_
      refine g_zret dX4_isReached_165 rfl (by decide) (Nat.le_refl _) (Nat.le_refl _) ?_
      have eR : rch l x 2 r = none := by
        rw [← kR, hie, Nat.sub_self]
        rfl
      rw [eR]
      exact ⟨rfl, kB, ⟨path1, kp, kpj, fun p e => nomatch e⟩, ⟨xs1, kL, kx⟩, kF⟩
    · skip
      have hlt : i < nv := c_nge (by omega) (by omega) c3
      refine g_aload dX4_isReached_52 (by rfl) (by first | exact isRf_r | exact isRf_n | exact isRf_o | assumption) ?_
      refine g_ifnull (tgt := 164) dX4_isReached_54 (by decide) (by first | exact isRf_r | exact isRf_n | exact isRf_o | assumption) (fun c4 => nomatch c4) (fun c4 => ?_)
      refine g_aload_n dX4_isReached_57 (by rfl) (by first | exact isRf_r | exact isRf_n | exact isRf_o | assumption) ?_
      refine g_iload dX4_isReached_58 (by rfl) ?_
      refine g_cV1x dX4_isReached_60 lX4_54 vX1_findVat (ct_findVat X (by omega) c0 c1 hlt (vaR_j (by omega))) (by first | assumption | (repeat' (first | assumption | exact hu_same | exact Ne.symm (by assumption) | apply hu_n1))) rfl ⟨Nat.le_of_ble_eq_true rfl, Nat.le_of_ble_eq_true rfl⟩ (Nat.le_of_ble_eq_true rfl) ⟨Nat.le_of_ble_eq_true rfl, Nat.le_of_ble_eq_true rfl⟩ ?_
      have cvi : VatAt h1 (B (8 + i)) (vt r i) := (cv i (by omega)).ext (fun j hj => ag2 _ (by omega) (by omega))
      have cvi0 := cvi
      unfold VatAt at cvi0
      refine g_astore (L1 := [(0, _), (1, _), (2, _), (3, _), (4, _), (5, _), (6, _), (7, _), (8, _)]) dX4_isReached_63 (by first | exact isRf_r | exact isRf_n | exact isRf_o | assumption) (by decide) (by rfl) ?_
      refine g_aload dX4_isReached_65 (by rfl) (by first | exact isRf_r | exact isRf_n | exact isRf_o | assumption) ?_
      refine g_ifnull (tgt := 158) dX4_isReached_67 (by decide) (by first | exact isRf_r | exact isRf_n | exact isRf_o | assumption) (fun c5 => nomatch c5) (fun c5 => ?_)
      refine g_aload dX4_isReached_70 (by rfl) (by first | exact isRf_r | exact isRf_n | exact isRf_o | assumption) ?_
      refine g_getf dX4_isReached_72 fX4_58 (by first | assumption | (repeat' (first | assumption | exact hu_same | exact Ne.symm (by assumption) | apply hu_n1))) (by rfl) ?_
      refine g_if_gt (tgt := 81) dX4_isReached_75 (by decide) (fun c6 => ?_) (fun c6 => ?_)
      · skip
        have hgr := c6
        refine g_aload dX4_isReached_81 (by rfl) (by first | exact isRf_r | exact isRf_n | exact isRf_o | assumption) ?_
        refine g_getf dX4_isReached_83 fX4_58 (by first | assumption | (repeat' (first | assumption | exact hu_same | exact Ne.symm (by assumption) | apply hu_n1))) (by rfl) ?_
        refine g_istore (L1 := [(0, _), (1, _), (2, _), (3, _), (4, _), (5, _), (6, _), (7, _), (8, _), (9, _)]) dX4_isReached_86 (by decide) (by rfl) ?_
        refine g_aload dX4_isReached_88 (by rfl) (by first | exact isRf_r | exact isRf_n | exact isRf_o | assumption) ?_
        refine g_getf dX4_isReached_90 fX4_63 (by first | assumption | (repeat' (first | assumption | exact hu_same | exact Ne.symm (by assumption) | apply hu_n1))) (by rfl) ?_
        refine g_istore (L1 := [(0, _), (1, _), (2, _), (3, _), (4, _), (5, _), (6, _), (7, _), (8, _), (9, _), (10, _)]) dX4_isReached_93 (by decide) (by rfl) ?_
        refine g_aload dX4_isReached_95 (by rfl) (by first | exact isRf_r | exact isRf_n | exact isRf_o | assumption) ?_
        refine g_aload dX4_isReached_97 (by rfl) (by first | exact isRf_r | exact isRf_n | exact isRf_o | assumption) ?_
        have qn := (kL (depth + 1) (by omega)).1
        unfold lotC at qn
        refine g_cV1 dX4_isReached_99 lX4_30 vX2_copyFrom (ct_X2_copyFrom X (kL (depth + 1) (by omega)) qd hlo.b10 hlo.2.2.2.2.2.1 hlo.b12 (fun e => absurd (sI2 _ _ _ _ (by omega) (by omega) (by omega) (by omega) e) (by omega)) (fun e => absurd (sI2 _ _ _ _ (by omega) (by omega) (by omega) (by omega) e) (by omega)) (fun e => absurd (sI2 _ _ _ _ (by omega) (by omega) (by omega) (by omega) e) (by omega)) (fun e => absurd (sI2 _ _ _ _ (by omega) (by omega) (by omega) (by omega) e) (by omega)) (fun e => absurd (sI2 _ _ _ _ (by omega) (by omega) (by omega) (by omega) e) (by omega)) (fun e => absurd (sI2 _ _ _ _ (by omega) (by omega) (by omega) (by omega) e) (by omega))) (by first | assumption | (repeat' (first | assumption | exact hu_same | exact Ne.symm (by assumption) | apply hu_n1))) rfl ⟨Nat.le_of_ble_eq_true rfl, Nat.le_of_ble_eq_true rfl⟩ (Nat.le_of_ble_eq_true rfl) ⟨Nat.le_of_ble_eq_true rfl, Nat.le_of_ble_eq_true rfl⟩ ?_
        rintro _ h2 ⟨rfl, kn, kf2⟩
        refine g_stk (st' := []) rfl ?_
        have kn0 := kn.1
        unfold lotC at kn0
        have o2 : ∀ q, outA B q → (∀ i2, i2 < 3 → q ≠ D (depth + 1) i2) → h2 q = h1 q := fun q _ z => kf2 q (z 0 (by omega)) (z 1 (by omega)) (z 2 (by omega))
        have oB2 : ∀ j, j < 194 → h2 (B j) = h1 (B j) := fun j hj => kf2 _ (Ne.symm (sD (depth + 1) 0 (by omega) (by omega) j hj)) (Ne.symm (sD (depth + 1) 1 (by omega) (by omega) j hj)) (Ne.symm (sD (depth + 1) 2 (by omega) (by omega) j hj))
        have B2 : HouseAt X h2 B t := kB.kept oB2
        have d60 := B2.2.2.2.2.2.2.1.1
        have d0 := B2.1
        unfold hobC at d0
        have v2 : VatAt h2 (B (8 + i)) (vt r i) := cvi.kept (oB2 _ (by omega))
        have S2 : SetAt X h2 (B 6) (B 7) r := cSet.kept (oB2 _ (by omega)) (oB2 _ (by omega))
        obtain ⟨⟨dd, hdd, edd⟩, -⟩ := id (hvok i hlt)
        refine g_aload dX4_isReached_102 (by rfl) (by first | exact isRf_r | exact isRf_n | exact isRf_o | assumption) ?_
        refine g_aload dX4_isReached_104 (by rfl) (by first | exact isRf_r | exact isRf_n | exact isRf_o | assumption) ?_
        refine g_aload_n dX4_isReached_106 (by rfl) (by first | exact isRf_r | exact isRf_n | exact isRf_o | assumption) ?_
        refine g_getf dX4_isReached_107 fX4_38 (by first | assumption | (repeat' (first | assumption | exact hu_same | exact Ne.symm (by assumption) | apply hu_n1))) (by rfl) ?_
        refine g_cV2 dX4_isReached_110 lX4_66 vX2_soakIn (ct_X2_soakIn X (t := tkR r l i) (d := dd) rfl (dok_of hset (hvok i hlt) hlo) hdd edd kn v2 S2 (fun e => absurd (sI2 _ _ _ _ (by omega) (by omega) (by omega) (by omega) e) (by omega))) (by first | assumption | (repeat' (first | assumption | exact hu_same | exact Ne.symm (by assumption) | apply hu_n1))) rfl ⟨Nat.le_of_ble_eq_true rfl, Nat.le_of_ble_eq_true rfl⟩ (Nat.le_of_ble_eq_true rfl) ⟨Nat.le_of_ble_eq_true rfl, Nat.le_of_ble_eq_true rfl⟩ ?_
        rintro _ h3 ⟨rfl, ⟨x2, hx2, kl⟩, kv, kf3⟩
        refine g_stk (st' := [.int (tkR r l i)]) rfl ?_
        have o3 : ∀ q, outA B q → (∀ i2, i2 < 3 → q ≠ D (depth + 1) i2) → h3 q = h1 q := fun q q1 z => (kf3 q (z 0 (by omega)) (z 1 (by omega)) (z 2 (by omega)) (q1 _ (by omega))).trans (o2 q q1 z)
        have B3 : HouseAt X h3 B (rowV t i (soakY (ltx r l) (vt r i) r (tkR r l i))) := HouseAt.vatB sI B2 (by omega) kv (fun j hj hn => kf3 _ (Ne.symm (sD (depth + 1) 0 (by omega) (by omega) j hj)) (Ne.symm (sD (depth + 1) 1 (by omega) (by omega) j hj)) (Ne.symm (sD (depth + 1) 2 (by omega) (by omega) j hj)) (sI.ne hj (by omega) hn)) (fun j hj => (rowV_in hj).symm) (fun p _ hp => (rowV_out hp).symm)
        have p3 : h3 pa = some (oI X 4 (nr 4 path1)) := (o3 pa spa (fun i2 h2 => Ne.symm (sN (depth + 1) i2 (by omega) h2).1)).trans kp
        have q03 : h3 a = _ := (o3 a sa (fun i2 h2 => Ne.symm (sN (depth + 1) i2 (by omega) h2).2.2.2.1)).trans q0
        refine g_pop dX4_isReached_113 (by rfl) ?_
        refine g_aload_n dX4_isReached_114 (by rfl) (by first | exact isRf_r | exact isRf_n | exact isRf_o | assumption) ?_
        refine g_getf dX4_isReached_115 fX4_15 (by first | assumption | (repeat' (first | assumption | exact hu_same | exact Ne.symm (by assumption) | apply hu_n1))) (by rfl) ?_
        refine g_iload_n dX4_isReached_118 (by rfl) ?_
        refine g_iload dX4_isReached_119 (by rfl) ?_
        refine g_cN3v dX4_isReached_121 lX4_70 vX9_putAt (ct_X9_putAt X (N := 4) (j := depth) (by omega) (by omega) p3) ⟨Nat.le_of_ble_eq_true rfl, Nat.le_of_ble_eq_true rfl⟩ (Nat.le_of_ble_eq_true rfl) ⟨Nat.le_of_ble_eq_true rfl, Nat.le_of_ble_eq_true rfl⟩ ?_
        refine g_gen (fun h4 e4 => ?_)
        have o4 : ∀ q, outA B q → q ≠ pa → (∀ i2, i2 < 3 → q ≠ D (depth + 1) i2) → h4 q = h1 q := fun q q1 q2 z => by
          rw [e4, hu_ne q2]
          exact o3 q q1 z
        have B4 : HouseAt X h4 B (rowV t i (soakY (ltx r l) (vt r i) r (tkR r l i))) := B3.kept (fun j hj => by rw [e4, hu_ne (Ne.symm (spa j hj))])
        have p4 : h4 pa = some (oI X 4 (nr 4 (upd path1 depth (nI i)))) := by rw [e4, hu_same, nr_up (by omega)]
        have kl4 : LotAt X h4 (D (depth + 1) 0) (D (depth + 1) 1) (D (depth + 1) 2) x2 := kl.kept (by rw [e4, hu_ne (sN (depth + 1) 0 (by omega) (by omega)).1]) (by rw [e4, hu_ne (sN (depth + 1) 1 (by omega) (by omega)).1]) (by rw [e4, hu_ne (sN (depth + 1) 2 (by omega) (by omega)).1])
        have D4 : ∀ k i2, k < 5 → i2 < 3 → k ≠ depth + 1 → h4 (D k i2) = h1 (D k i2) := fun k i2 hk hi2 hn => o4 _ (sD k i2 hk hi2) (sN k i2 hk hi2).1 (fun i3 hi3 e => hn (sI2 _ _ _ _ hk hi2 (by omega) hi3 e).1)
        have L4 : ∀ k, k < 5 → LotAt X h4 (D k 0) (D k 1) (D k 2) ((fun k => if k = depth + 1 then x2 else xs1 k) k) := fun k hk => by
          by_cases z : k = depth + 1
          · subst z
            show LotAt X h4 _ _ _ (if depth + 1 = depth + 1 then x2 else xs1 (depth + 1))
            rw [if_pos rfl]
            exact kl4
          · show LotAt X h4 _ _ _ (if k = depth + 1 then x2 else xs1 k)
            rw [if_neg z]
            exact (kL k hk).kept (D4 k 0 hk (by omega) z) (D4 k 1 hk (by omega) z) (D4 k 2 hk (by omega) z)
        have X4 : OrdAt X h4 oa os x := qX.kept (o4 oa soa (Ne.symm sp2) (fun i2 h2 => Ne.symm (sN (depth + 1) i2 (by omega) h2).2.2.1)) (o4 os sos (Ne.symm sp1) (fun i2 h2 => Ne.symm (sN (depth + 1) i2 (by omega) h2).2.1))
        have q04 : h4 a = _ := (o4 a sa (Ne.symm sp3) (fun i2 h2 => Ne.symm (sN (depth + 1) i2 (by omega) h2).2.2.2.1)).trans q0
        have q14 : h4 dp = _ := (o4 dp sdp (Ne.symm sp4) (fun i2 h2 => Ne.symm (sN (depth + 1) i2 (by omega) h2).2.2.2.2)).trans q1
        have kOd : Ok (dyeR r l i) := Ok_dye hO hl (by omega) hlo (hvok i hlt)
        have ex2 : x2 = soakF (ltx r l) (vt r i) r (cl (vt r i 0)) (tkR r l i) := by
          rw [edd, cl_nI (by omega)]
          exact soak_f hx2
        have hP4 : PlPre X h4 a dp pa D (upd path1 depth (nI i)) B (rowV t i (soakY (ltx r l) (vt r i) r (tkR r l i))) (dyeR r l i) l oa os x (fun k => if k = depth + 1 then x2 else xs1 k) (depth + 1) := by
          refine ⟨q04, q14, p4, B4, L4, X4, kOd, hl, LOk_dye hO kOd hl hlo, fun j hj => ?_, fun p hp => ?_, fun p h19 h43 => dye_p h19 h43 (ag2 p h19 h43)⟩
          · show (if depth + 1 = depth + 1 then x2 else xs1 (depth + 1)) j = _
            rw [if_pos rfl, dye_ll hj, ex2]
          · rw [rowV_out (by omega), dye_lo (by omega) (by omega)]
            exact ag1 p hp
        refine g_aload_n dX4_isReached_124 (by rfl) (by first | exact isRf_r | exact isRf_n | exact isRf_o | assumption) ?_
        refine g_aload_n dX4_isReached_125 (by rfl) (by first | exact isRf_r | exact isRf_n | exact isRf_o | assumption) ?_
        refine g_aload_n dX4_isReached_126 (by rfl) (by first | exact isRf_r | exact isRf_n | exact isRf_o | assumption) ?_
        refine g_iload_n dX4_isReached_127 (by rfl) ?_
        refine g_iconst (v := 1) dX4_isReached_128 (by decide) ?_
        refine g_iadd dX4_isReached_129 ?_
        rw [nI_1]
        refine g_iload dX4_isReached_130 (by rfl) ?_
        refine g_cS5 dX4_isReached_132 lX4_34 rfl vX4_isReached (ct_isReached1 X hS0 hP4 (by omega)) ⟨Nat.le_of_ble_eq_true rfl, Nat.le_of_ble_eq_true rfl⟩ (Nat.le_of_ble_eq_true rfl) ⟨Nat.le_of_ble_eq_true rfl, Nat.le_of_ble_eq_true rfl⟩ ?_
        rintro _ h5 ⟨rfl, kB5, ⟨path5, kp5, kpj5, kpr5⟩, ⟨xs5, kL5, kx5⟩, kF5⟩
        refine g_stk (st' := [.int (bI (rch l x 1 (dyeR r l i)).isSome)]) rfl ?_
        have v5 := kB5.2.2.2.2.2.2.2.1 i (by omega)
        unfold VatAt at v5
        refine g_istore (L1 := [(0, _), (1, _), (2, _), (3, _), (4, _), (5, _), (6, _), (7, _), (8, _), (9, _), (10, _), (11, _)]) dX4_isReached_135 (by decide) (by rfl) ?_
        refine g_aload dX4_isReached_137 (by rfl) (by first | exact isRf_r | exact isRf_n | exact isRf_o | assumption) ?_
        refine g_iload dX4_isReached_139 (by rfl) ?_
        refine g_putf (ty := .int) dX4_isReached_141 fX4_58 (by decide +kernel) (by rfl) (by rfl) (by first | assumption | (repeat' (first | assumption | exact hu_same | exact Ne.symm (by assumption) | apply hu_n1))) (by exact Nat.le_of_ble_eq_true rfl) ?_
        refine g_aload dX4_isReached_144 (by rfl) (by first | exact isRf_r | exact isRf_n | exact isRf_o | assumption) ?_
        refine g_iload dX4_isReached_146 (by rfl) ?_
        refine g_putf (ty := .int) dX4_isReached_148 fX4_63 (by decide +kernel) (by rfl) (by rfl) (by first | assumption | (repeat' (first | assumption | exact hu_same | exact Ne.symm (by assumption) | apply hu_n1))) (by exact Nat.le_of_ble_eq_true rfl) ?_
        refine g_gen (fun h7 e7h => ?_)
        have n7 : ∀ q, q ≠ B (8 + i) → h7 q = h5 q := fun q n => by
          rw [e7h]
          simp only [hu_ne n]
        have kB7 : HouseAt X h7 B t := by
          rw [e7h, hu_hu]
          exact HouseAt.vatU sI kB5 (by omega) (((rowV_in (by omega)).trans ((upd_n (by omega)).trans (upd_n (by omega)))).trans (ag2 (19 + 4 * i + 0) (by omega) (by omega)).symm) (((rowV_in (by omega)).trans ((upd_n (by omega)).trans (upd_n (by omega)))).trans (ag2 (19 + 4 * i + 1) (by omega) (by omega)).symm) (ag2 (19 + 4 * i + 2) (by omega) (by omega)).symm (ag2 (19 + 4 * i + 3) (by omega) (by omega)).symm (fun p hp h9 => rowV_out h9)
        have kp7 : h7 pa = _ := (n7 pa (spa _ (by omega))).trans kp5
        have kpj7 : ∀ j, j < depth → path5 j = path j := fun j hj => (kpj5 j (by omega)).trans ((upd_n (by omega)).trans (kpj j hj))
        have kL7 : ∀ k, k < 5 → LotAt X h7 (D k 0) (D k 1) (D k 2) (xs5 k) := fun k hk => (kL5 k hk).kept (n7 _ (sD k 0 hk (by omega) _ (by omega))) (n7 _ (sD k 1 hk (by omega) _ (by omega))) (n7 _ (sD k 2 hk (by omega) _ (by omega)))
        have kx7 : ∀ k, k ≤ depth → xs5 k = xs k := fun k hk => (kx5 k (by omega)).trans ((if_neg (by omega)).trans (kx k hk))
        have kF7 : ∀ q, outA B q → q ≠ pa → (∀ k i, depth < k → k < 5 → i < 3 → q ≠ D k i) → h7 q = h q := fun q q1 q2 q3 => (n7 q (q1 _ (by omega))).trans ((kF5 q q1 q2 (fun k i2 h1 h2 h3 => q3 k i2 (by omega) h2 h3)).trans ((o4 q q1 q2 (fun i2 h2 => q3 (depth + 1) i2 (by omega) (by omega) h2)).trans (kF q q1 q2 q3)))
        refine g_iload dX4_isReached_151 (by rfl) ?_
        refine g_if_eq (tgt := 158) dX4_isReached_153 (by decide) (fun c7 => ?_) (fun c7 => ?_)
        · skip
          have hnone : (fun v => cond (decide (0 < vt r v 2)) (rch l x 1 (dyeR r l v)) none) i = none := by
            show cond (decide (0 < vt r i 2)) _ _ = _
            rw [decide_eq_true hgr]
            show rch l x 1 (dyeR r l i) = none
            exact Option.not_isSome_iff_eq_none.mp (by rw [bI_0 c7]; decide)
          refine g_iinc (v := nI (i + 1)) (L1 := [(0, _), (1, _), (2, _), (3, _), (4, _), (5, _), (6, _), (7, _), (8, _), (9, _), (10, _), (11, _)]) dX4_isReached_158 (by rfl) (nI_1 i) (by decide) (by rfl) ?_
          refine g_goto (tgt := 43) dX4_isReached_161 (by decide) ?_
          refine g_pick [0, 1, 2, 3, 4, 5, 6, 7] rfl ?_
          first
            | exact ih hlt h1 path1 xs1 kB kp kpj kL kx kF (by rw [← kR, show nv - i = (nv - (i + 1)) + 1 by omega, fst_n hnone])
            | exact ih hlt _ _ _ kB7 kp7 kpj7 kL7 kx7 kF7 (by rw [← kR, show nv - i = (nv - (i + 1)) + 1 by omega, fst_n hnone])
        · skip
          obtain ⟨p5, ep5⟩ := Option.isSome_iff_exists.mp (bI_1 c7)
          have hsome : (fun v => cond (decide (0 < vt r v 2)) (rch l x 1 (dyeR r l v)) none) i = some p5 := by
            show cond (decide (0 < vt r i 2)) _ _ = _
            rw [decide_eq_true hgr]
            exact ep5
          have eR : rch l x 2 r = some (i :: p5) := by rw [← kR, show nv - i = (nv - (i + 1)) + 1 by omega, fst_s hsome]
          refine g_iconst (v := 1) dX4_isReached_156 (by decide) ?_
          refine g_zret dX4_isReached_157 rfl (by decide) (Nat.le_refl _) (Nat.le_refl _) ?_
          rw [eR]
          refine ⟨rfl, kB7, ⟨path5, kp7, kpj7, fun p e => ?_⟩, ⟨xs5, kL7, kx7⟩, kF7⟩
          cases e
          obtain ⟨g1, g2⟩ := kpr5 p5 ep5
          refine ⟨by rw [List.length_cons, g1], fun i2 hi2 => ?_⟩
          cases i2 with
          | zero => exact (kpj5 depth (by omega)).trans upd_s
          | succ s =>
            have z := g2 s (by omega)
            rw [show depth + (s + 1) = depth + 1 + s by omega, z]
            rfl
      · skip
        have hnone : (fun v => cond (decide (0 < vt r v 2)) (rch l x 1 (dyeR r l v)) none) i = none := by
          show cond (decide (0 < vt r i 2)) _ _ = _
          rw [decide_eq_false c6]
          rfl
        refine g_goto (tgt := 158) dX4_isReached_78 (by decide) ?_
        refine g_iinc (v := nI (i + 1)) (L1 := [(0, _), (1, _), (2, _), (3, _), (4, _), (5, _), (6, _), (7, _), (8, _)]) dX4_isReached_158 (by rfl) (nI_1 i) (by decide) (by rfl) ?_
        refine g_goto (tgt := 43) dX4_isReached_161 (by decide) ?_
        refine g_pick [0, 1, 2, 3, 4, 5, 6, 7] rfl ?_
        first
          | exact ih hlt h1 path1 xs1 kB kp kpj kL kx kF (by rw [← kR, show nv - i = (nv - (i + 1)) + 1 by omega, fst_n hnone])
          | exact ih hlt _ _ _ kB7 kp7 kpj7 kL7 kx7 kF7 (by rw [← kR, show nv - i = (nv - (i + 1)) + 1 by omega, fst_n hnone])
  exact loop43 0 (by omega) h path xs hB pp (fun j _ => rfl) hL (fun k _ => rfl) (fun q _ _ _ => rfl) (by show fstV _ 0 (nv - 0) = fstV _ 0 (cl (r 7)); rw [e7, cl_nI (by omega)]; rfl)

set_option maxHeartbeats 8000000 in
set_option maxRecDepth 100000 in
theorem ct_isReached3 (X : Cx) {h : Hp} {a dp pa l oa os depth : Nat} {D : Nat → Nat → Nat} {path : Nat → Int32} {B : Nat → Nat} {t r x : Nat → Int32} {xs : Nat → Nat → Int32}  (hS : PlSep a dp pa D B oa os) (hP : PlPre X h a dp pa D path B t r l oa os x xs depth) (hdep : depth + 3 ≤ 4) : Ct X mX4_isReached 6 0 0 [.ref a, .ref (B 0), .ref oa, .int (nI depth), .int (nI (depth + 3))] h (PlPost X h pa D path B t xs depth 3 (rch l x 3 r)) := by
  obtain ⟨pa0, pd, pp, hB, hL, hX, hO, hl, hlo, hx0, ag1, ag2⟩ := hP
  have hP := True.intro
  obtain ⟨sI, sD, ⟨sa, sdp, spa, soa, sos⟩, sI2, sN, sp1, sp2, sp3, sp4⟩ := hS
  have hS0 : PlSep a dp pa D B oa os := ⟨sI, sD, ⟨sa, sdp, spa, soa, sos⟩, sI2, sN, sp1, sp2, sp3, sp4⟩
  obtain ⟨b0, b1, b2, b3, b4, b5, b6, bv, bl, bo⟩ := id hB
  unfold hobC at b0
  have hSet : SetAt X h (B 6) (B 7) r := b6.ext (fun j hj => ag1 j (by omega))
  have b60 := b6.1
  have hLd : LotAt X h (D depth 0) (D depth 1) (D depth 2) (ltx r l) := (hL depth (by omega)).ext hx0
  obtain ⟨nv, nl, no, hnv, hnl, hno, e7, e8, e9, hset, hvok, -⟩ := id hO
  have t7 : t 7 = nI nv := (ag1 7 (by omega)).trans e7
  rw [t7] at b0
  refine Ct.ofG vX4_isReached.1.2.2.1 (Nat.le_of_ble_eq_true rfl) ?_
  show G X RX4 cX4_isReached 12 (some .boolean) "isReached" (Rm 6 0 0) (Fm X (PlPost X h pa D path B t xs depth 3 (rch l x 3 r)) 0 0) 0 0 0 [(0, .ref a), (1, .ref (B 0)), (2, .ref oa), (3, .int (nI depth)), (4, .int (nI (depth + 3)))] [] h
  refine g_aload_n dX4_isReached_0 (by rfl) (by first | exact isRf_r | exact isRf_n | exact isRf_o | assumption) ?_
  refine g_iload_n dX4_isReached_1 (by rfl) ?_
  refine g_cV1x dX4_isReached_2 lX4_26 vX4_lotBehind (ct_X4_lotBehind X pa0 pd (j := depth) (by omega)) (by first | assumption | (repeat' (first | assumption | exact hu_same | exact Ne.symm (by assumption) | apply hu_n1))) rfl ⟨Nat.le_of_ble_eq_true rfl, Nat.le_of_ble_eq_true rfl⟩ (Nat.le_of_ble_eq_true rfl) ⟨Nat.le_of_ble_eq_true rfl, Nat.le_of_ble_eq_true rfl⟩ ?_
  refine g_astore (L1 := [(0, _), (1, _), (2, _), (3, _), (4, _), (5, _)]) dX4_isReached_5 (by first | exact isRf_r | exact isRf_n | exact isRf_o | assumption) (by decide) (by rfl) ?_
  refine g_aload dX4_isReached_7 (by rfl) (by first | exact isRf_r | exact isRf_n | exact isRf_o | assumption) ?_
  refine g_ifnonnull (tgt := 14) dX4_isReached_9 (by decide) (by first | exact isRf_r | exact isRf_n | exact isRf_o | assumption) (fun c1 => ?_) (fun c1 => nomatch c1)
  refine g_iload_n dX4_isReached_14 (by rfl) ?_
  refine g_iload dX4_isReached_15 (by rfl) ?_
  refine g_icmp_lt (tgt := 31) dX4_isReached_17 (by decide) (fun c2 => ?_) (fun c2 => absurd (nI_lt (show depth < depth + 3 by omega) (by omega)) c2)
  refine g_aload_n dX4_isReached_31 (by rfl) (by first | exact isRf_r | exact isRf_n | exact isRf_o | assumption) ?_
  refine g_iload_n dX4_isReached_32 (by rfl) ?_
  refine g_iconst (v := 1) dX4_isReached_33 (by decide) ?_
  refine g_iadd dX4_isReached_34 ?_
  rw [nI_1]
  refine g_cV1x dX4_isReached_35 lX4_26 vX4_lotBehind (ct_X4_lotBehind X pa0 pd (j := depth + 1) (by omega)) (by first | assumption | (repeat' (first | assumption | exact hu_same | exact Ne.symm (by assumption) | apply hu_n1))) rfl ⟨Nat.le_of_ble_eq_true rfl, Nat.le_of_ble_eq_true rfl⟩ (Nat.le_of_ble_eq_true rfl) ⟨Nat.le_of_ble_eq_true rfl, Nat.le_of_ble_eq_true rfl⟩ ?_
  refine g_astore (L1 := [(0, _), (1, _), (2, _), (3, _), (4, _), (5, _), (6, _)]) dX4_isReached_38 (by first | exact isRf_r | exact isRf_n | exact isRf_o | assumption) (by decide) (by rfl) ?_
  refine g_iconst (v := 0) dX4_isReached_40 (by decide) ?_
  refine g_istore (L1 := [(0, _), (1, _), (2, _), (3, _), (4, _), (5, _), (6, _), (7, _)]) dX4_isReached_41 (by decide) (by rfl) ?_
  have loop43 : ∀ i, i ≤ nv → ∀ (h1 : Hp) (path1 : Nat → Int32) (xs1 : Nat → Nat → Int32), HouseAt X h1 B t → h1 pa = some (oI X 4 (nr 4 path1)) → (∀ j, j < depth → path1 j = path j) → (∀ k, k < 5 → LotAt X h1 (D k 0) (D k 1) (D k 2) (xs1 k)) → (∀ k, k ≤ depth → xs1 k = xs k) → (∀ q, outA B q → q ≠ pa → (∀ k i, depth < k → k < 5 → i < 3 → q ≠ D k i) → h1 q = h q) → fstV (fun v => cond (decide (0 < vt r v 2)) (rch l x 2 (dyeR r l v)) none) i (nv - i) = rch l x 3 r → G X RX4 cX4_isReached 12 (some .boolean) "isReached" (Rm 6 0 0) (Fm X (PlPost X h pa D path B t xs depth 3 (rch l x 3 r)) 0 0) 0 0 43 [(0, .ref a), (1, .ref (B 0)), (2, .ref oa), (3, .int (nI depth)), (4, .int (nI (depth + 3))), (5, .ref (D depth 0)), (6, .ref (D (depth + 1) 0)), (7, .int (nI i))] [] h1 := by
    refine up_ind nv (fun i hi ih => ?_)
    intro h1 path1 xs1 kB kp kpj kL kx kF kR
    obtain ⟨c0, c1, c2, c3, c4, c5, c6, cv, cq, co⟩ := id kB
    unfold hobC at c0
    rw [t7] at c0
    have cSet : SetAt X h1 (B 6) (B 7) r := c6.ext (fun j hj => ag1 j (by omega))
    have c60 := c6.1
    have q0 : h1 a = _ := (kF a sa (Ne.symm sp3) (fun k i2 _ hk hi2 => Ne.symm (sN k i2 hk hi2).2.2.2.1)).trans pa0
    have q1 : h1 dp = _ := (kF dp sdp (Ne.symm sp4) (fun k i2 _ hk hi2 => Ne.symm (sN k i2 hk hi2).2.2.2.2)).trans pd
    have qd : LotAt X h1 (D depth 0) (D depth 1) (D depth 2) (ltx r l) := (kL depth (by omega)).ext (fun j hj => by rw [kx depth (Nat.le_refl _)]; exact hx0 j hj)
    have qX : OrdAt X h1 oa os x := hX.kept (kF oa soa (Ne.symm sp2) (fun k i2 _ hk hi2 => Ne.symm (sN k i2 hk hi2).2.2.1)) (kF os sos (Ne.symm sp1) (fun k i2 _ hk hi2 => Ne.symm (sN k i2 hk hi2).2.1))
    refine g_iload dX4_isReached_43 (by rfl) ?_
    refine g_aload_n dX4_isReached_45 (by rfl) (by first | exact isRf_r | exact isRf_n | exact isRf_o | assumption) ?_
    refine g_getf dX4_isReached_46 fX4_50 (by first | assumption | (repeat' (first | assumption | exact hu_same | exact Ne.symm (by assumption) | apply hu_n1))) (by rfl) ?_
    refine g_icmp_ge (tgt := 164) dX4_isReached_49 (by decide) (fun c3 => ?_) (fun c3 => ?_)
    · skip
      have hie : i = nv := Nat.le_antisymm hi (c_ge (by omega) (by omega) c3)
      refine g_iconst (v := 0) dX4_isReached_164 (by decide) ?_
      refine g_zret dX4_isReached_165 rfl (by decide) (Nat.le_refl _) (Nat.le_refl _) ?_
      have eR : rch l x 3 r = none := by
        rw [← kR, hie, Nat.sub_self]
        rfl
      rw [eR]
      exact ⟨rfl, kB, ⟨path1, kp, kpj, fun p e => nomatch e⟩, ⟨xs1, kL, kx⟩, kF⟩
    · skip
      have hlt : i < nv := c_nge (by omega) (by omega) c3
      refine g_aload dX4_isReached_52 (by rfl) (by first | exact isRf_r | exact isRf_n | exact isRf_o | assumption) ?_
      refine g_ifnull (tgt := 164) dX4_isReached_54 (by decide) (by first | exact isRf_r | exact isRf_n | exact isRf_o | assumption) (fun c4 => nomatch c4) (fun c4 => ?_)
      refine g_aload_n dX4_isReached_57 (by rfl) (by first | exact isRf_r | exact isRf_n | exact isRf_o | assumption) ?_
      refine g_iload dX4_isReached_58 (by rfl) ?_
      refine g_cV1x dX4_isReached_60 lX4_54 vX1_findVat (ct_findVat X (by omega) c0 c1 hlt (vaR_j (by omega))) (by first | assumption | (repeat' (first | assumption | exact hu_same | exact Ne.symm (by assumption) | apply hu_n1))) rfl ⟨Nat.le_of_ble_eq_true rfl, Nat.le_of_ble_eq_true rfl⟩ (Nat.le_of_ble_eq_true rfl) ⟨Nat.le_of_ble_eq_true rfl, Nat.le_of_ble_eq_true rfl⟩ ?_
      have cvi : VatAt h1 (B (8 + i)) (vt r i) := (cv i (by omega)).ext (fun j hj => ag2 _ (by omega) (by omega))
      have cvi0 := cvi
      unfold VatAt at cvi0
      refine g_astore (L1 := [(0, _), (1, _), (2, _), (3, _), (4, _), (5, _), (6, _), (7, _), (8, _)]) dX4_isReached_63 (by first | exact isRf_r | exact isRf_n | exact isRf_o | assumption) (by decide) (by rfl) ?_
      refine g_aload dX4_isReached_65 (by rfl) (by first | exact isRf_r | exact isRf_n | exact isRf_o | assumption) ?_
      refine g_ifnull (tgt := 158) dX4_isReached_67 (by decide) (by first | exact isRf_r | exact isRf_n | exact isRf_o | assumption) (fun c5 => nomatch c5) (fun c5 => ?_)
      refine g_aload dX4_isReached_70 (by rfl) (by first | exact isRf_r | exact isRf_n | exact isRf_o | assumption) ?_
      refine g_getf dX4_isReached_72 fX4_58 (by first | assumption | (repeat' (first | assumption | exact hu_same | exact Ne.symm (by assumption) | apply hu_n1))) (by rfl) ?_
      refine g_if_gt (tgt := 81) dX4_isReached_75 (by decide) (fun c6 => ?_) (fun c6 => ?_)
      · skip
        have hgr := c6
        refine g_aload dX4_isReached_81 (by rfl) (by first | exact isRf_r | exact isRf_n | exact isRf_o | assumption) ?_
        refine g_getf dX4_isReached_83 fX4_58 (by first | assumption | (repeat' (first | assumption | exact hu_same | exact Ne.symm (by assumption) | apply hu_n1))) (by rfl) ?_
        refine g_istore (L1 := [(0, _), (1, _), (2, _), (3, _), (4, _), (5, _), (6, _), (7, _), (8, _), (9, _)]) dX4_isReached_86 (by decide) (by rfl) ?_
        refine g_aload dX4_isReached_88 (by rfl) (by first | exact isRf_r | exact isRf_n | exact isRf_o | assumption) ?_
        refine g_getf dX4_isReached_90 fX4_63 (by first | assumption | (repeat' (first | assumption | exact hu_same | exact Ne.symm (by assumption) | apply hu_n1))) (by rfl) ?_
        refine g_istore (L1 := [(0, _), (1, _), (2, _), (3, _), (4, _), (5, _), (6, _), (7, _), (8, _), (9, _), (10, _)]) dX4_isReached_93 (by decide) (by rfl) ?_
        refine g_aload dX4_isReached_95 (by rfl) (by first | exact isRf_r | exact isRf_n | exact isRf_o | assumption) ?_
        refine g_aload dX4_isReached_97 (by rfl) (by first | exact isRf_r | exact isRf_n | exact isRf_o | assumption) ?_
        have qn := (kL (depth + 1) (by omega)).1
        unfold lotC at qn
        refine g_cV1 dX4_isReached_99 lX4_30 vX2_copyFrom (ct_X2_copyFrom X (kL (depth + 1) (by omega)) qd hlo.b10 hlo.2.2.2.2.2.1 hlo.b12 (fun e => absurd (sI2 _ _ _ _ (by omega) (by omega) (by omega) (by omega) e) (by omega)) (fun e => absurd (sI2 _ _ _ _ (by omega) (by omega) (by omega) (by omega) e) (by omega)) (fun e => absurd (sI2 _ _ _ _ (by omega) (by omega) (by omega) (by omega) e) (by omega)) (fun e => absurd (sI2 _ _ _ _ (by omega) (by omega) (by omega) (by omega) e) (by omega)) (fun e => absurd (sI2 _ _ _ _ (by omega) (by omega) (by omega) (by omega) e) (by omega)) (fun e => absurd (sI2 _ _ _ _ (by omega) (by omega) (by omega) (by omega) e) (by omega))) (by first | assumption | (repeat' (first | assumption | exact hu_same | exact Ne.symm (by assumption) | apply hu_n1))) rfl ⟨Nat.le_of_ble_eq_true rfl, Nat.le_of_ble_eq_true rfl⟩ (Nat.le_of_ble_eq_true rfl) ⟨Nat.le_of_ble_eq_true rfl, Nat.le_of_ble_eq_true rfl⟩ ?_
        rintro _ h2 ⟨rfl, kn, kf2⟩
        refine g_stk (st' := []) rfl ?_
        have kn0 := kn.1
        unfold lotC at kn0
        have o2 : ∀ q, outA B q → (∀ i2, i2 < 3 → q ≠ D (depth + 1) i2) → h2 q = h1 q := fun q _ z => kf2 q (z 0 (by omega)) (z 1 (by omega)) (z 2 (by omega))
        have oB2 : ∀ j, j < 194 → h2 (B j) = h1 (B j) := fun j hj => kf2 _ (Ne.symm (sD (depth + 1) 0 (by omega) (by omega) j hj)) (Ne.symm (sD (depth + 1) 1 (by omega) (by omega) j hj)) (Ne.symm (sD (depth + 1) 2 (by omega) (by omega) j hj))
        have B2 : HouseAt X h2 B t := kB.kept oB2
        have d60 := B2.2.2.2.2.2.2.1.1
        have d0 := B2.1
        unfold hobC at d0
        have v2 : VatAt h2 (B (8 + i)) (vt r i) := cvi.kept (oB2 _ (by omega))
        have S2 : SetAt X h2 (B 6) (B 7) r := cSet.kept (oB2 _ (by omega)) (oB2 _ (by omega))
        obtain ⟨⟨dd, hdd, edd⟩, -⟩ := id (hvok i hlt)
        refine g_aload dX4_isReached_102 (by rfl) (by first | exact isRf_r | exact isRf_n | exact isRf_o | assumption) ?_
        refine g_aload dX4_isReached_104 (by rfl) (by first | exact isRf_r | exact isRf_n | exact isRf_o | assumption) ?_
        refine g_aload_n dX4_isReached_106 (by rfl) (by first | exact isRf_r | exact isRf_n | exact isRf_o | assumption) ?_
        refine g_getf dX4_isReached_107 fX4_38 (by first | assumption | (repeat' (first | assumption | exact hu_same | exact Ne.symm (by assumption) | apply hu_n1))) (by rfl) ?_
        refine g_cV2 dX4_isReached_110 lX4_66 vX2_soakIn (ct_X2_soakIn X (t := tkR r l i) (d := dd) rfl (dok_of hset (hvok i hlt) hlo) hdd edd kn v2 S2 (fun e => absurd (sI2 _ _ _ _ (by omega) (by omega) (by omega) (by omega) e) (by omega))) (by first | assumption | (repeat' (first | assumption | exact hu_same | exact Ne.symm (by assumption) | apply hu_n1))) rfl ⟨Nat.le_of_ble_eq_true rfl, Nat.le_of_ble_eq_true rfl⟩ (Nat.le_of_ble_eq_true rfl) ⟨Nat.le_of_ble_eq_true rfl, Nat.le_of_ble_eq_true rfl⟩ ?_
        rintro _ h3 ⟨rfl, ⟨x2, hx2, kl⟩, kv, kf3⟩
        refine g_stk (st' := [.int (tkR r l i)]) rfl ?_
        have o3 : ∀ q, outA B q → (∀ i2, i2 < 3 → q ≠ D (depth + 1) i2) → h3 q = h1 q := fun q q1 z => (kf3 q (z 0 (by omega)) (z 1 (by omega)) (z 2 (by omega)) (q1 _ (by omega))).trans (o2 q q1 z)
        have B3 : HouseAt X h3 B (rowV t i (soakY (ltx r l) (vt r i) r (tkR r l i))) := HouseAt.vatB sI B2 (by omega) kv (fun j hj hn => kf3 _ (Ne.symm (sD (depth + 1) 0 (by omega) (by omega) j hj)) (Ne.symm (sD (depth + 1) 1 (by omega) (by omega) j hj)) (Ne.symm (sD (depth + 1) 2 (by omega) (by omega) j hj)) (sI.ne hj (by omega) hn)) (fun j hj => (rowV_in hj).symm) (fun p _ hp => (rowV_out hp).symm)
        have p3 : h3 pa = some (oI X 4 (nr 4 path1)) := (o3 pa spa (fun i2 h2 => Ne.symm (sN (depth + 1) i2 (by omega) h2).1)).trans kp
        have q03 : h3 a = _ := (o3 a sa (fun i2 h2 => Ne.symm (sN (depth + 1) i2 (by omega) h2).2.2.2.1)).trans q0
        refine g_pop dX4_isReached_113 (by rfl) ?_
        refine g_aload_n dX4_isReached_114 (by rfl) (by first | exact isRf_r | exact isRf_n | exact isRf_o | assumption) ?_
        refine g_getf dX4_isReached_115 fX4_15 (by first | assumption | (repeat' (first | assumption | exact hu_same | exact Ne.symm (by assumption) | apply hu_n1))) (by rfl) ?_
        refine g_iload_n dX4_isReached_118 (by rfl) ?_
        refine g_iload dX4_isReached_119 (by rfl) ?_
        refine g_cN3v dX4_isReached_121 lX4_70 vX9_putAt (ct_X9_putAt X (N := 4) (j := depth) (by omega) (by omega) p3) ⟨Nat.le_of_ble_eq_true rfl, Nat.le_of_ble_eq_true rfl⟩ (Nat.le_of_ble_eq_true rfl) ⟨Nat.le_of_ble_eq_true rfl, Nat.le_of_ble_eq_true rfl⟩ ?_
        refine g_gen (fun h4 e4 => ?_)
        have o4 : ∀ q, outA B q → q ≠ pa → (∀ i2, i2 < 3 → q ≠ D (depth + 1) i2) → h4 q = h1 q := fun q q1 q2 z => by
          rw [e4, hu_ne q2]
          exact o3 q q1 z
        have B4 : HouseAt X h4 B (rowV t i (soakY (ltx r l) (vt r i) r (tkR r l i))) := B3.kept (fun j hj => by rw [e4, hu_ne (Ne.symm (spa j hj))])
        have p4 : h4 pa = some (oI X 4 (nr 4 (upd path1 depth (nI i)))) := by rw [e4, hu_same, nr_up (by omega)]
        have kl4 : LotAt X h4 (D (depth + 1) 0) (D (depth + 1) 1) (D (depth + 1) 2) x2 := kl.kept (by rw [e4, hu_ne (sN (depth + 1) 0 (by omega) (by omega)).1]) (by rw [e4, hu_ne (sN (depth + 1) 1 (by omega) (by omega)).1]) (by rw [e4, hu_ne (sN (depth + 1) 2 (by omega) (by omega)).1])
        have D4 : ∀ k i2, k < 5 → i2 < 3 → k ≠ depth + 1 → h4 (D k i2) = h1 (D k i2) := fun k i2 hk hi2 hn => o4 _ (sD k i2 hk hi2) (sN k i2 hk hi2).1 (fun i3 hi3 e => hn (sI2 _ _ _ _ hk hi2 (by omega) hi3 e).1)
        have L4 : ∀ k, k < 5 → LotAt X h4 (D k 0) (D k 1) (D k 2) ((fun k => if k = depth + 1 then x2 else xs1 k) k) := fun k hk => by
          by_cases z : k = depth + 1
          · subst z
            show LotAt X h4 _ _ _ (if depth + 1 = depth + 1 then x2 else xs1 (depth + 1))
            rw [if_pos rfl]
            exact kl4
          · show LotAt X h4 _ _ _ (if k = depth + 1 then x2 else xs1 k)
            rw [if_neg z]
            exact (kL k hk).kept (D4 k 0 hk (by omega) z) (D4 k 1 hk (by omega) z) (D4 k 2 hk (by omega) z)
        have X4 : OrdAt X h4 oa os x := qX.kept (o4 oa soa (Ne.symm sp2) (fun i2 h2 => Ne.symm (sN (depth + 1) i2 (by omega) h2).2.2.1)) (o4 os sos (Ne.symm sp1) (fun i2 h2 => Ne.symm (sN (depth + 1) i2 (by omega) h2).2.1))
        have q04 : h4 a = _ := (o4 a sa (Ne.symm sp3) (fun i2 h2 => Ne.symm (sN (depth + 1) i2 (by omega) h2).2.2.2.1)).trans q0
        have q14 : h4 dp = _ := (o4 dp sdp (Ne.symm sp4) (fun i2 h2 => Ne.symm (sN (depth + 1) i2 (by omega) h2).2.2.2.2)).trans q1
        have kOd : Ok (dyeR r l i) := Ok_dye hO hl (by omega) hlo (hvok i hlt)
        have ex2 : x2 = soakF (ltx r l) (vt r i) r (cl (vt r i 0)) (tkR r l i) := by
          rw [edd, cl_nI (by omega)]
          exact soak_f hx2
        have hP4 : PlPre X h4 a dp pa D (upd path1 depth (nI i)) B (rowV t i (soakY (ltx r l) (vt r i) r (tkR r l i))) (dyeR r l i) l oa os x (fun k => if k = depth + 1 then x2 else xs1 k) (depth + 1) := by
          refine ⟨q04, q14, p4, B4, L4, X4, kOd, hl, LOk_dye hO kOd hl hlo, fun j hj => ?_, fun p hp => ?_, fun p h19 h43 => dye_p h19 h43 (ag2 p h19 h43)⟩
          · show (if depth + 1 = depth + 1 then x2 else xs1 (depth + 1)) j = _
            rw [if_pos rfl, dye_ll hj, ex2]
          · rw [rowV_out (by omega), dye_lo (by omega) (by omega)]
            exact ag1 p hp
        refine g_aload_n dX4_isReached_124 (by rfl) (by first | exact isRf_r | exact isRf_n | exact isRf_o | assumption) ?_
        refine g_aload_n dX4_isReached_125 (by rfl) (by first | exact isRf_r | exact isRf_n | exact isRf_o | assumption) ?_
        refine g_aload_n dX4_isReached_126 (by rfl) (by first | exact isRf_r | exact isRf_n | exact isRf_o | assumption) ?_
        refine g_iload_n dX4_isReached_127 (by rfl) ?_
        refine g_iconst (v := 1) dX4_isReached_128 (by decide) ?_
        refine g_iadd dX4_isReached_129 ?_
        rw [nI_1]
        refine g_iload dX4_isReached_130 (by rfl) ?_
        refine g_cS5 dX4_isReached_132 lX4_34 rfl vX4_isReached (ct_isReached2 X hS0 hP4 (by omega)) ⟨Nat.le_of_ble_eq_true rfl, Nat.le_of_ble_eq_true rfl⟩ (Nat.le_of_ble_eq_true rfl) ⟨Nat.le_of_ble_eq_true rfl, Nat.le_of_ble_eq_true rfl⟩ ?_
        rintro _ h5 ⟨rfl, kB5, ⟨path5, kp5, kpj5, kpr5⟩, ⟨xs5, kL5, kx5⟩, kF5⟩
        refine g_stk (st' := [.int (bI (rch l x 2 (dyeR r l i)).isSome)]) rfl ?_
        have v5 := kB5.2.2.2.2.2.2.2.1 i (by omega)
        unfold VatAt at v5
        refine g_istore (L1 := [(0, _), (1, _), (2, _), (3, _), (4, _), (5, _), (6, _), (7, _), (8, _), (9, _), (10, _), (11, _)]) dX4_isReached_135 (by decide) (by rfl) ?_
        refine g_aload dX4_isReached_137 (by rfl) (by first | exact isRf_r | exact isRf_n | exact isRf_o | assumption) ?_
        refine g_iload dX4_isReached_139 (by rfl) ?_
        refine g_putf (ty := .int) dX4_isReached_141 fX4_58 (by decide +kernel) (by rfl) (by rfl) (by first | assumption | (repeat' (first | assumption | exact hu_same | exact Ne.symm (by assumption) | apply hu_n1))) (by exact Nat.le_of_ble_eq_true rfl) ?_
        refine g_aload dX4_isReached_144 (by rfl) (by first | exact isRf_r | exact isRf_n | exact isRf_o | assumption) ?_
        refine g_iload dX4_isReached_146 (by rfl) ?_
        refine g_putf (ty := .int) dX4_isReached_148 fX4_63 (by decide +kernel) (by rfl) (by rfl) (by first | assumption | (repeat' (first | assumption | exact hu_same | exact Ne.symm (by assumption) | apply hu_n1))) (by exact Nat.le_of_ble_eq_true rfl) ?_
        refine g_gen (fun h7 e7h => ?_)
        have n7 : ∀ q, q ≠ B (8 + i) → h7 q = h5 q := fun q n => by
          rw [e7h]
          simp only [hu_ne n]
        have kB7 : HouseAt X h7 B t := by
          rw [e7h, hu_hu]
          exact HouseAt.vatU sI kB5 (by omega) (((rowV_in (by omega)).trans ((upd_n (by omega)).trans (upd_n (by omega)))).trans (ag2 (19 + 4 * i + 0) (by omega) (by omega)).symm) (((rowV_in (by omega)).trans ((upd_n (by omega)).trans (upd_n (by omega)))).trans (ag2 (19 + 4 * i + 1) (by omega) (by omega)).symm) (ag2 (19 + 4 * i + 2) (by omega) (by omega)).symm (ag2 (19 + 4 * i + 3) (by omega) (by omega)).symm (fun p hp h9 => rowV_out h9)
        have kp7 : h7 pa = _ := (n7 pa (spa _ (by omega))).trans kp5
        have kpj7 : ∀ j, j < depth → path5 j = path j := fun j hj => (kpj5 j (by omega)).trans ((upd_n (by omega)).trans (kpj j hj))
        have kL7 : ∀ k, k < 5 → LotAt X h7 (D k 0) (D k 1) (D k 2) (xs5 k) := fun k hk => (kL5 k hk).kept (n7 _ (sD k 0 hk (by omega) _ (by omega))) (n7 _ (sD k 1 hk (by omega) _ (by omega))) (n7 _ (sD k 2 hk (by omega) _ (by omega)))
        have kx7 : ∀ k, k ≤ depth → xs5 k = xs k := fun k hk => (kx5 k (by omega)).trans ((if_neg (by omega)).trans (kx k hk))
        have kF7 : ∀ q, outA B q → q ≠ pa → (∀ k i, depth < k → k < 5 → i < 3 → q ≠ D k i) → h7 q = h q := fun q q1 q2 q3 => (n7 q (q1 _ (by omega))).trans ((kF5 q q1 q2 (fun k i2 h1 h2 h3 => q3 k i2 (by omega) h2 h3)).trans ((o4 q q1 q2 (fun i2 h2 => q3 (depth + 1) i2 (by omega) (by omega) h2)).trans (kF q q1 q2 q3)))
        refine g_iload dX4_isReached_151 (by rfl) ?_
        refine g_if_eq (tgt := 158) dX4_isReached_153 (by decide) (fun c7 => ?_) (fun c7 => ?_)
        · skip
          have hnone : (fun v => cond (decide (0 < vt r v 2)) (rch l x 2 (dyeR r l v)) none) i = none := by
            show cond (decide (0 < vt r i 2)) _ _ = _
            rw [decide_eq_true hgr]
            show rch l x 2 (dyeR r l i) = none
            exact Option.not_isSome_iff_eq_none.mp (by rw [bI_0 c7]; decide)
          refine g_iinc (v := nI (i + 1)) (L1 := [(0, _), (1, _), (2, _), (3, _), (4, _), (5, _), (6, _), (7, _), (8, _), (9, _), (10, _), (11, _)]) dX4_isReached_158 (by rfl) (nI_1 i) (by decide) (by rfl) ?_
          refine g_goto (tgt := 43) dX4_isReached_161 (by decide) ?_
          refine g_pick [0, 1, 2, 3, 4, 5, 6, 7] rfl ?_
          first
            | exact ih hlt h1 path1 xs1 kB kp kpj kL kx kF (by rw [← kR, show nv - i = (nv - (i + 1)) + 1 by omega, fst_n hnone])
            | exact ih hlt _ _ _ kB7 kp7 kpj7 kL7 kx7 kF7 (by rw [← kR, show nv - i = (nv - (i + 1)) + 1 by omega, fst_n hnone])
        · skip
          obtain ⟨p5, ep5⟩ := Option.isSome_iff_exists.mp (bI_1 c7)
          have hsome : (fun v => cond (decide (0 < vt r v 2)) (rch l x 2 (dyeR r l v)) none) i = some p5 := by
            show cond (decide (0 < vt r i 2)) _ _ = _
            rw [decide_eq_true hgr]
            exact ep5
          have eR : rch l x 3 r = some (i :: p5) := by rw [← kR, show nv - i = (nv - (i + 1)) + 1 by omega, fst_s hsome]
          refine g_iconst (v := 1) dX4_isReached_156 (by decide) ?_
          refine g_zret dX4_isReached_157 rfl (by decide) (Nat.le_refl _) (Nat.le_refl _) ?_
          rw [eR]
          refine ⟨rfl, kB7, ⟨path5, kp7, kpj7, fun p e => ?_⟩, ⟨xs5, kL7, kx7⟩, kF7⟩
          cases e
          obtain ⟨g1, g2⟩ := kpr5 p5 ep5
          refine ⟨by rw [List.length_cons, g1], fun i2 hi2 => ?_⟩
          cases i2 with
          | zero => exact (kpj5 depth (by omega)).trans upd_s
          | succ s =>
            have z := g2 s (by omega)
            rw [show depth + (s + 1) = depth + 1 + s by omega, z]
            rfl
      · skip
        have hnone : (fun v => cond (decide (0 < vt r v 2)) (rch l x 2 (dyeR r l v)) none) i = none := by
          show cond (decide (0 < vt r i 2)) _ _ = _
          rw [decide_eq_false c6]
          rfl
        refine g_goto (tgt := 158) dX4_isReached_78 (by decide) ?_
        refine g_iinc (v := nI (i + 1)) (L1 := [(0, _), (1, _), (2, _), (3, _), (4, _), (5, _), (6, _), (7, _), (8, _)]) dX4_isReached_158 (by rfl) (nI_1 i) (by decide) (by rfl) ?_
        refine g_goto (tgt := 43) dX4_isReached_161 (by decide) ?_
        refine g_pick [0, 1, 2, 3, 4, 5, 6, 7] rfl ?_
        first
          | exact ih hlt h1 path1 xs1 kB kp kpj kL kx kF (by rw [← kR, show nv - i = (nv - (i + 1)) + 1 by omega, fst_n hnone])
          | exact ih hlt _ _ _ kB7 kp7 kpj7 kL7 kx7 kF7 (by rw [← kR, show nv - i = (nv - (i + 1)) + 1 by omega, fst_n hnone])
  exact loop43 0 (by omega) h path xs hB pp (fun j _ => rfl) hL (fun k _ => rfl) (fun q _ _ _ => rfl) (by show fstV _ 0 (nv - 0) = fstV _ 0 (cl (r 7)); rw [e7, cl_nI (by omega)]; rfl)

set_option maxHeartbeats 8000000 in
set_option maxRecDepth 100000 in
theorem ct_isReached4 (X : Cx) {h : Hp} {a dp pa l oa os depth : Nat} {D : Nat → Nat → Nat} {path : Nat → Int32} {B : Nat → Nat} {t r x : Nat → Int32} {xs : Nat → Nat → Int32}  (hS : PlSep a dp pa D B oa os) (hP : PlPre X h a dp pa D path B t r l oa os x xs depth) (hdep : depth + 4 ≤ 4) : Ct X mX4_isReached 7 0 0 [.ref a, .ref (B 0), .ref oa, .int (nI depth), .int (nI (depth + 4))] h (PlPost X h pa D path B t xs depth 4 (rch l x 4 r)) := by
  obtain ⟨pa0, pd, pp, hB, hL, hX, hO, hl, hlo, hx0, ag1, ag2⟩ := hP
  have hP := True.intro
  obtain ⟨sI, sD, ⟨sa, sdp, spa, soa, sos⟩, sI2, sN, sp1, sp2, sp3, sp4⟩ := hS
  have hS0 : PlSep a dp pa D B oa os := ⟨sI, sD, ⟨sa, sdp, spa, soa, sos⟩, sI2, sN, sp1, sp2, sp3, sp4⟩
  obtain ⟨b0, b1, b2, b3, b4, b5, b6, bv, bl, bo⟩ := id hB
  unfold hobC at b0
  have hSet : SetAt X h (B 6) (B 7) r := b6.ext (fun j hj => ag1 j (by omega))
  have b60 := b6.1
  have hLd : LotAt X h (D depth 0) (D depth 1) (D depth 2) (ltx r l) := (hL depth (by omega)).ext hx0
  obtain ⟨nv, nl, no, hnv, hnl, hno, e7, e8, e9, hset, hvok, -⟩ := id hO
  have t7 : t 7 = nI nv := (ag1 7 (by omega)).trans e7
  rw [t7] at b0
  refine Ct.ofG vX4_isReached.1.2.2.1 (Nat.le_of_ble_eq_true rfl) ?_
  show G X RX4 cX4_isReached 12 (some .boolean) "isReached" (Rm 7 0 0) (Fm X (PlPost X h pa D path B t xs depth 4 (rch l x 4 r)) 0 0) 0 0 0 [(0, .ref a), (1, .ref (B 0)), (2, .ref oa), (3, .int (nI depth)), (4, .int (nI (depth + 4)))] [] h
  refine g_aload_n dX4_isReached_0 (by rfl) (by first | exact isRf_r | exact isRf_n | exact isRf_o | assumption) ?_
  refine g_iload_n dX4_isReached_1 (by rfl) ?_
  refine g_cV1x dX4_isReached_2 lX4_26 vX4_lotBehind (ct_X4_lotBehind X pa0 pd (j := depth) (by omega)) (by first | assumption | (repeat' (first | assumption | exact hu_same | exact Ne.symm (by assumption) | apply hu_n1))) rfl ⟨Nat.le_of_ble_eq_true rfl, Nat.le_of_ble_eq_true rfl⟩ (Nat.le_of_ble_eq_true rfl) ⟨Nat.le_of_ble_eq_true rfl, Nat.le_of_ble_eq_true rfl⟩ ?_
  refine g_astore (L1 := [(0, _), (1, _), (2, _), (3, _), (4, _), (5, _)]) dX4_isReached_5 (by first | exact isRf_r | exact isRf_n | exact isRf_o | assumption) (by decide) (by rfl) ?_
  refine g_aload dX4_isReached_7 (by rfl) (by first | exact isRf_r | exact isRf_n | exact isRf_o | assumption) ?_
  refine g_ifnonnull (tgt := 14) dX4_isReached_9 (by decide) (by first | exact isRf_r | exact isRf_n | exact isRf_o | assumption) (fun c1 => ?_) (fun c1 => nomatch c1)
  refine g_iload_n dX4_isReached_14 (by rfl) ?_
  refine g_iload dX4_isReached_15 (by rfl) ?_
  refine g_icmp_lt (tgt := 31) dX4_isReached_17 (by decide) (fun c2 => ?_) (fun c2 => absurd (nI_lt (show depth < depth + 4 by omega) (by omega)) c2)
  refine g_aload_n dX4_isReached_31 (by rfl) (by first | exact isRf_r | exact isRf_n | exact isRf_o | assumption) ?_
  refine g_iload_n dX4_isReached_32 (by rfl) ?_
  refine g_iconst (v := 1) dX4_isReached_33 (by decide) ?_
  refine g_iadd dX4_isReached_34 ?_
  rw [nI_1]
  refine g_cV1x dX4_isReached_35 lX4_26 vX4_lotBehind (ct_X4_lotBehind X pa0 pd (j := depth + 1) (by omega)) (by first | assumption | (repeat' (first | assumption | exact hu_same | exact Ne.symm (by assumption) | apply hu_n1))) rfl ⟨Nat.le_of_ble_eq_true rfl, Nat.le_of_ble_eq_true rfl⟩ (Nat.le_of_ble_eq_true rfl) ⟨Nat.le_of_ble_eq_true rfl, Nat.le_of_ble_eq_true rfl⟩ ?_
  refine g_astore (L1 := [(0, _), (1, _), (2, _), (3, _), (4, _), (5, _), (6, _)]) dX4_isReached_38 (by first | exact isRf_r | exact isRf_n | exact isRf_o | assumption) (by decide) (by rfl) ?_
  refine g_iconst (v := 0) dX4_isReached_40 (by decide) ?_
  refine g_istore (L1 := [(0, _), (1, _), (2, _), (3, _), (4, _), (5, _), (6, _), (7, _)]) dX4_isReached_41 (by decide) (by rfl) ?_
  have loop43 : ∀ i, i ≤ nv → ∀ (h1 : Hp) (path1 : Nat → Int32) (xs1 : Nat → Nat → Int32), HouseAt X h1 B t → h1 pa = some (oI X 4 (nr 4 path1)) → (∀ j, j < depth → path1 j = path j) → (∀ k, k < 5 → LotAt X h1 (D k 0) (D k 1) (D k 2) (xs1 k)) → (∀ k, k ≤ depth → xs1 k = xs k) → (∀ q, outA B q → q ≠ pa → (∀ k i, depth < k → k < 5 → i < 3 → q ≠ D k i) → h1 q = h q) → fstV (fun v => cond (decide (0 < vt r v 2)) (rch l x 3 (dyeR r l v)) none) i (nv - i) = rch l x 4 r → G X RX4 cX4_isReached 12 (some .boolean) "isReached" (Rm 7 0 0) (Fm X (PlPost X h pa D path B t xs depth 4 (rch l x 4 r)) 0 0) 0 0 43 [(0, .ref a), (1, .ref (B 0)), (2, .ref oa), (3, .int (nI depth)), (4, .int (nI (depth + 4))), (5, .ref (D depth 0)), (6, .ref (D (depth + 1) 0)), (7, .int (nI i))] [] h1 := by
    refine up_ind nv (fun i hi ih => ?_)
    intro h1 path1 xs1 kB kp kpj kL kx kF kR
    obtain ⟨c0, c1, c2, c3, c4, c5, c6, cv, cq, co⟩ := id kB
    unfold hobC at c0
    rw [t7] at c0
    have cSet : SetAt X h1 (B 6) (B 7) r := c6.ext (fun j hj => ag1 j (by omega))
    have c60 := c6.1
    have q0 : h1 a = _ := (kF a sa (Ne.symm sp3) (fun k i2 _ hk hi2 => Ne.symm (sN k i2 hk hi2).2.2.2.1)).trans pa0
    have q1 : h1 dp = _ := (kF dp sdp (Ne.symm sp4) (fun k i2 _ hk hi2 => Ne.symm (sN k i2 hk hi2).2.2.2.2)).trans pd
    have qd : LotAt X h1 (D depth 0) (D depth 1) (D depth 2) (ltx r l) := (kL depth (by omega)).ext (fun j hj => by rw [kx depth (Nat.le_refl _)]; exact hx0 j hj)
    have qX : OrdAt X h1 oa os x := hX.kept (kF oa soa (Ne.symm sp2) (fun k i2 _ hk hi2 => Ne.symm (sN k i2 hk hi2).2.2.1)) (kF os sos (Ne.symm sp1) (fun k i2 _ hk hi2 => Ne.symm (sN k i2 hk hi2).2.1))
    refine g_iload dX4_isReached_43 (by rfl) ?_
    refine g_aload_n dX4_isReached_45 (by rfl) (by first | exact isRf_r | exact isRf_n | exact isRf_o | assumption) ?_
    refine g_getf dX4_isReached_46 fX4_50 (by first | assumption | (repeat' (first | assumption | exact hu_same | exact Ne.symm (by assumption) | apply hu_n1))) (by rfl) ?_
    refine g_icmp_ge (tgt := 164) dX4_isReached_49 (by decide) (fun c3 => ?_) (fun c3 => ?_)
    · skip
      have hie : i = nv := Nat.le_antisymm hi (c_ge (by omega) (by omega) c3)
      refine g_iconst (v := 0) dX4_isReached_164 (by decide) ?_
      refine g_zret dX4_isReached_165 rfl (by decide) (Nat.le_refl _) (Nat.le_refl _) ?_
      have eR : rch l x 4 r = none := by
        rw [← kR, hie, Nat.sub_self]
        rfl
      rw [eR]
      exact ⟨rfl, kB, ⟨path1, kp, kpj, fun p e => nomatch e⟩, ⟨xs1, kL, kx⟩, kF⟩
    · skip
      have hlt : i < nv := c_nge (by omega) (by omega) c3
      refine g_aload dX4_isReached_52 (by rfl) (by first | exact isRf_r | exact isRf_n | exact isRf_o | assumption) ?_
      refine g_ifnull (tgt := 164) dX4_isReached_54 (by decide) (by first | exact isRf_r | exact isRf_n | exact isRf_o | assumption) (fun c4 => nomatch c4) (fun c4 => ?_)
      refine g_aload_n dX4_isReached_57 (by rfl) (by first | exact isRf_r | exact isRf_n | exact isRf_o | assumption) ?_
      refine g_iload dX4_isReached_58 (by rfl) ?_
      refine g_cV1x dX4_isReached_60 lX4_54 vX1_findVat (ct_findVat X (by omega) c0 c1 hlt (vaR_j (by omega))) (by first | assumption | (repeat' (first | assumption | exact hu_same | exact Ne.symm (by assumption) | apply hu_n1))) rfl ⟨Nat.le_of_ble_eq_true rfl, Nat.le_of_ble_eq_true rfl⟩ (Nat.le_of_ble_eq_true rfl) ⟨Nat.le_of_ble_eq_true rfl, Nat.le_of_ble_eq_true rfl⟩ ?_
      have cvi : VatAt h1 (B (8 + i)) (vt r i) := (cv i (by omega)).ext (fun j hj => ag2 _ (by omega) (by omega))
      have cvi0 := cvi
      unfold VatAt at cvi0
      refine g_astore (L1 := [(0, _), (1, _), (2, _), (3, _), (4, _), (5, _), (6, _), (7, _), (8, _)]) dX4_isReached_63 (by first | exact isRf_r | exact isRf_n | exact isRf_o | assumption) (by decide) (by rfl) ?_
      refine g_aload dX4_isReached_65 (by rfl) (by first | exact isRf_r | exact isRf_n | exact isRf_o | assumption) ?_
      refine g_ifnull (tgt := 158) dX4_isReached_67 (by decide) (by first | exact isRf_r | exact isRf_n | exact isRf_o | assumption) (fun c5 => nomatch c5) (fun c5 => ?_)
      refine g_aload dX4_isReached_70 (by rfl) (by first | exact isRf_r | exact isRf_n | exact isRf_o | assumption) ?_
      refine g_getf dX4_isReached_72 fX4_58 (by first | assumption | (repeat' (first | assumption | exact hu_same | exact Ne.symm (by assumption) | apply hu_n1))) (by rfl) ?_
      refine g_if_gt (tgt := 81) dX4_isReached_75 (by decide) (fun c6 => ?_) (fun c6 => ?_)
      · skip
        have hgr := c6
        refine g_aload dX4_isReached_81 (by rfl) (by first | exact isRf_r | exact isRf_n | exact isRf_o | assumption) ?_
        refine g_getf dX4_isReached_83 fX4_58 (by first | assumption | (repeat' (first | assumption | exact hu_same | exact Ne.symm (by assumption) | apply hu_n1))) (by rfl) ?_
        refine g_istore (L1 := [(0, _), (1, _), (2, _), (3, _), (4, _), (5, _), (6, _), (7, _), (8, _), (9, _)]) dX4_isReached_86 (by decide) (by rfl) ?_
        refine g_aload dX4_isReached_88 (by rfl) (by first | exact isRf_r | exact isRf_n | exact isRf_o | assumption) ?_
        refine g_getf dX4_isReached_90 fX4_63 (by first | assumption | (repeat' (first | assumption | exact hu_same | exact Ne.symm (by assumption) | apply hu_n1))) (by rfl) ?_
        refine g_istore (L1 := [(0, _), (1, _), (2, _), (3, _), (4, _), (5, _), (6, _), (7, _), (8, _), (9, _), (10, _)]) dX4_isReached_93 (by decide) (by rfl) ?_
        refine g_aload dX4_isReached_95 (by rfl) (by first | exact isRf_r | exact isRf_n | exact isRf_o | assumption) ?_
        refine g_aload dX4_isReached_97 (by rfl) (by first | exact isRf_r | exact isRf_n | exact isRf_o | assumption) ?_
        have qn := (kL (depth + 1) (by omega)).1
        unfold lotC at qn
        refine g_cV1 dX4_isReached_99 lX4_30 vX2_copyFrom (ct_X2_copyFrom X (kL (depth + 1) (by omega)) qd hlo.b10 hlo.2.2.2.2.2.1 hlo.b12 (fun e => absurd (sI2 _ _ _ _ (by omega) (by omega) (by omega) (by omega) e) (by omega)) (fun e => absurd (sI2 _ _ _ _ (by omega) (by omega) (by omega) (by omega) e) (by omega)) (fun e => absurd (sI2 _ _ _ _ (by omega) (by omega) (by omega) (by omega) e) (by omega)) (fun e => absurd (sI2 _ _ _ _ (by omega) (by omega) (by omega) (by omega) e) (by omega)) (fun e => absurd (sI2 _ _ _ _ (by omega) (by omega) (by omega) (by omega) e) (by omega)) (fun e => absurd (sI2 _ _ _ _ (by omega) (by omega) (by omega) (by omega) e) (by omega))) (by first | assumption | (repeat' (first | assumption | exact hu_same | exact Ne.symm (by assumption) | apply hu_n1))) rfl ⟨Nat.le_of_ble_eq_true rfl, Nat.le_of_ble_eq_true rfl⟩ (Nat.le_of_ble_eq_true rfl) ⟨Nat.le_of_ble_eq_true rfl, Nat.le_of_ble_eq_true rfl⟩ ?_
        rintro _ h2 ⟨rfl, kn, kf2⟩
        refine g_stk (st' := []) rfl ?_
        have kn0 := kn.1
        unfold lotC at kn0
        have o2 : ∀ q, outA B q → (∀ i2, i2 < 3 → q ≠ D (depth + 1) i2) → h2 q = h1 q := fun q _ z => kf2 q (z 0 (by omega)) (z 1 (by omega)) (z 2 (by omega))
        have oB2 : ∀ j, j < 194 → h2 (B j) = h1 (B j) := fun j hj => kf2 _ (Ne.symm (sD (depth + 1) 0 (by omega) (by omega) j hj)) (Ne.symm (sD (depth + 1) 1 (by omega) (by omega) j hj)) (Ne.symm (sD (depth + 1) 2 (by omega) (by omega) j hj))
        have B2 : HouseAt X h2 B t := kB.kept oB2
        have d60 := B2.2.2.2.2.2.2.1.1
        have d0 := B2.1
        unfold hobC at d0
        have v2 : VatAt h2 (B (8 + i)) (vt r i) := cvi.kept (oB2 _ (by omega))
        have S2 : SetAt X h2 (B 6) (B 7) r := cSet.kept (oB2 _ (by omega)) (oB2 _ (by omega))
        obtain ⟨⟨dd, hdd, edd⟩, -⟩ := id (hvok i hlt)
        refine g_aload dX4_isReached_102 (by rfl) (by first | exact isRf_r | exact isRf_n | exact isRf_o | assumption) ?_
        refine g_aload dX4_isReached_104 (by rfl) (by first | exact isRf_r | exact isRf_n | exact isRf_o | assumption) ?_
        refine g_aload_n dX4_isReached_106 (by rfl) (by first | exact isRf_r | exact isRf_n | exact isRf_o | assumption) ?_
        refine g_getf dX4_isReached_107 fX4_38 (by first | assumption | (repeat' (first | assumption | exact hu_same | exact Ne.symm (by assumption) | apply hu_n1))) (by rfl) ?_
        refine g_cV2 dX4_isReached_110 lX4_66 vX2_soakIn (ct_X2_soakIn X (t := tkR r l i) (d := dd) rfl (dok_of hset (hvok i hlt) hlo) hdd edd kn v2 S2 (fun e => absurd (sI2 _ _ _ _ (by omega) (by omega) (by omega) (by omega) e) (by omega))) (by first | assumption | (repeat' (first | assumption | exact hu_same | exact Ne.symm (by assumption) | apply hu_n1))) rfl ⟨Nat.le_of_ble_eq_true rfl, Nat.le_of_ble_eq_true rfl⟩ (Nat.le_of_ble_eq_true rfl) ⟨Nat.le_of_ble_eq_true rfl, Nat.le_of_ble_eq_true rfl⟩ ?_
        rintro _ h3 ⟨rfl, ⟨x2, hx2, kl⟩, kv, kf3⟩
        refine g_stk (st' := [.int (tkR r l i)]) rfl ?_
        have o3 : ∀ q, outA B q → (∀ i2, i2 < 3 → q ≠ D (depth + 1) i2) → h3 q = h1 q := fun q q1 z => (kf3 q (z 0 (by omega)) (z 1 (by omega)) (z 2 (by omega)) (q1 _ (by omega))).trans (o2 q q1 z)
        have B3 : HouseAt X h3 B (rowV t i (soakY (ltx r l) (vt r i) r (tkR r l i))) := HouseAt.vatB sI B2 (by omega) kv (fun j hj hn => kf3 _ (Ne.symm (sD (depth + 1) 0 (by omega) (by omega) j hj)) (Ne.symm (sD (depth + 1) 1 (by omega) (by omega) j hj)) (Ne.symm (sD (depth + 1) 2 (by omega) (by omega) j hj)) (sI.ne hj (by omega) hn)) (fun j hj => (rowV_in hj).symm) (fun p _ hp => (rowV_out hp).symm)
        have p3 : h3 pa = some (oI X 4 (nr 4 path1)) := (o3 pa spa (fun i2 h2 => Ne.symm (sN (depth + 1) i2 (by omega) h2).1)).trans kp
        have q03 : h3 a = _ := (o3 a sa (fun i2 h2 => Ne.symm (sN (depth + 1) i2 (by omega) h2).2.2.2.1)).trans q0
        refine g_pop dX4_isReached_113 (by rfl) ?_
        refine g_aload_n dX4_isReached_114 (by rfl) (by first | exact isRf_r | exact isRf_n | exact isRf_o | assumption) ?_
        refine g_getf dX4_isReached_115 fX4_15 (by first | assumption | (repeat' (first | assumption | exact hu_same | exact Ne.symm (by assumption) | apply hu_n1))) (by rfl) ?_
        refine g_iload_n dX4_isReached_118 (by rfl) ?_
        refine g_iload dX4_isReached_119 (by rfl) ?_
        refine g_cN3v dX4_isReached_121 lX4_70 vX9_putAt (ct_X9_putAt X (N := 4) (j := depth) (by omega) (by omega) p3) ⟨Nat.le_of_ble_eq_true rfl, Nat.le_of_ble_eq_true rfl⟩ (Nat.le_of_ble_eq_true rfl) ⟨Nat.le_of_ble_eq_true rfl, Nat.le_of_ble_eq_true rfl⟩ ?_
        refine g_gen (fun h4 e4 => ?_)
        have o4 : ∀ q, outA B q → q ≠ pa → (∀ i2, i2 < 3 → q ≠ D (depth + 1) i2) → h4 q = h1 q := fun q q1 q2 z => by
          rw [e4, hu_ne q2]
          exact o3 q q1 z
        have B4 : HouseAt X h4 B (rowV t i (soakY (ltx r l) (vt r i) r (tkR r l i))) := B3.kept (fun j hj => by rw [e4, hu_ne (Ne.symm (spa j hj))])
        have p4 : h4 pa = some (oI X 4 (nr 4 (upd path1 depth (nI i)))) := by rw [e4, hu_same, nr_up (by omega)]
        have kl4 : LotAt X h4 (D (depth + 1) 0) (D (depth + 1) 1) (D (depth + 1) 2) x2 := kl.kept (by rw [e4, hu_ne (sN (depth + 1) 0 (by omega) (by omega)).1]) (by rw [e4, hu_ne (sN (depth + 1) 1 (by omega) (by omega)).1]) (by rw [e4, hu_ne (sN (depth + 1) 2 (by omega) (by omega)).1])
        have D4 : ∀ k i2, k < 5 → i2 < 3 → k ≠ depth + 1 → h4 (D k i2) = h1 (D k i2) := fun k i2 hk hi2 hn => o4 _ (sD k i2 hk hi2) (sN k i2 hk hi2).1 (fun i3 hi3 e => hn (sI2 _ _ _ _ hk hi2 (by omega) hi3 e).1)
        have L4 : ∀ k, k < 5 → LotAt X h4 (D k 0) (D k 1) (D k 2) ((fun k => if k = depth + 1 then x2 else xs1 k) k) := fun k hk => by
          by_cases z : k = depth + 1
          · subst z
            show LotAt X h4 _ _ _ (if depth + 1 = depth + 1 then x2 else xs1 (depth + 1))
            rw [if_pos rfl]
            exact kl4
          · show LotAt X h4 _ _ _ (if k = depth + 1 then x2 else xs1 k)
            rw [if_neg z]
            exact (kL k hk).kept (D4 k 0 hk (by omega) z) (D4 k 1 hk (by omega) z) (D4 k 2 hk (by omega) z)
        have X4 : OrdAt X h4 oa os x := qX.kept (o4 oa soa (Ne.symm sp2) (fun i2 h2 => Ne.symm (sN (depth + 1) i2 (by omega) h2).2.2.1)) (o4 os sos (Ne.symm sp1) (fun i2 h2 => Ne.symm (sN (depth + 1) i2 (by omega) h2).2.1))
        have q04 : h4 a = _ := (o4 a sa (Ne.symm sp3) (fun i2 h2 => Ne.symm (sN (depth + 1) i2 (by omega) h2).2.2.2.1)).trans q0
        have q14 : h4 dp = _ := (o4 dp sdp (Ne.symm sp4) (fun i2 h2 => Ne.symm (sN (depth + 1) i2 (by omega) h2).2.2.2.2)).trans q1
        have kOd : Ok (dyeR r l i) := Ok_dye hO hl (by omega) hlo (hvok i hlt)
        have ex2 : x2 = soakF (ltx r l) (vt r i) r (cl (vt r i 0)) (tkR r l i) := by
          rw [edd, cl_nI (by omega)]
          exact soak_f hx2
        have hP4 : PlPre X h4 a dp pa D (upd path1 depth (nI i)) B (rowV t i (soakY (ltx r l) (vt r i) r (tkR r l i))) (dyeR r l i) l oa os x (fun k => if k = depth + 1 then x2 else xs1 k) (depth + 1) := by
          refine ⟨q04, q14, p4, B4, L4, X4, kOd, hl, LOk_dye hO kOd hl hlo, fun j hj => ?_, fun p hp => ?_, fun p h19 h43 => dye_p h19 h43 (ag2 p h19 h43)⟩
          · show (if depth + 1 = depth + 1 then x2 else xs1 (depth + 1)) j = _
            rw [if_pos rfl, dye_ll hj, ex2]
          · rw [rowV_out (by omega), dye_lo (by omega) (by omega)]
            exact ag1 p hp
        refine g_aload_n dX4_isReached_124 (by rfl) (by first | exact isRf_r | exact isRf_n | exact isRf_o | assumption) ?_
        refine g_aload_n dX4_isReached_125 (by rfl) (by first | exact isRf_r | exact isRf_n | exact isRf_o | assumption) ?_
        refine g_aload_n dX4_isReached_126 (by rfl) (by first | exact isRf_r | exact isRf_n | exact isRf_o | assumption) ?_
        refine g_iload_n dX4_isReached_127 (by rfl) ?_
        refine g_iconst (v := 1) dX4_isReached_128 (by decide) ?_
        refine g_iadd dX4_isReached_129 ?_
        rw [nI_1]
        refine g_iload dX4_isReached_130 (by rfl) ?_
        refine g_cS5 dX4_isReached_132 lX4_34 rfl vX4_isReached (ct_isReached3 X hS0 hP4 (by omega)) ⟨Nat.le_of_ble_eq_true rfl, Nat.le_of_ble_eq_true rfl⟩ (Nat.le_of_ble_eq_true rfl) ⟨Nat.le_of_ble_eq_true rfl, Nat.le_of_ble_eq_true rfl⟩ ?_
        rintro _ h5 ⟨rfl, kB5, ⟨path5, kp5, kpj5, kpr5⟩, ⟨xs5, kL5, kx5⟩, kF5⟩
        refine g_stk (st' := [.int (bI (rch l x 3 (dyeR r l i)).isSome)]) rfl ?_
        have v5 := kB5.2.2.2.2.2.2.2.1 i (by omega)
        unfold VatAt at v5
        refine g_istore (L1 := [(0, _), (1, _), (2, _), (3, _), (4, _), (5, _), (6, _), (7, _), (8, _), (9, _), (10, _), (11, _)]) dX4_isReached_135 (by decide) (by rfl) ?_
        refine g_aload dX4_isReached_137 (by rfl) (by first | exact isRf_r | exact isRf_n | exact isRf_o | assumption) ?_
        refine g_iload dX4_isReached_139 (by rfl) ?_
        refine g_putf (ty := .int) dX4_isReached_141 fX4_58 (by decide +kernel) (by rfl) (by rfl) (by first | assumption | (repeat' (first | assumption | exact hu_same | exact Ne.symm (by assumption) | apply hu_n1))) (by exact Nat.le_of_ble_eq_true rfl) ?_
        refine g_aload dX4_isReached_144 (by rfl) (by first | exact isRf_r | exact isRf_n | exact isRf_o | assumption) ?_
        refine g_iload dX4_isReached_146 (by rfl) ?_
        refine g_putf (ty := .int) dX4_isReached_148 fX4_63 (by decide +kernel) (by rfl) (by rfl) (by first | assumption | (repeat' (first | assumption | exact hu_same | exact Ne.symm (by assumption) | apply hu_n1))) (by exact Nat.le_of_ble_eq_true rfl) ?_
        refine g_gen (fun h7 e7h => ?_)
        have n7 : ∀ q, q ≠ B (8 + i) → h7 q = h5 q := fun q n => by
          rw [e7h]
          simp only [hu_ne n]
        have kB7 : HouseAt X h7 B t := by
          rw [e7h, hu_hu]
          exact HouseAt.vatU sI kB5 (by omega) (((rowV_in (by omega)).trans ((upd_n (by omega)).trans (upd_n (by omega)))).trans (ag2 (19 + 4 * i + 0) (by omega) (by omega)).symm) (((rowV_in (by omega)).trans ((upd_n (by omega)).trans (upd_n (by omega)))).trans (ag2 (19 + 4 * i + 1) (by omega) (by omega)).symm) (ag2 (19 + 4 * i + 2) (by omega) (by omega)).symm (ag2 (19 + 4 * i + 3) (by omega) (by omega)).symm (fun p hp h9 => rowV_out h9)
        have kp7 : h7 pa = _ := (n7 pa (spa _ (by omega))).trans kp5
        have kpj7 : ∀ j, j < depth → path5 j = path j := fun j hj => (kpj5 j (by omega)).trans ((upd_n (by omega)).trans (kpj j hj))
        have kL7 : ∀ k, k < 5 → LotAt X h7 (D k 0) (D k 1) (D k 2) (xs5 k) := fun k hk => (kL5 k hk).kept (n7 _ (sD k 0 hk (by omega) _ (by omega))) (n7 _ (sD k 1 hk (by omega) _ (by omega))) (n7 _ (sD k 2 hk (by omega) _ (by omega)))
        have kx7 : ∀ k, k ≤ depth → xs5 k = xs k := fun k hk => (kx5 k (by omega)).trans ((if_neg (by omega)).trans (kx k hk))
        have kF7 : ∀ q, outA B q → q ≠ pa → (∀ k i, depth < k → k < 5 → i < 3 → q ≠ D k i) → h7 q = h q := fun q q1 q2 q3 => (n7 q (q1 _ (by omega))).trans ((kF5 q q1 q2 (fun k i2 h1 h2 h3 => q3 k i2 (by omega) h2 h3)).trans ((o4 q q1 q2 (fun i2 h2 => q3 (depth + 1) i2 (by omega) (by omega) h2)).trans (kF q q1 q2 q3)))
        refine g_iload dX4_isReached_151 (by rfl) ?_
        refine g_if_eq (tgt := 158) dX4_isReached_153 (by decide) (fun c7 => ?_) (fun c7 => ?_)
        · skip
          have hnone : (fun v => cond (decide (0 < vt r v 2)) (rch l x 3 (dyeR r l v)) none) i = none := by
            show cond (decide (0 < vt r i 2)) _ _ = _
            rw [decide_eq_true hgr]
            show rch l x 3 (dyeR r l i) = none
            exact Option.not_isSome_iff_eq_none.mp (by rw [bI_0 c7]; decide)
          refine g_iinc (v := nI (i + 1)) (L1 := [(0, _), (1, _), (2, _), (3, _), (4, _), (5, _), (6, _), (7, _), (8, _), (9, _), (10, _), (11, _)]) dX4_isReached_158 (by rfl) (nI_1 i) (by decide) (by rfl) ?_
          refine g_goto (tgt := 43) dX4_isReached_161 (by decide) ?_
          refine g_pick [0, 1, 2, 3, 4, 5, 6, 7] rfl ?_
          first
            | exact ih hlt h1 path1 xs1 kB kp kpj kL kx kF (by rw [← kR, show nv - i = (nv - (i + 1)) + 1 by omega, fst_n hnone])
            | exact ih hlt _ _ _ kB7 kp7 kpj7 kL7 kx7 kF7 (by rw [← kR, show nv - i = (nv - (i + 1)) + 1 by omega, fst_n hnone])
        · skip
          obtain ⟨p5, ep5⟩ := Option.isSome_iff_exists.mp (bI_1 c7)
          have hsome : (fun v => cond (decide (0 < vt r v 2)) (rch l x 3 (dyeR r l v)) none) i = some p5 := by
            show cond (decide (0 < vt r i 2)) _ _ = _
            rw [decide_eq_true hgr]
            exact ep5
          have eR : rch l x 4 r = some (i :: p5) := by rw [← kR, show nv - i = (nv - (i + 1)) + 1 by omega, fst_s hsome]
          refine g_iconst (v := 1) dX4_isReached_156 (by decide) ?_
          refine g_zret dX4_isReached_157 rfl (by decide) (Nat.le_refl _) (Nat.le_refl _) ?_
          rw [eR]
          refine ⟨rfl, kB7, ⟨path5, kp7, kpj7, fun p e => ?_⟩, ⟨xs5, kL7, kx7⟩, kF7⟩
          cases e
          obtain ⟨g1, g2⟩ := kpr5 p5 ep5
          refine ⟨by rw [List.length_cons, g1], fun i2 hi2 => ?_⟩
          cases i2 with
          | zero => exact (kpj5 depth (by omega)).trans upd_s
          | succ s =>
            have z := g2 s (by omega)
            rw [show depth + (s + 1) = depth + 1 + s by omega, z]
            rfl
      · skip
        have hnone : (fun v => cond (decide (0 < vt r v 2)) (rch l x 3 (dyeR r l v)) none) i = none := by
          show cond (decide (0 < vt r i 2)) _ _ = _
          rw [decide_eq_false c6]
          rfl
        refine g_goto (tgt := 158) dX4_isReached_78 (by decide) ?_
        refine g_iinc (v := nI (i + 1)) (L1 := [(0, _), (1, _), (2, _), (3, _), (4, _), (5, _), (6, _), (7, _), (8, _)]) dX4_isReached_158 (by rfl) (nI_1 i) (by decide) (by rfl) ?_
        refine g_goto (tgt := 43) dX4_isReached_161 (by decide) ?_
        refine g_pick [0, 1, 2, 3, 4, 5, 6, 7] rfl ?_
        first
          | exact ih hlt h1 path1 xs1 kB kp kpj kL kx kF (by rw [← kR, show nv - i = (nv - (i + 1)) + 1 by omega, fst_n hnone])
          | exact ih hlt _ _ _ kB7 kp7 kpj7 kL7 kx7 kF7 (by rw [← kR, show nv - i = (nv - (i + 1)) + 1 by omega, fst_n hnone])
  exact loop43 0 (by omega) h path xs hB pp (fun j _ => rfl) hL (fun k _ => rfl) (fun q _ _ _ => rfl) (by show fstV _ 0 (nv - 0) = fstV _ 0 (cl (r 7)); rw [e7, cl_nI (by omega)]; rfl)
