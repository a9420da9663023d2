noncomputable def plnF (l : Nat) (x r : Nat → Int32) : Nat → Nat → Option (Nat × List Nat)
  | _, 0 => none
  | d, c + 1 => match rch l x d r with
    | some p => some (d, p)
    | none => plnF l x r (d + 1) c
theorem pln_s {l d c : Nat} {x r : Nat → Int32} {p : List Nat} (h : rch l x d r = some p) : plnF l x r d (c + 1) = some (d, p) := by rw [plnF, h]
theorem pln_n {l d c : Nat} {x r : Nat → Int32} (h : rch l x d r = none) : plnF l x r d (c + 1) = plnF l x r (d + 1) c := by rw [plnF, h]
def plnI (o : Option (Nat × List Nat)) : Int32 := match o with
  | none => -1
  | some (d, _) => nI d

set_option maxHeartbeats 4000000 in
set_option maxRecDepth 100000 in
theorem ct_X4_findPlan (X : Cx) {h : Hp} {a dp pa l oa os la lf lo : Nat} {D : Nat → Nat → Nat} {path : Nat → Int32} {B : Nat → Nat} {t r x : Nat → Int32} {xs : Nat → Nat → Int32}  (hS : PlSep a dp pa D B oa os) (pa0 : h a = some (ob 4 [.ref dp, .ref pa])) (pd : h dp = some (oR X 3 5 (dpR D))) (pp : h pa = some (oI X 4 (nr 4 path))) (hB : HouseAt X h B t) (hL : ∀ k, k < 5 → LotAt X h (D k 0) (D k 1) (D k 2) (xs k)) (hX : OrdAt X h oa os x) (hO : Ok r) (hl : l < 20) (hlo : LOk (ltx r l)) (ag1 : ∀ p, p < 8 → t p = r p) (ag2 : ∀ p, 19 ≤ p → p < 43 → t p = r p) (hLa : LotAt X h la lf lo (ltx r l)) (hla : ∀ k i, k < 5 → i < 3 → D k i ≠ la ∧ D k i ≠ lf ∧ D k i ≠ lo) : Ct X mX4_findPlan 8 0 0 [.ref a, .ref (B 0), .ref la, .ref oa] h (fun u h1 => u = some (.int (plnI (plnF l x r 0 5))) ∧ HouseAt X h1 B t ∧ (∃ path2 : Nat → Int32, h1 pa = some (oI X 4 (nr 4 path2)) ∧ ∀ d p, plnF l x r 0 5 = some (d, p) → p.length = d ∧ d ≤ 4 ∧ ∀ i, i < d → path2 i = nI (p.getD i 0)) ∧ (∃ xs2 : Nat → Nat → Int32, ∀ k, k < 5 → LotAt X h1 (D k 0) (D k 1) (D k 2) (xs2 k)) ∧ ∀ q, outA B q → q ≠ pa → (∀ k i, k < 5 → i < 3 → q ≠ D k i) → h1 q = h q) := by
  have hS0 := hS
  obtain ⟨sI, sD, ⟨sa, sdp, spa, soa, sos⟩, sI2, sN, sp1, sp2, sp3, sp4⟩ := hS0
  have hL0 := (hL 0 (by omega)).1
  unfold lotC at hL0
  refine Ct.ofG vX4_findPlan.1.2.2.1 (Nat.le_of_ble_eq_true rfl) ?_
  show G X RX4 cX4_findPlan 6 (some .int) "findPlan" (Rm 8 0 0) (Fm X (fun u h1 => u = some (.int (plnI (plnF l x r 0 5))) ∧ HouseAt X h1 B t ∧ (∃ path2 : Nat → Int32, h1 pa = some (oI X 4 (nr 4 path2)) ∧ ∀ d p, plnF l x r 0 5 = some (d, p) → p.length = d ∧ d ≤ 4 ∧ ∀ i, i < d → path2 i = nI (p.getD i 0)) ∧ (∃ xs2 : Nat → Nat → Int32, ∀ k, k < 5 → LotAt X h1 (D k 0) (D k 1) (D k 2) (xs2 k)) ∧ ∀ q, outA B q → q ≠ pa → (∀ k i, k < 5 → i < 3 → q ≠ D k i) → h1 q = h q) 0 0) 0 0 0 [(0, .ref a), (1, .ref (B 0)), (2, .ref la), (3, .ref oa)] [] h
  refine g_aload_n dX4_findPlan_0 (by rfl) (by first | exact isRf_r | exact isRf_n | exact isRf_o | assumption) ?_
  refine g_iconst (v := 0) dX4_findPlan_1 (by decide) ?_
  refine g_cV1x dX4_findPlan_2 lX4_26 vX4_lotBehind (ct_X4_lotBehind X pa0 pd (j := 0) (by omega)) (by first | assumption | (repeat' (first | assumption | exact hu_same | exact Ne.symm (by assumption) | apply hu_n1))) rfl ⟨Nat.le_of_ble_eq_true rfl, Nat.le_of_ble_eq_true rfl⟩ (Nat.le_of_ble_eq_true rfl) ⟨Nat.le_of_ble_eq_true rfl, Nat.le_of_ble_eq_true rfl⟩ ?_
  refine g_astore (L1 := [(0, _), (1, _), (2, _), (3, _), (4, _)]) dX4_findPlan_5 (by first | exact isRf_r | exact isRf_n | exact isRf_o | assumption) (by decide) (by rfl) ?_
  refine g_aload dX4_findPlan_7 (by rfl) (by first | exact isRf_r | exact isRf_n | exact isRf_o | assumption) ?_
  refine g_ifnonnull (tgt := 14) dX4_findPlan_9 (by decide) (by first | exact isRf_r | exact isRf_n | exact isRf_o | assumption) (fun c1 => ?_) (fun c1 => nomatch c1)
  refine g_aload dX4_findPlan_14 (by rfl) (by first | exact isRf_r | exact isRf_n | exact isRf_o | assumption) ?_
  refine g_aload_n dX4_findPlan_16 (by rfl) (by first | exact isRf_r | exact isRf_n | exact isRf_o | assumption) ?_
  refine g_cV1 dX4_findPlan_17 lX4_30 vX2_copyFrom (ct_X2_copyFrom X (hL 0 (by omega)) hLa hlo.b10 hlo.2.2.2.2.2.1 hlo.b12 (Ne.symm (hla 0 0 (by omega) (by omega)).1) (Ne.symm (hla 0 1 (by omega) (by omega)).2.1) (Ne.symm (hla 0 2 (by omega) (by omega)).2.2) (Ne.symm (hla 0 2 (by omega) (by omega)).2.1) (Ne.symm (hla 0 1 (by omega) (by omega)).2.2) (fun e => absurd (sI2 _ _ _ _ (by omega) (by omega) (by omega) (by omega) e) (by omega))) (by first | assumption | (repeat' (first | assumption | exact hu_same | exact Ne.symm (by assumption) | apply hu_n1))) rfl ⟨Nat.le_of_ble_eq_true rfl, Nat.le_of_ble_eq_true rfl⟩ (Nat.le_of_ble_eq_true rfl) ⟨Nat.le_of_ble_eq_true rfl, Nat.le_of_ble_eq_true rfl⟩ ?_
  rintro _ h2 ⟨rfl, kn, kf2⟩
  refine g_stk (st' := []) rfl ?_
  have n2 : ∀ q, (∀ i, i < 3 → q ≠ D 0 i) → h2 q = h q := fun q z => kf2 q (z 0 (by omega)) (z 1 (by omega)) (z 2 (by omega))
  refine g_iconst (v := 0) dX4_findPlan_20 (by decide) ?_
  refine g_istore (L1 := [(0, _), (1, _), (2, _), (3, _), (4, _), (5, _)]) dX4_findPlan_21 (by decide) (by rfl) ?_
  have loop23 : ∀ i, i ≤ 5 → ∀ (h1 : Hp) (path1 : Nat → Int32) (xs1 : Nat → Nat → Int32), HouseAt X h1 B t → h1 pa = some (oI X 4 (nr 4 path1)) → (∀ k, k < 5 → LotAt X h1 (D k 0) (D k 1) (D k 2) (xs1 k)) → (∀ j, j < 15 → xs1 0 j = ltx r l j) → (∀ q, outA B q → q ≠ pa → (∀ k i, k < 5 → i < 3 → q ≠ D k i) → h1 q = h q) → plnF l x r i (5 - i) = plnF l x r 0 5 → G X RX4 cX4_findPlan 6 (some .int) "findPlan" (Rm 8 0 0) (Fm X (fun u h1 => u = some (.int (plnI (plnF l x r 0 5))) ∧ HouseAt X h1 B t ∧ (∃ path2 : Nat → Int32, h1 pa = some (oI X 4 (nr 4 path2)) ∧ ∀ d p, plnF l x r 0 5 = some (d, p) → p.length = d ∧ d ≤ 4 ∧ ∀ i, i < d → path2 i = nI (p.getD i 0)) ∧ (∃ xs2 : Nat → Nat → Int32, ∀ k, k < 5 → LotAt X h1 (D k 0) (D k 1) (D k 2) (xs2 k)) ∧ ∀ q, outA B q → q ≠ pa → (∀ k i, k < 5 → i < 3 → q ≠ D k i) → h1 q = h q) 0 0) 0 0 23 [(0, .ref a), (1, .ref (B 0)), (2, .ref la), (3, .ref oa), (4, .ref (D 0 0)), (5, .int (nI i))] [] h1 := by
    refine up_ind 5 (fun i hi ih => ?_)
    intro h1 path1 xs1 kB kp kL kx kF kR
    have q0 : h1 a = _ := (kF a sa (Ne.symm sp3) (fun k i2 hk hi2 => Ne.symm (sN k i2 hk hi2).2.2.2.1)).trans pa0
    have q1 : h1 dp = _ := (kF dp sdp (Ne.symm sp4) (fun k i2 hk hi2 => Ne.symm (sN k i2 hk hi2).2.2.2.2)).trans pd
    have qX : OrdAt X h1 oa os x := hX.kept (kF oa soa (Ne.symm sp2) (fun k i2 hk hi2 => Ne.symm (sN k i2 hk hi2).2.2.1)) (kF os sos (Ne.symm sp1) (fun k i2 hk hi2 => Ne.symm (sN k i2 hk hi2).2.1))
    have hP : PlPre X h1 a dp pa D path1 B t r l oa os x xs1 0 := ⟨q0, q1, kp, kB, kL, qX, hO, hl, hlo, kx, ag1, ag2⟩
    refine g_iload dX4_findPlan_23 (by rfl) ?_
    refine g_iconst (v := 4) dX4_findPlan_25 (by decide) ?_
    refine g_icmp_gt (tgt := 50) dX4_findPlan_26 (by decide) (fun c2 => ?_) (fun c2 => ?_)
    · skip
      have hie : i = 5 := by
        have z := (nI_ltI (a := 4) (by omega) (by omega)).mp c2
        omega
      subst hie
      refine g_iconst (v := (-1)) dX4_findPlan_50 (by decide) ?_
      refine g_iret dX4_findPlan_51 rfl (Nat.le_refl _) (Nat.le_refl _) ?_
      have eR : plnF l x r 0 5 = none := by
        rw [← kR]
        rfl
      rw [eR]
      exact ⟨rfl, kB, ⟨path1, kp, fun d p e => nomatch e⟩, ⟨xs1, kL⟩, kF⟩
    · skip
      have hlt : i < 5 := by
        rcases Nat.lt_or_ge i 5 with z | z
        · exact z
        · exact absurd (nI_lt (show 4 < i by omega) (by omega)) c2
      refine g_aload_n dX4_findPlan_29 (by rfl) (by first | exact isRf_r | exact isRf_n | exact isRf_o | assumption) ?_
      refine g_aload_n dX4_findPlan_30 (by rfl) (by first | exact isRf_r | exact isRf_n | exact isRf_o | assumption) ?_
      refine g_aload_n dX4_findPlan_31 (by rfl) (by first | exact isRf_r | exact isRf_n | exact isRf_o | assumption) ?_
      refine g_iconst (v := 0) dX4_findPlan_32 (by decide) ?_
      refine g_iload dX4_findPlan_33 (by rfl) ?_
      rcases (show i = 0 ∨ i = 1 ∨ i = 2 ∨ i = 3 ∨ i = 4 by omega) with rfl | rfl | rfl | rfl | rfl
      · skip
        refine g_cS5 dX4_findPlan_35 lX4_34 rfl vX4_isReached (ct_isReached0 X (depth := 0) hS hP (by omega)) ⟨Nat.le_of_ble_eq_true rfl, Nat.le_of_ble_eq_true rfl⟩ (Nat.le_of_ble_eq_true rfl) ⟨Nat.le_of_ble_eq_true rfl, Nat.le_of_ble_eq_true rfl⟩ ?_
        rintro _ h3 ⟨rfl, kB3, ⟨path3, kp3, kpj3, kpr3⟩, ⟨xs3, kL3, kx3⟩, kF3⟩
        refine g_stk (st' := [.int (bI (rch l x 0 r).isSome)]) rfl ?_
        refine g_if_eq (tgt := 44) dX4_findPlan_38 (by decide) (fun c3 => ?_) (fun c3 => ?_)
        · skip
          have hnone := Option.not_isSome_iff_eq_none.mp (show ¬ _ from by rw [bI_0 c3]; decide)
          refine g_iinc (v := nI (0 + 1)) (L1 := [(0, _), (1, _), (2, _), (3, _), (4, _), (5, _)]) dX4_findPlan_44 (by rfl) (nI_1 0) (by decide) (by rfl) ?_
          refine g_goto (tgt := 23) dX4_findPlan_47 (by decide) ?_
          exact ih (by omega) h3 path3 xs3 kB3 kp3 kL3 (fun j hj => by rw [kx3 0 (Nat.le_refl 0)]; exact kx j hj) (fun q q1 q2 q3 => (kF3 q q1 q2 (fun k i h1 h2 h3 => q3 k i h2 h3)).trans (kF q q1 q2 q3)) (by rw [← kR]; exact (pln_n hnone).symm)
        · skip
          obtain ⟨p5, ep5⟩ := Option.isSome_iff_exists.mp (bI_1 c3)
          have eR := kR.symm.trans (pln_s ep5)
          refine g_iload dX4_findPlan_41 (by rfl) ?_
          refine g_iret dX4_findPlan_43 rfl (Nat.le_refl _) (Nat.le_refl _) ?_
          rw [eR]
          refine ⟨rfl, kB3, ⟨path3, kp3, fun d p e => ?_⟩, ⟨xs3, kL3⟩, fun q q1 q2 q3 => (kF3 q q1 q2 (fun k i h1 h2 h3 => q3 k i h2 h3)).trans (kF q q1 q2 q3)⟩
          cases e
          obtain ⟨g1, g2⟩ := kpr3 p5 ep5
          exact ⟨g1, by omega, fun i2 hi2 => by
            have z := g2 i2 hi2
            rw [Nat.zero_add] at z
            exact z⟩
      · skip
        refine g_cS5 dX4_findPlan_35 lX4_34 rfl vX4_isReached (ct_isReached1 X (depth := 0) hS hP (by omega)) ⟨Nat.le_of_ble_eq_true rfl, Nat.le_of_ble_eq_true rfl⟩ (Nat.le_of_ble_eq_true rfl) ⟨Nat.le_of_ble_eq_true rfl, Nat.le_of_ble_eq_true rfl⟩ ?_
        rintro _ h3 ⟨rfl, kB3, ⟨path3, kp3, kpj3, kpr3⟩, ⟨xs3, kL3, kx3⟩, kF3⟩
        refine g_stk (st' := [.int (bI (rch l x 1 r).isSome)]) rfl ?_
        refine g_if_eq (tgt := 44) dX4_findPlan_38 (by decide) (fun c4 => ?_) (fun c4 => ?_)
        · skip
          have hnone := Option.not_isSome_iff_eq_none.mp (show ¬ _ from by rw [bI_0 c4]; decide)
          refine g_iinc (v := nI (1 + 1)) (L1 := [(0, _), (1, _), (2, _), (3, _), (4, _), (5, _)]) dX4_findPlan_44 (by rfl) (nI_1 1) (by decide) (by rfl) ?_
          refine g_goto (tgt := 23) dX4_findPlan_47 (by decide) ?_
          exact ih (by omega) h3 path3 xs3 kB3 kp3 kL3 (fun j hj => by rw [kx3 0 (Nat.le_refl 0)]; exact kx j hj) (fun q q1 q2 q3 => (kF3 q q1 q2 (fun k i h1 h2 h3 => q3 k i h2 h3)).trans (kF q q1 q2 q3)) (by rw [← kR]; exact (pln_n hnone).symm)
        · skip
          obtain ⟨p5, ep5⟩ := Option.isSome_iff_exists.mp (bI_1 c4)
          have eR := kR.symm.trans (pln_s ep5)
          refine g_iload dX4_findPlan_41 (by rfl) ?_
          refine g_iret dX4_findPlan_43 rfl (Nat.le_refl _) (Nat.le_refl _) ?_
          rw [eR]
          refine ⟨rfl, kB3, ⟨path3, kp3, fun d p e => ?_⟩, ⟨xs3, kL3⟩, fun q q1 q2 q3 => (kF3 q q1 q2 (fun k i h1 h2 h3 => q3 k i h2 h3)).trans (kF q q1 q2 q3)⟩
          cases e
          obtain ⟨g1, g2⟩ := kpr3 p5 ep5
          exact ⟨g1, by omega, fun i2 hi2 => by
            have z := g2 i2 hi2
            rw [Nat.zero_add] at z
            exact z⟩
      · skip
        refine g_cS5 dX4_findPlan_35 lX4_34 rfl vX4_isReached (ct_isReached2 X (depth := 0) hS hP (by omega)) ⟨Nat.le_of_ble_eq_true rfl, Nat.le_of_ble_eq_true rfl⟩ (Nat.le_of_ble_eq_true rfl) ⟨Nat.le_of_ble_eq_true rfl, Nat.le_of_ble_eq_true rfl⟩ ?_
        rintro _ h3 ⟨rfl, kB3, ⟨path3, kp3, kpj3, kpr3⟩, ⟨xs3, kL3, kx3⟩, kF3⟩
        refine g_stk (st' := [.int (bI (rch l x 2 r).isSome)]) rfl ?_
        refine g_if_eq (tgt := 44) dX4_findPlan_38 (by decide) (fun c5 => ?_) (fun c5 => ?_)
        · skip
          have hnone := Option.not_isSome_iff_eq_none.mp (show ¬ _ from by rw [bI_0 c5]; decide)
          refine g_iinc (v := nI (2 + 1)) (L1 := [(0, _), (1, _), (2, _), (3, _), (4, _), (5, _)]) dX4_findPlan_44 (by rfl) (nI_1 2) (by decide) (by rfl) ?_
          refine g_goto (tgt := 23) dX4_findPlan_47 (by decide) ?_
          exact ih (by omega) h3 path3 xs3 kB3 kp3 kL3 (fun j hj => by rw [kx3 0 (Nat.le_refl 0)]; exact kx j hj) (fun q q1 q2 q3 => (kF3 q q1 q2 (fun k i h1 h2 h3 => q3 k i h2 h3)).trans (kF q q1 q2 q3)) (by rw [← kR]; exact (pln_n hnone).symm)
        · skip
          obtain ⟨p5, ep5⟩ := Option.isSome_iff_exists.mp (bI_1 c5)
          have eR := kR.symm.trans (pln_s ep5)
          refine g_iload dX4_findPlan_41 (by rfl) ?_
          refine g_iret dX4_findPlan_43 rfl (Nat.le_refl _) (Nat.le_refl _) ?_
          rw [eR]
          refine ⟨rfl, kB3, ⟨path3, kp3, fun d p e => ?_⟩, ⟨xs3, kL3⟩, fun q q1 q2 q3 => (kF3 q q1 q2 (fun k i h1 h2 h3 => q3 k i h2 h3)).trans (kF q q1 q2 q3)⟩
          cases e
          obtain ⟨g1, g2⟩ := kpr3 p5 ep5
          exact ⟨g1, by omega, fun i2 hi2 => by
            have z := g2 i2 hi2
            rw [Nat.zero_add] at z
            exact z⟩
      · skip
        refine g_cS5 dX4_findPlan_35 lX4_34 rfl vX4_isReached (ct_isReached3 X (depth := 0) hS hP (by omega)) ⟨Nat.le_of_ble_eq_true rfl, Nat.le_of_ble_eq_true rfl⟩ (Nat.le_of_ble_eq_true rfl) ⟨Nat.le_of_ble_eq_true rfl, Nat.le_of_ble_eq_true rfl⟩ ?_
        rintro _ h3 ⟨rfl, kB3, ⟨path3, kp3, kpj3, kpr3⟩, ⟨xs3, kL3, kx3⟩, kF3⟩
        refine g_stk (st' := [.int (bI (rch l x 3 r).isSome)]) rfl ?_
        refine g_if_eq (tgt := 44) dX4_findPlan_38 (by decide) (fun c6 => ?_) (fun c6 => ?_)
        · skip
          have hnone := Option.not_isSome_iff_eq_none.mp (show ¬ _ from by rw [bI_0 c6]; decide)
          refine g_iinc (v := nI (3 + 1)) (L1 := [(0, _), (1, _), (2, _), (3, _), (4, _), (5, _)]) dX4_findPlan_44 (by rfl) (nI_1 3) (by decide) (by rfl) ?_
          refine g_goto (tgt := 23) dX4_findPlan_47 (by decide) ?_
          exact ih (by omega) h3 path3 xs3 kB3 kp3 kL3 (fun j hj => by rw [kx3 0 (Nat.le_refl 0)]; exact kx j hj) (fun q q1 q2 q3 => (kF3 q q1 q2 (fun k i h1 h2 h3 => q3 k i h2 h3)).trans (kF q q1 q2 q3)) (by rw [← kR]; exact (pln_n hnone).symm)
        · skip
          obtain ⟨p5, ep5⟩ := Option.isSome_iff_exists.mp (bI_1 c6)
          have eR := kR.symm.trans (pln_s ep5)
          refine g_iload dX4_findPlan_41 (by rfl) ?_
          refine g_iret dX4_findPlan_43 rfl (Nat.le_refl _) (Nat.le_refl _) ?_
          rw [eR]
          refine ⟨rfl, kB3, ⟨path3, kp3, fun d p e => ?_⟩, ⟨xs3, kL3⟩, fun q q1 q2 q3 => (kF3 q q1 q2 (fun k i h1 h2 h3 => q3 k i h2 h3)).trans (kF q q1 q2 q3)⟩
          cases e
          obtain ⟨g1, g2⟩ := kpr3 p5 ep5
          exact ⟨g1, by omega, fun i2 hi2 => by
            have z := g2 i2 hi2
            rw [Nat.zero_add] at z
            exact z⟩
      · skip
        refine g_cS5 dX4_findPlan_35 lX4_34 rfl vX4_isReached (ct_isReached4 X (depth := 0) hS hP (by omega)) ⟨Nat.le_of_ble_eq_true rfl, Nat.le_of_ble_eq_true rfl⟩ (Nat.le_of_ble_eq_true rfl) ⟨Nat.le_of_ble_eq_true rfl, Nat.le_of_ble_eq_true rfl⟩ ?_
        rintro _ h3 ⟨rfl, kB3, ⟨path3, kp3, kpj3, kpr3⟩, ⟨xs3, kL3, kx3⟩, kF3⟩
        refine g_stk (st' := [.int (bI (rch l x 4 r).isSome)]) rfl ?_
        refine g_if_eq (tgt := 44) dX4_findPlan_38 (by decide) (fun c7 => ?_) (fun c7 => ?_)
        · skip
          have hnone := Option.not_isSome_iff_eq_none.mp (show ¬ _ from by rw [bI_0 c7]; decide)
          refine g_iinc (v := nI (4 + 1)) (L1 := [(0, _), (1, _), (2, _), (3, _), (4, _), (5, _)]) dX4_findPlan_44 (by rfl) (nI_1 4) (by decide) (by rfl) ?_
          refine g_goto (tgt := 23) dX4_findPlan_47 (by decide) ?_
          exact ih (by omega) h3 path3 xs3 kB3 kp3 kL3 (fun j hj => by rw [kx3 0 (Nat.le_refl 0)]; exact kx j hj) (fun q q1 q2 q3 => (kF3 q q1 q2 (fun k i h1 h2 h3 => q3 k i h2 h3)).trans (kF q q1 q2 q3)) (by rw [← kR]; exact (pln_n hnone).symm)
        · skip
          obtain ⟨p5, ep5⟩ := Option.isSome_iff_exists.mp (bI_1 c7)
          have eR := kR.symm.trans (pln_s ep5)
          refine g_iload dX4_findPlan_41 (by rfl) ?_
          refine g_iret dX4_findPlan_43 rfl (Nat.le_refl _) (Nat.le_refl _) ?_
          rw [eR]
          refine ⟨rfl, kB3, ⟨path3, kp3, fun d p e => ?_⟩, ⟨xs3, kL3⟩, fun q q1 q2 q3 => (kF3 q q1 q2 (fun k i h1 h2 h3 => q3 k i h2 h3)).trans (kF q q1 q2 q3)⟩
          cases e
          obtain ⟨g1, g2⟩ := kpr3 p5 ep5
          exact ⟨g1, by omega, fun i2 hi2 => by
            have z := g2 i2 hi2
            rw [Nat.zero_add] at z
            exact z⟩
  refine loop23 0 (by omega) h2 path (fun k => if k = 0 then ltx r l else xs k) (hB.kept (fun j hj => n2 _ (fun i hi => Ne.symm (sD 0 i (by omega) hi j hj)))) ((n2 pa (fun i hi => Ne.symm (sN 0 i (by omega) hi).1)).trans pp) (fun k hk => ?_) (fun j hj => rfl) (fun q q1 q2 q3 => n2 q (fun i hi => q3 0 i (by omega) hi)) rfl
  by_cases z : k = 0
  · subst z
    exact kn
  · show LotAt X h2 _ _ _ (if k = 0 then ltx r l else xs k)
    rw [if_neg z]
    have nz : ∀ i2 i, i2 < 3 → i < 3 → D k i2 ≠ D 0 i := fun i2 i h2 h3 e => z (sI2 _ _ _ _ hk h2 (by omega) h3 e).1
    exact (hL k hk).kept (n2 _ (fun i hi => nz 0 i (by omega) hi)) (n2 _ (fun i hi => nz 1 i (by omega) hi)) (n2 _ (fun i hi => nz 2 i (by omega) hi))
