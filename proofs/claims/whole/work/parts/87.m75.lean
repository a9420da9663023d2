theorem pm1 {m : Nat} (h : m < 1000) : nI m - 1 < 0 ↔ m = 0 := by
  cases m with
  | zero => exact ⟨fun _ => rfl, fun _ => by decide⟩
  | succ m =>
    rw [nI_pred]
    exact ⟨fun z => absurd z (nI_ge0 (by omega)), fun z => absurd z (by omega)⟩
theorem pw_1296 {nv c : Nat} (h : nv ≤ 6) (hc : c ≤ 4) : nv ^ c ≤ 1296 := by
  have z := Nat.pow_le_pow_left h c
  have q : 6 ^ c ≤ 1296 := by rcases (show c = 0 ∨ c = 1 ∨ c = 2 ∨ c = 3 ∨ c = 4 by omega) with rfl | rfl | rfl | rfl | rfl <;> decide
  omega
theorem MdS.way {X : Cx} {h : Hp} {M : Nat → Nat} {r s w : Nat → Int32} {n tn : Nat} {rows : Nat → Nat → Int32} {tg : Nat → Int32} (k : MdS X h M r s n rows tn tg) : MdS X (hu h (M 5) (oI X 4 (nr 4 w))) M r s n rows tn tg := by
  have ne := fun i (hi : i < 8) (i7 : i ≠ 5) => k.ne hi (show 5 < 8 by omega) i7
  obtain ⟨kd, ⟨at0, lt, fl, k0⟩, k1, ⟨g, k2, k2b⟩, k3, k4, ⟨w5, k5⟩, ⟨w6, k6⟩, w7, k7⟩ := k
  exact ⟨kd, ⟨at0, lt, fl, hu_n1 (ne 0 (by omega) (by omega)) k0⟩, hu_n1 (ne 1 (by omega) (by omega)) k1, ⟨g, hu_n1 (ne 2 (by omega) (by omega)) k2, k2b⟩, hu_n1 (ne 3 (by omega) (by omega)) k3, hu_n1 (ne 4 (by omega) (by omega)) k4, ⟨w, hu_same⟩, ⟨w6, hu_n1 (ne 6 (by omega) (by omega)) k6⟩, w7, hu_n1 (ne 7 (by omega) (by omega)) k7⟩
theorem goF_none {l : Nat} {f : Nat → Nat} {r : Nat → Int32} {k : Nat} : ∀ {c : Nat}, k ≤ c → goF l f r k = none → goF l f r c = none
  | 0, h, e => by
    have z : k = 0 := by omega
    subst z
    exact e
  | c + 1, h, e => by
    by_cases q : k = c + 1
    · subst q
      exact e
    · have ih := goF_none (c := c) (by omega) e
      show (match goF l f r c with
        | none => none
        | some r2 => cond (decide (0 < vt r2 (f c) 2)) (some (dyeR r2 l (f c))) none) = none
      rw [ih]
theorem goF_u {l : Nat} {f : Nat → Nat} {r r2 : Nat → Int32} {k : Nat} (e : goF l f r k = some r2) : goF l f r (k + 1) = cond (decide (0 < vt r2 (f k) 2)) (some (dyeR r2 l (f k))) none := by
  show (match goF l f r k with
    | none => none
    | some r2 => cond (decide (0 < vt r2 (f k) 2)) (some (dyeR r2 l (f k))) none) = _
  rw [e]
theorem fitF_0 {l c : Nat} {x : Nat → Int32} {f : Nat → Nat} {r : Nat → Int32} (e : goF l f r c = none) : fitF l x f r c = false := by
  unfold fitF
  rw [e]
theorem fitF_1 {l c : Nat} {x : Nat → Int32} {f : Nat → Nat} {r r2 : Nat → Int32} (e : goF l f r c = some r2) : fitF l x f r c = fitB (ltx r2 l) x r2 := by
  unfold fitF
  rw [e]

set_option maxHeartbeats 4000000 in
set_option maxRecDepth 100000 in
theorem ct_X10_makesFit (X : Cx) {h : Hp} {M : Nat → Nat} {r : Nat → Int32} {n tn : Nat} {rows : Nat → Nat → Int32} {tg : Nat → Int32} {l o nl nv c N : Nat}  (hS : MdS X h M r r n rows tn tg) (hO : Ok r) (hl : l < nl) (hnl : nl ≤ 20) (e8 : r 8 = nI nl) (e7 : r 7 = nI nv) (hnv : nv ≤ 6) (h0 : 0 < nv) (ho : o < 60) (hc : c ≤ 4) (hN : N < nv ^ c) : Ct X mX10_makesFit 4 0 0 [.ref (M 0), .int (nI l), .int (nI o), .int (nI N), .int (nI c)] h (fun u h1 => u = some (.int (bI (fitF l (od r o) (dgf nv c N) r c))) ∧ MdS X h1 M r r n rows tn tg ∧ (∃ w, h1 (M 5) = some (oI X 4 (nr 4 w)) ∧ ∀ i, i < c → w i = nI (dgf nv c N i)) ∧ ∀ q, outM M q → h1 q = h q) := by
  obtain ⟨p0, lt0, fl0, m0⟩ := md_m hS
  obtain ⟨-, -, m1, -, -, -, ⟨w5, k5⟩, -⟩ := id hS
  have n05 : M 0 ≠ M 5 := hS.ne (by omega) (by omega) (by omega)
  have n15 : M 1 ≠ M 5 := hS.ne (by omega) (by omega) (by omega)
  have n01 : M 0 ≠ M 1 := hS.ne (by omega) (by omega) (by omega)
  have n51 : M 5 ≠ M 1 := Ne.symm n15
  have hpw := pw_1296 (c := c) hnv hc
  have hl20 : l < 20 := by omega
  have hnz : ¬ nI nv = 0 := fun z => by
    have y := c_eq (b := 0) (by omega) (by omega) z
    omega
  refine Ct.ofG vX10_makesFit.1.2.2.1 (Nat.le_of_ble_eq_true rfl) ?_
  show G X RX10 cX10_makesFit 8 (some .boolean) "makesFit" (Rm 4 0 0) (Fm X (fun u h1 => u = some (.int (bI (fitF l (od r o) (dgf nv c N) r c))) ∧ MdS X h1 M r r n rows tn tg ∧ (∃ w, h1 (M 5) = some (oI X 4 (nr 4 w)) ∧ ∀ i, i < c → w i = nI (dgf nv c N i)) ∧ ∀ q, outM M q → h1 q = h q) 0 0) 0 0 0 [(0, .ref (M 0)), (1, .int (nI l)), (2, .int (nI o)), (3, .int (nI N)), (4, .int (nI c))] [] h
  refine g_iload_n dX10_makesFit_0 (by rfl) ?_
  refine g_istore (L1 := [(0, _), (1, _), (2, _), (3, _), (4, _), (5, _)]) dX10_makesFit_1 (by decide) (by rfl) ?_
  refine g_iload dX10_makesFit_3 (by rfl) ?_
  refine g_iconst (v := 1) dX10_makesFit_5 (by decide) ?_
  refine g_isub dX10_makesFit_6 ?_
  refine g_istore (L1 := [(0, _), (1, _), (2, _), (3, _), (4, _), (5, _), (6, _)]) dX10_makesFit_7 (by decide) (by rfl) ?_
  have loop9 : ∀ j, j ≤ c → ∀ w : Nat → Int32, (∀ i, c - j ≤ i → i < c → w i = nI (dgf nv c N i)) → G X RX10 cX10_makesFit 8 (some .boolean) "makesFit" (Rm 4 0 0) (Fm X (fun u h1 => u = some (.int (bI (fitF l (od r o) (dgf nv c N) r c))) ∧ MdS X h1 M r r n rows tn tg ∧ (∃ w, h1 (M 5) = some (oI X 4 (nr 4 w)) ∧ ∀ i, i < c → w i = nI (dgf nv c N i)) ∧ ∀ q, outM M q → h1 q = h q) 0 0) 0 0 9 [(0, .ref (M 0)), (1, .int (nI l)), (2, .int (nI o)), (3, .int (nI N)), (4, .int (nI c)), (5, .int (nI (N / nv ^ j))), (6, .int (nI (c - j) - 1))] [] (hu h (M 5) (oI X 4 (nr 4 w))) := by
    refine up_ind c (fun j hj ih => ?_)
    intro w hw
    have hNj : N / nv ^ j < 2 ^ 31 := Nat.lt_of_le_of_lt (Nat.div_le_self _ _) (by omega)
    refine g_iload dX10_makesFit_9 (by rfl) ?_
    refine g_if_lt (tgt := 49) dX10_makesFit_11 (by decide) (fun c1 => ?_) (fun c1 => ?_)
    · skip
      have hjc : c - j = 0 := (pm1 (by omega)).mp c1
      refine g_gen (fun h5 eh5 => ?_)
      have hS5 : MdS X h5 M r r n rows tn tg := by rw [eh5]; exact hS.way
      have z5 : h5 (M 5) = some (oI X 4 (nr 4 w)) := by rw [eh5]; exact hu_same
      have f5 : ∀ q, outM M q → h5 q = h q := fun q hq => by rw [eh5]; exact hu_ne (hq 5 (by omega))
      obtain ⟨p5, lt5, fl5, z0⟩ := md_m hS5
      have hM5 := hS5.mo
      clear eh5
      refine g_iconst (v := 1) dX10_makesFit_49 (by decide) ?_
      refine g_istore (L1 := [(0, _), (1, _), (2, _), (3, _), (4, _), (5, _), (6, _)]) dX10_makesFit_50 (by decide) (by rfl) ?_
      refine g_iconst (v := 0) dX10_makesFit_52 (by decide) ?_
      refine g_istore (L1 := [(0, _), (1, _), (2, _), (3, _), (4, _), (5, _), (6, _), (7, _)]) dX10_makesFit_53 (by decide) (by rfl) ?_
      have loop55 : ∀ k, k ≤ c → ∀ (is : Bool) (rk : Nat → Int32), (is = true → goF l (dgf nv c N) r k = some rk ∧ Ok rk ∧ rk 7 = nI nv ∧ rk 8 = nI nl ∧ od rk o = od r o) → (is = false → fitF l (od r o) (dgf nv c N) r c = false) → G X RX10 cX10_makesFit 8 (some .boolean) "makesFit" (Rm 4 0 0) (Fm X (fun u h1 => u = some (.int (bI (fitF l (od r o) (dgf nv c N) r c))) ∧ MdS X h1 M r r n rows tn tg ∧ (∃ w, h1 (M 5) = some (oI X 4 (nr 4 w)) ∧ ∀ i, i < c → w i = nI (dgf nv c N i)) ∧ ∀ q, outM M q → h1 q = h q) 0 0) 0 0 55 [(0, .ref (M 0)), (1, .int (nI l)), (2, .int (nI o)), (4, .int (nI c)), (6, .int (bI is)), (7, .int (nI k))] [] (hr X h5 (M 1) rk) := by
        refine up_ind c (fun k hkc0 ih2 => ?_)
        intro is rk Ht Hf
        refine g_iload dX10_makesFit_55 (by rfl) ?_
        refine g_iload dX10_makesFit_57 (by rfl) ?_
        refine g_icmp_ge (tgt := 113) dX10_makesFit_59 (by decide) (fun c2 => ?_) (fun c2 => ?_)
        · skip
          have hkc : k = c := Nat.le_antisymm hkc0 (c_ge (by omega) (by omega) c2)
          refine g_iload dX10_makesFit_113 (by rfl) ?_
          refine g_if_eq (tgt := 131) dX10_makesFit_115 (by decide) (fun c3 => ?_) (fun c3 => ?_)
          · skip
            have eF : fitF l (od r o) (dgf nv c N) r c = false := Hf (bI_0 c3)
            refine g_iconst (v := 0) dX10_makesFit_131 (by decide) ?_
            refine g_istore (L1 := [(0, _), (1, _), (2, _), (4, _), (6, _), (7, _)]) dX10_makesFit_132 (by decide) (by rfl) ?_
            refine g_aload_n dX10_makesFit_134 (by rfl) (by first | exact isRf_r | exact isRf_n | exact isRf_o | assumption) ?_
            refine g_cV0v dX10_makesFit_135 lX10_46 vX10_backs (ct_mBacks X hS5.row) (by first | exact m0 | exact hu_n1 n05 m0 | exact hu_same | exact hr_a n01 z0 | exact z0 | exact hr_a n51 z5) rfl ⟨Nat.le_of_ble_eq_true rfl, Nat.le_of_ble_eq_true rfl⟩ (Nat.le_of_ble_eq_true rfl) ⟨Nat.le_of_ble_eq_true rfl, Nat.le_of_ble_eq_true rfl⟩ ?_
            rw [hrr]
            refine g_iload dX10_makesFit_138 (by rfl) ?_
            refine g_zret dX10_makesFit_140 rfl (by decide) (Nat.le_refl _) (Nat.le_refl _) ?_
            rw [eF]
            exact ⟨rfl, hS5.row, ⟨w, hr_a n51 z5, fun i hi => hw i (by omega) hi⟩, fun q hq => (hr_out q hq).trans (f5 q hq)⟩
          · skip
            have h115 := c3
            have hb := bI_1 c3
            obtain ⟨g1, hOk, g7, g8, go⟩ := Ht hb
            have hlo := hOk.lk hnl g8 l hl
            refine g_aload_n dX10_makesFit_118 (by rfl) (by first | exact isRf_r | exact isRf_n | exact isRf_o | assumption) ?_
            refine g_iload_n dX10_makesFit_119 (by rfl) ?_
            refine g_iload_n dX10_makesFit_120 (by rfl) ?_
            refine g_cV2x dX10_makesFit_121 lX10_150 vX10_fits (ct_X10_fits X (l := l) (o := o) hM5.hr hl20 ho hlo.pos) (by first | exact m0 | exact hu_n1 n05 m0 | exact hu_same | exact hr_a n01 z0 | exact z0 | exact hr_a n51 z5) rfl ⟨Nat.le_of_ble_eq_true rfl, Nat.le_of_ble_eq_true rfl⟩ (Nat.le_of_ble_eq_true rfl) ⟨Nat.le_of_ble_eq_true rfl, Nat.le_of_ble_eq_true rfl⟩ ?_
            refine g_if_eq (tgt := 131) dX10_makesFit_124 (by decide) (fun c4 => ?_) (fun c4 => ?_)
            · skip
              have eF : fitF l (od r o) (dgf nv c N) r c = false := by
                first
                  | exact absurd hz64 h115
                  | (rw [hkc] at g1; refine (fitF_1 (x := od r o) g1).trans ?_; rw [← go]; exact bI_0 c4)
              refine g_iconst (v := 0) dX10_makesFit_131 (by decide) ?_
              refine g_istore (L1 := [(0, _), (1, _), (2, _), (4, _), (6, _), (7, _)]) dX10_makesFit_132 (by decide) (by rfl) ?_
              refine g_aload_n dX10_makesFit_134 (by rfl) (by first | exact isRf_r | exact isRf_n | exact isRf_o | assumption) ?_
              refine g_cV0v dX10_makesFit_135 lX10_46 vX10_backs (ct_mBacks X hS5.row) (by first | exact m0 | exact hu_n1 n05 m0 | exact hu_same | exact hr_a n01 z0 | exact z0 | exact hr_a n51 z5) rfl ⟨Nat.le_of_ble_eq_true rfl, Nat.le_of_ble_eq_true rfl⟩ (Nat.le_of_ble_eq_true rfl) ⟨Nat.le_of_ble_eq_true rfl, Nat.le_of_ble_eq_true rfl⟩ ?_
              rw [hrr]
              refine g_iload dX10_makesFit_138 (by rfl) ?_
              refine g_zret dX10_makesFit_140 rfl (by decide) (Nat.le_refl _) (Nat.le_refl _) ?_
              rw [eF]
              exact ⟨rfl, hS5.row, ⟨w, hr_a n51 z5, fun i hi => hw i (by omega) hi⟩, fun q hq => (hr_out q hq).trans (f5 q hq)⟩
            · skip
              have eF : fitF l (od r o) (dgf nv c N) r c = true := by
                first
                  | exact absurd hz64 h115
                  | (rw [hkc] at g1; refine (fitF_1 (x := od r o) g1).trans ?_; rw [← go]; exact bI_1 c4)
              refine g_iconst (v := 1) dX10_makesFit_127 (by decide) ?_
              refine g_goto (tgt := 132) dX10_makesFit_128 (by decide) ?_
              refine g_istore (L1 := [(0, _), (1, _), (2, _), (4, _), (6, _), (7, _)]) dX10_makesFit_132 (by decide) (by rfl) ?_
              refine g_aload_n dX10_makesFit_134 (by rfl) (by first | exact isRf_r | exact isRf_n | exact isRf_o | assumption) ?_
              refine g_cV0v dX10_makesFit_135 lX10_46 vX10_backs (ct_mBacks X hS5.row) (by first | exact m0 | exact hu_n1 n05 m0 | exact hu_same | exact hr_a n01 z0 | exact z0 | exact hr_a n51 z5) rfl ⟨Nat.le_of_ble_eq_true rfl, Nat.le_of_ble_eq_true rfl⟩ (Nat.le_of_ble_eq_true rfl) ⟨Nat.le_of_ble_eq_true rfl, Nat.le_of_ble_eq_true rfl⟩ ?_
              rw [hrr]
              refine g_iload dX10_makesFit_138 (by rfl) ?_
              refine g_zret dX10_makesFit_140 rfl (by decide) (Nat.le_refl _) (Nat.le_refl _) ?_
              rw [eF]
              exact ⟨rfl, hS5.row, ⟨w, hr_a n51 z5, fun i hi => hw i (by omega) hi⟩, fun q hq => (hr_out q hq).trans (f5 q hq)⟩
        · skip
          have hkc : k < c := c_nge (by omega) (by omega) c2
          refine g_iload dX10_makesFit_62 (by rfl) ?_
          refine g_if_eq (tgt := 113) dX10_makesFit_64 (by decide) (fun c5 => ?_) (fun c5 => ?_)
          · skip
            have hz64 := c5
            refine g_iload dX10_makesFit_113 (by rfl) ?_
            refine g_if_eq (tgt := 131) dX10_makesFit_115 (by decide) (fun c6 => ?_) (fun c6 => ?_)
            · skip
              have eF : fitF l (od r o) (dgf nv c N) r c = false := Hf (bI_0 c6)
              refine g_iconst (v := 0) dX10_makesFit_131 (by decide) ?_
              refine g_istore (L1 := [(0, _), (1, _), (2, _), (4, _), (6, _), (7, _)]) dX10_makesFit_132 (by decide) (by rfl) ?_
              refine g_aload_n dX10_makesFit_134 (by rfl) (by first | exact isRf_r | exact isRf_n | exact isRf_o | assumption) ?_
              refine g_cV0v dX10_makesFit_135 lX10_46 vX10_backs (ct_mBacks X hS5.row) (by first | exact m0 | exact hu_n1 n05 m0 | exact hu_same | exact hr_a n01 z0 | exact z0 | exact hr_a n51 z5) rfl ⟨Nat.le_of_ble_eq_true rfl, Nat.le_of_ble_eq_true rfl⟩ (Nat.le_of_ble_eq_true rfl) ⟨Nat.le_of_ble_eq_true rfl, Nat.le_of_ble_eq_true rfl⟩ ?_
              rw [hrr]
              refine g_iload dX10_makesFit_138 (by rfl) ?_
              refine g_zret dX10_makesFit_140 rfl (by decide) (Nat.le_refl _) (Nat.le_refl _) ?_
              rw [eF]
              exact ⟨rfl, hS5.row, ⟨w, hr_a n51 z5, fun i hi => hw i (by omega) hi⟩, fun q hq => (hr_out q hq).trans (f5 q hq)⟩
            · skip
              have h115 := c6
              have hb := bI_1 c6
              obtain ⟨g1, hOk, g7, g8, go⟩ := Ht hb
              have hlo := hOk.lk hnl g8 l hl
              refine g_aload_n dX10_makesFit_118 (by rfl) (by first | exact isRf_r | exact isRf_n | exact isRf_o | assumption) ?_
              refine g_iload_n dX10_makesFit_119 (by rfl) ?_
              refine g_iload_n dX10_makesFit_120 (by rfl) ?_
              refine g_cV2x dX10_makesFit_121 lX10_150 vX10_fits (ct_X10_fits X (l := l) (o := o) hM5.hr hl20 ho hlo.pos) (by first | exact m0 | exact hu_n1 n05 m0 | exact hu_same | exact hr_a n01 z0 | exact z0 | exact hr_a n51 z5) rfl ⟨Nat.le_of_ble_eq_true rfl, Nat.le_of_ble_eq_true rfl⟩ (Nat.le_of_ble_eq_true rfl) ⟨Nat.le_of_ble_eq_true rfl, Nat.le_of_ble_eq_true rfl⟩ ?_
              refine g_if_eq (tgt := 131) dX10_makesFit_124 (by decide) (fun c7 => ?_) (fun c7 => ?_)
              · skip
                have eF : fitF l (od r o) (dgf nv c N) r c = false := by
                  first
                    | exact absurd hz64 h115
                    | (rw [hkc] at g1; refine (fitF_1 (x := od r o) g1).trans ?_; rw [← go]; exact bI_0 c7)
                refine g_iconst (v := 0) dX10_makesFit_131 (by decide) ?_
                refine g_istore (L1 := [(0, _), (1, _), (2, _), (4, _), (6, _), (7, _)]) dX10_makesFit_132 (by decide) (by rfl) ?_
                refine g_aload_n dX10_makesFit_134 (by rfl) (by first | exact isRf_r | exact isRf_n | exact isRf_o | assumption) ?_
                refine g_cV0v dX10_makesFit_135 lX10_46 vX10_backs (ct_mBacks X hS5.row) (by first | exact m0 | exact hu_n1 n05 m0 | exact hu_same | exact hr_a n01 z0 | exact z0 | exact hr_a n51 z5) rfl ⟨Nat.le_of_ble_eq_true rfl, Nat.le_of_ble_eq_true rfl⟩ (Nat.le_of_ble_eq_true rfl) ⟨Nat.le_of_ble_eq_true rfl, Nat.le_of_ble_eq_true rfl⟩ ?_
                rw [hrr]
                refine g_iload dX10_makesFit_138 (by rfl) ?_
                refine g_zret dX10_makesFit_140 rfl (by decide) (Nat.le_refl _) (Nat.le_refl _) ?_
                rw [eF]
                exact ⟨rfl, hS5.row, ⟨w, hr_a n51 z5, fun i hi => hw i (by omega) hi⟩, fun q hq => (hr_out q hq).trans (f5 q hq)⟩
              · skip
                have eF : fitF l (od r o) (dgf nv c N) r c = true := by
                  first
                    | exact absurd hz64 h115
                    | (rw [hkc] at g1; refine (fitF_1 (x := od r o) g1).trans ?_; rw [← go]; exact bI_1 c7)
                refine g_iconst (v := 1) dX10_makesFit_127 (by decide) ?_
                refine g_goto (tgt := 132) dX10_makesFit_128 (by decide) ?_
                refine g_istore (L1 := [(0, _), (1, _), (2, _), (4, _), (6, _), (7, _)]) dX10_makesFit_132 (by decide) (by rfl) ?_
                refine g_aload_n dX10_makesFit_134 (by rfl) (by first | exact isRf_r | exact isRf_n | exact isRf_o | assumption) ?_
                refine g_cV0v dX10_makesFit_135 lX10_46 vX10_backs (ct_mBacks X hS5.row) (by first | exact m0 | exact hu_n1 n05 m0 | exact hu_same | exact hr_a n01 z0 | exact z0 | exact hr_a n51 z5) rfl ⟨Nat.le_of_ble_eq_true rfl, Nat.le_of_ble_eq_true rfl⟩ (Nat.le_of_ble_eq_true rfl) ⟨Nat.le_of_ble_eq_true rfl, Nat.le_of_ble_eq_true rfl⟩ ?_
                rw [hrr]
                refine g_iload dX10_makesFit_138 (by rfl) ?_
                refine g_zret dX10_makesFit_140 rfl (by decide) (Nat.le_refl _) (Nat.le_refl _) ?_
                rw [eF]
                exact ⟨rfl, hS5.row, ⟨w, hr_a n51 z5, fun i hi => hw i (by omega) hi⟩, fun q hq => (hr_out q hq).trans (f5 q hq)⟩
          · skip
            have hb := bI_1 c5
            obtain ⟨g1, hOk, g7, g8, go⟩ := Ht hb
            have hvk : dgf nv c N k < nv := Nat.mod_lt _ h0
            have hvk6 : dgf nv c N k < 6 := by omega
            have hlo := hOk.lk hnl g8 l hl
            have hvo : VOk (vt rk (dgf nv c N k)) := by
              obtain ⟨nv2, nl2, no2, a1, a2, a3, b7, b8, b9, c1, c2, -⟩ := id hOk
              have q := c_eq (a := nv) (b := nv2) (by omega) (by omega) (g7.symm.trans b7)
              exact c2 _ (by omega)
            obtain ⟨⟨d, hd, ed⟩, -⟩ := id hvo
            refine g_aload_n dX10_makesFit_67 (by rfl) (by first | exact isRf_r | exact isRf_n | exact isRf_o | assumption) ?_
            refine g_aload_n dX10_makesFit_68 (by rfl) (by first | exact isRf_r | exact isRf_n | exact isRf_o | assumption) ?_
            refine g_getf dX10_makesFit_69 fX10_22 (by first | exact m0 | exact hu_n1 n05 m0 | exact hu_same | exact hr_a n01 z0 | exact z0 | exact hr_a n51 z5) (by rfl) ?_
            refine g_iload dX10_makesFit_72 (by rfl) ?_
            refine g_iaN dX10_makesFit_74 (by first | exact m0 | exact hu_n1 n05 m0 | exact hu_same | exact hr_a n01 z0 | exact z0 | exact hr_a n51 z5) (show k < 4 by omega) (by omega) (by rfl) ?_
            rw [nr_lt (show k < 4 by omega), hw k (by omega) hkc]
            refine g_iconst (v := 2) dX10_makesFit_75 (by decide) ?_
            refine g_cV2x dX10_makesFit_76 lX10_57 vX10_vatNumber (ct_X10_vatNumber X (i := dgf nv c N k) (k := 2) hM5.hr (by omega)) (by first | exact m0 | exact hu_n1 n05 m0 | exact hu_same | exact hr_a n01 z0 | exact z0 | exact hr_a n51 z5) rfl ⟨Nat.le_of_ble_eq_true rfl, Nat.le_of_ble_eq_true rfl⟩ (Nat.le_of_ble_eq_true rfl) ⟨Nat.le_of_ble_eq_true rfl, Nat.le_of_ble_eq_true rfl⟩ ?_
            refine g_if_le (tgt := 86) dX10_makesFit_79 (by decide) (fun c8 => ?_) (fun c8 => ?_)
            · skip
              have hgr : ¬ 0 < vt rk (dgf nv c N k) 2 := fun z => i_nle z c8
              refine g_iconst (v := 0) dX10_makesFit_86 (by decide) ?_
              refine g_istore (L1 := [(0, _), (1, _), (2, _), (4, _), (6, _), (7, _)]) dX10_makesFit_87 (by decide) (by rfl) ?_
              refine g_iload dX10_makesFit_89 (by rfl) ?_
              refine g_if_eq (tgt := 107) dX10_makesFit_91 (by decide) (fun c9 => ?_) (fun c9 => absurd (by decide) c9)
              refine g_iinc (v := nI (k + 1)) (L1 := [(0, _), (1, _), (2, _), (4, _), (6, _), (7, _)]) dX10_makesFit_107 (by rfl) (nI_1 k) (by decide) (by rfl) ?_
              refine g_goto (tgt := 55) dX10_makesFit_110 (by decide) ?_
              first
                | exact ih2 hkc true _ (fun _ => ⟨(goF_u g1).trans (by rw [decide_eq_true hgr]; rfl), Ok_dye hOk hl20 hvk6 hlo hvo, (dye_lo (by omega) (by omega)).trans g7, (dye_lo (by omega) (by omega)).trans g8, (funext (fun i => dye_od hl20 hvk6)).trans go⟩) (fun z => (by cases z))
                | exact ih2 hkc false rk (fun z => (by cases z)) (fun _ => fitF_0 (goF_none (by omega) ((goF_u g1).trans (by rw [decide_eq_false hgr]; rfl))))
            · skip
              have hgr : 0 < vt rk (dgf nv c N k) 2 := i_ngt c8
              refine g_iconst (v := 1) dX10_makesFit_82 (by decide) ?_
              refine g_goto (tgt := 87) dX10_makesFit_83 (by decide) ?_
              refine g_istore (L1 := [(0, _), (1, _), (2, _), (4, _), (6, _), (7, _)]) dX10_makesFit_87 (by decide) (by rfl) ?_
              refine g_iload dX10_makesFit_89 (by rfl) ?_
              refine g_if_eq (tgt := 107) dX10_makesFit_91 (by decide) (fun c10 => absurd c10 (by decide)) (fun c10 => ?_)
              refine g_aload_n dX10_makesFit_94 (by rfl) (by first | exact isRf_r | exact isRf_n | exact isRf_o | assumption) ?_
              refine g_iload_n dX10_makesFit_95 (by rfl) ?_
              refine g_aload_n dX10_makesFit_96 (by rfl) (by first | exact isRf_r | exact isRf_n | exact isRf_o | assumption) ?_
              refine g_getf dX10_makesFit_97 fX10_22 (by first | exact m0 | exact hu_n1 n05 m0 | exact hu_same | exact hr_a n01 z0 | exact z0 | exact hr_a n51 z5) (by rfl) ?_
              refine g_iload dX10_makesFit_100 (by rfl) ?_
              refine g_iaN dX10_makesFit_102 (by first | exact m0 | exact hu_n1 n05 m0 | exact hu_same | exact hr_a n01 z0 | exact z0 | exact hr_a n51 z5) (show k < 4 by omega) (by omega) (by rfl) ?_
              rw [nr_lt (show k < 4 by omega), hw k (by omega) hkc]
              refine g_cV2x dX10_makesFit_103 lX10_103 vX10_dyes (ct_X10_dyes X hM5.hr hOk hl20 hvk6 hlo hvo hd ed rfl) (by first | exact m0 | exact hu_n1 n05 m0 | exact hu_same | exact hr_a n01 z0 | exact z0 | exact hr_a n51 z5) rfl ⟨Nat.le_of_ble_eq_true rfl, Nat.le_of_ble_eq_true rfl⟩ (Nat.le_of_ble_eq_true rfl) ⟨Nat.le_of_ble_eq_true rfl, Nat.le_of_ble_eq_true rfl⟩ ?_
              rw [hrr]
              refine g_pop dX10_makesFit_106 (by rfl) ?_
              refine g_iinc (v := nI (k + 1)) (L1 := [(0, _), (1, _), (2, _), (4, _), (6, _), (7, _)]) dX10_makesFit_107 (by rfl) (nI_1 k) (by decide) (by rfl) ?_
              refine g_goto (tgt := 55) dX10_makesFit_110 (by decide) ?_
              first
                | exact ih2 hkc true _ (fun _ => ⟨(goF_u g1).trans (by rw [decide_eq_true hgr]; rfl), Ok_dye hOk hl20 hvk6 hlo hvo, (dye_lo (by omega) (by omega)).trans g7, (dye_lo (by omega) (by omega)).trans g8, (funext (fun i => dye_od hl20 hvk6)).trans go⟩) (fun z => (by cases z))
                | exact ih2 hkc false rk (fun z => (by cases z)) (fun _ => fitF_0 (goF_none (by omega) ((goF_u g1).trans (by rw [decide_eq_false hgr]; rfl))))
      refine g_pick [0, 1, 2, 4, 6, 7] rfl ?_
      have l55 := loop55 0 (by omega) true r (fun _ => ⟨rfl, hO, e7, e8, rfl⟩) (fun z => (by cases z))
      rw [hr_id hS5.2.2.1] at l55
      exact l55
    · skip
      have hjn : ¬ c - j = 0 := fun z => c1 ((pm1 (by omega)).mpr z)
      obtain ⟨m, hm⟩ : ∃ m, c - j = m + 1 := ⟨c - j - 1, by omega⟩
      refine g_aload_n dX10_makesFit_14 (by rfl) (by first | exact isRf_r | exact isRf_n | exact isRf_o | assumption) ?_
      refine g_getf dX10_makesFit_15 fX10_22 (by first | exact m0 | exact hu_n1 n05 m0 | exact hu_same | exact hr_a n01 z0 | exact z0 | exact hr_a n51 z5) (by rfl) ?_
      refine g_iload dX10_makesFit_18 (by rfl) ?_
      rw [hm, nI_pred]
      refine g_iload dX10_makesFit_20 (by rfl) ?_
      refine g_aload_n dX10_makesFit_22 (by rfl) (by first | exact isRf_r | exact isRf_n | exact isRf_o | assumption) ?_
      refine g_getf dX10_makesFit_23 fX10_7 (by first | exact m0 | exact hu_n1 n05 m0 | exact hu_same | exact hr_a n01 z0 | exact z0 | exact hr_a n51 z5) (by rfl) ?_
      refine g_bipush (v := 7) dX10_makesFit_26 (by decide) ?_
      refine g_ilM (7) dX10_makesFit_28 (by first | exact hu_n1 n15 m1 | exact hr_n) (by first | rfl | exact lin3 | exact lin3a | exact linA | exact linB) (by omega) ?_
      rw [e7]
      refine g_irem dX10_makesFit_29 hnz ?_
      rw [pk_rem hNj h0 (by omega)]
      refine g_isN dX10_makesFit_30 (by first | exact m0 | exact hu_n1 n05 m0 | exact hu_same | exact hr_a n01 z0 | exact z0 | exact hr_a n51 z5) (show m < 4 by omega) (by omega) ?_
      rw [nr_up (show m < 4 by omega), hu_hu]
      refine g_iload dX10_makesFit_31 (by rfl) ?_
      refine g_aload_n dX10_makesFit_33 (by rfl) (by first | exact isRf_r | exact isRf_n | exact isRf_o | assumption) ?_
      refine g_getf dX10_makesFit_34 fX10_7 (by first | exact m0 | exact hu_n1 n05 m0 | exact hu_same | exact hr_a n01 z0 | exact z0 | exact hr_a n51 z5) (by rfl) ?_
      refine g_bipush (v := 7) dX10_makesFit_37 (by decide) ?_
      refine g_ilM (7) dX10_makesFit_39 (by first | exact hu_n1 n15 m1 | exact hr_n) (by first | rfl | exact lin3 | exact lin3a | exact linA | exact linB) (by omega) ?_
      rw [e7]
      refine g_idiv dX10_makesFit_40 hnz ?_
      rw [pk_div hNj h0 (by omega)]
      refine g_istore (L1 := [(0, _), (1, _), (2, _), (3, _), (4, _), (5, _), (6, _)]) dX10_makesFit_41 (by decide) (by rfl) ?_
      refine g_iinc (v := nI m - 1) (L1 := [(0, _), (1, _), (2, _), (3, _), (4, _), (5, _), (6, _)]) dX10_makesFit_43 (by rfl) nI_sub1.symm (by decide) (by rfl) ?_
      refine g_goto (tgt := 9) dX10_makesFit_46 (by decide) ?_
      have z := ih (by omega) (upd w m (nI (N / nv ^ j % nv))) (fun i a b => by
        by_cases e : i = m
        · rw [e, upd_s]
          unfold dgf
          rw [show c - 1 - m = j by omega]
        · rw [upd_n e]
          exact hw i (by omega) b)
      rw [show c - (j + 1) = m by omega, Nat.pow_succ, ← Nat.div_div_eq_div_mul] at z
      exact z
  have l9 := loop9 0 (by omega) w5 (fun i a b => absurd b (by omega))
  rw [Nat.sub_zero, Nat.pow_zero, Nat.div_one, hu_id k5] at l9
  exact l9
