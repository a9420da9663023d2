def plnM (o : Option (Nat × List Nat)) : Int32 := match o with
  | none => -4
  | some (d, _) => nI d
theorem pln_skip {l : Nat} {x r : Nat → Int32} : ∀ c, c ≤ 5 → (∀ d, d < c → rch l x d r = none) → plnF l x r 0 5 = plnF l x r c (5 - c) := by
  intro c
  induction c with
  | zero => exact fun _ _ => rfl
  | succ c ih =>
    intro hc h
    rw [ih (by omega) (fun d hd => h d (by omega)), show 5 - c = (5 - (c + 1)) + 1 by omega]
    exact pln_n (h c (by omega))
theorem rch_0 {l : Nat} {x r : Nat → Int32} : rch l x 0 r = cond (fitB (ltx r l) x r) (some []) none := rfl
theorem pow_0 {nv c N : Nat} (h : N < nv ^ (c + 1)) : 0 < nv := by
  rcases Nat.eq_zero_or_pos nv with z | z
  · rw [z, Nat.pow_succ, Nat.mul_zero] at h
    omega
  · exact z
theorem rch_hit {l nv c N : Nat} {x r : Nat → Int32} (h7 : cl (r 7) = nv) (hN : N < nv ^ c) (e : fitF l x (dgf nv c N) r c = true) (hb : ∀ N2, N2 < N → fitF l x (dgf nv c N2) r c = false) : ∃ p, rch l x c r = some p ∧ ∀ i, i < c → p.getD i 0 = dgf nv c N i := by
  obtain ⟨a, b⟩ := rch_e (l := l) (x := x) c r h7
  cases hr : rch l x c r with
  | none =>
    have z := a hr N hN
    rw [e] at z
    cases z
  | some p =>
    obtain ⟨N0, g1, g2, g3, g4⟩ := b p hr
    have q : N0 = N := by
      rcases Nat.lt_trichotomy N0 N with z | z | z
      · have y := hb N0 z
        rw [g2] at y
        cases y
      · exact z
      · have y := g3 N z
        rw [e] at y
        cases y
    subst q
    exact ⟨p, rfl, g4⟩
theorem rch_miss {l nv c : Nat} {x r : Nat → Int32} (h7 : cl (r 7) = nv) (hb : ∀ N2, N2 < nv ^ c → fitF l x (dgf nv c N2) r c = false) : rch l x c r = none := by
  obtain ⟨a, b⟩ := rch_e (l := l) (x := x) c r h7
  cases hr : rch l x c r with
  | none => rfl
  | some p =>
    obtain ⟨N0, g1, g2, g3, g4⟩ := b p hr
    have y := hb N0 g1
    rw [g2] at y
    cases y

set_option maxHeartbeats 4000000 in
set_option maxRecDepth 100000 in
theorem ct_X10_plans (X : Cx) {h : Hp} {M : Nat → Nat} {r : Nat → Int32} {n tn : Nat} {rows : Nat → Nat → Int32} {tg : Nat → Int32} {l o nl nv : Nat}  (hO : Ok r) (hl : l < nl) (hnl : nl ≤ 20) (e8 : r 8 = nI nl) (e7 : r 7 = nI nv) (hnv : nv ≤ 6) (ho : o < 60) (hD : MdAt X h M r n rows tn tg) : Ct X mX10_plans 5 0 0 [.ref (M 0), .int (nI l), .int (nI o)] h (fun u h1 => MdS X h1 M r r n rows tn tg ∧ (∀ q, outM M q → h1 q = h q) ∧ ∃ w, h1 (M 5) = some (oI X 4 (nr 4 w)) ∧ u = some (.int (plnM (plnF l (od r o) r 0 5))) ∧ ∀ d p, plnF l (od r o) r 0 5 = some (d, p) → d ≤ 4 ∧ ∀ i, i < d → w i = nI (p.getD i 0)) := by
  obtain ⟨s0, hS⟩ := id hD
  have hM := hS.mo
  obtain ⟨⟨n2, st, n3, n4, le, n5, at0, lt, n6, fl, n7, m0⟩, m1⟩ := id hM
  unfold mdl at m0
  have dA := hM.ne
  have hlo := hO.lk hnl e8 l hl
  have h7 : cl (r 7) = nv := by rw [e7, cl_nI (by omega)]
  refine Ct.ofG vX10_plans.1.2.2.1 (Nat.le_of_ble_eq_true rfl) ?_
  show G X RX10 cX10_plans 6 (some .int) "plans" (Rm 5 0 0) (Fm X (fun u h1 => MdS X h1 M r r n rows tn tg ∧ (∀ q, outM M q → h1 q = h q) ∧ ∃ w, h1 (M 5) = some (oI X 4 (nr 4 w)) ∧ u = some (.int (plnM (plnF l (od r o) r 0 5))) ∧ ∀ d p, plnF l (od r o) r 0 5 = some (d, p) → d ≤ 4 ∧ ∀ i, i < d → w i = nI (p.getD i 0)) 0 0) 0 0 0 [(0, .ref (M 0)), (1, .int (nI l)), (2, .int (nI o))] [] h
  refine g_aload_n dX10_plans_0 (by rfl) (by first | exact isRf_r | exact isRf_n | exact isRf_o | assumption) ?_
  refine g_cV0v dX10_plans_1 lX10_61 vX10_asides (ct_mAsides X hD).1 (by first | exact m0 | exact k0 | exact xa | exact xb) rfl ⟨Nat.le_of_ble_eq_true rfl, Nat.le_of_ble_eq_true rfl⟩ (Nat.le_of_ble_eq_true rfl) ⟨Nat.le_of_ble_eq_true rfl, Nat.le_of_ble_eq_true rfl⟩ ?_
  have hS1 := (ct_mAsides X hD).2.1
  have hf1 := (ct_mAsides X hD).2.2
  generalize hu h (M 3) (oI X 643 (nr 643 r)) = hh at hS1 hf1 ⊢
  have hM1 := hS1.mo
  obtain ⟨⟨n2', st', n3', n4', le', n5', at0', lt', n6', fl', n7', k0⟩, k1⟩ := id hM1
  unfold mdl at k0
  refine g_aload_n dX10_plans_4 (by rfl) (by first | exact isRf_r | exact isRf_n | exact isRf_o | assumption) ?_
  refine g_iload_n dX10_plans_5 (by rfl) ?_
  refine g_iload_n dX10_plans_6 (by rfl) ?_
  refine g_cV2x dX10_plans_7 lX10_150 vX10_fits (ct_X10_fits X (l := l) (o := o) hM1 (by omega) ho hlo.pos) (by first | exact m0 | exact k0 | exact xa | exact xb) rfl ⟨Nat.le_of_ble_eq_true rfl, Nat.le_of_ble_eq_true rfl⟩ (Nat.le_of_ble_eq_true rfl) ⟨Nat.le_of_ble_eq_true rfl, Nat.le_of_ble_eq_true rfl⟩ ?_
  refine g_if_eq (tgt := 15) dX10_plans_10 (by decide) (fun c1 => ?_) (fun c1 => ?_)
  · skip
    have hfit : fitB (ltx r l) (od r o) r = false := bI_0 c1
    refine g_iconst (v := 1) dX10_plans_15 (by decide) ?_
    refine g_istore_n (L1 := [(0, _), (1, _), (2, _), (3, _)]) dX10_plans_16 (by decide) (by rfl) ?_
    refine g_iconst (v := 1) dX10_plans_17 (by decide) ?_
    refine g_istore (L1 := [(0, _), (1, _), (2, _), (3, _), (4, _)]) dX10_plans_18 (by decide) (by rfl) ?_
    have loop20 : ∀ c, c ≤ 4 → ∀ hx : Hp, MdS X hx M r r n rows tn tg → (∀ q, outM M q → hx q = h q) → (∀ d, d < c + 1 → rch l (od r o) d r = none) → G X RX10 cX10_plans 6 (some .int) "plans" (Rm 5 0 0) (Fm X (fun u h1 => MdS X h1 M r r n rows tn tg ∧ (∀ q, outM M q → h1 q = h q) ∧ ∃ w, h1 (M 5) = some (oI X 4 (nr 4 w)) ∧ u = some (.int (plnM (plnF l (od r o) r 0 5))) ∧ ∀ d p, plnF l (od r o) r 0 5 = some (d, p) → d ≤ 4 ∧ ∀ i, i < d → w i = nI (p.getD i 0)) 0 0) 0 0 20 [(0, .ref (M 0)), (1, .int (nI l)), (2, .int (nI o)), (3, .int (nI (nv ^ c))), (4, .int (nI (c + 1)))] [] hx := by
      refine up_ind 4 (fun c hc ih => ?_)
      intro hx hSa fa hnone
      obtain ⟨pa, la, fla, xa⟩ := md_m hSa
      have xa1 := hSa.2.2.1
      have hpw := pw_1296 (c := c) hnv hc
      refine g_iload dX10_plans_20 (by rfl) ?_
      refine g_iconst (v := 5) dX10_plans_22 (by decide) ?_
      refine g_icmp_ge (tgt := 73) dX10_plans_23 (by decide) (fun c2 => ?_) (fun c2 => ?_)
      · skip
        have h5 := c_ge (a := 5) (b := c + 1) (by omega) (by omega) c2
        refine g_bipush (v := (-4)) dX10_plans_73 (by decide) ?_
        refine g_iret dX10_plans_75 rfl (Nat.le_refl _) (Nat.le_refl _) ?_
        have e4 : c = 4 := by omega
        have eP : plnF l (od r o) r 0 5 = none := by
          rw [pln_skip 5 (by omega) (fun d hd => hnone d (by omega))]
          rfl
        obtain ⟨-, -, -, -, -, -, ⟨w5, k5⟩, -⟩ := id hSa
        rw [eP]
        exact ⟨hSa, fa, w5, k5, rfl, fun d p e => by cases e⟩
      · skip
        have h5 : c + 1 < 5 := c_nge (a := 5) (b := c + 1) (by omega) (by omega) c2
        refine g_iload_n dX10_plans_26 (by rfl) ?_
        refine g_aload_n dX10_plans_27 (by rfl) (by first | exact isRf_r | exact isRf_n | exact isRf_o | assumption) ?_
        refine g_getf dX10_plans_28 fX10_7 (by first | exact m0 | exact k0 | exact xa | exact xb) (by rfl) ?_
        refine g_bipush (v := 7) dX10_plans_31 (by decide) ?_
        refine g_ilM (7) dX10_plans_33 (by first | exact xb1 | exact xa1 | exact k1) (by first | rfl | exact lin3 | exact lin3a | exact linA | exact linB) (by omega) ?_
        rw [e7]
        refine g_imul dX10_plans_34 ?_
        rw [nI_mul, ← Nat.pow_succ]
        refine g_istore_n (L1 := [(0, _), (1, _), (2, _), (3, _), (4, _)]) dX10_plans_35 (by decide) (by rfl) ?_
        refine g_iconst (v := 0) dX10_plans_36 (by decide) ?_
        refine g_istore (L1 := [(0, _), (1, _), (2, _), (3, _), (4, _), (5, _)]) dX10_plans_37 (by decide) (by rfl) ?_
        have loop39 : ∀ N, N ≤ nv ^ (c + 1) → ∀ hz : Hp, MdS X hz M r r n rows tn tg → (∀ q, outM M q → hz q = h q) → (∀ N2, N2 < N → fitF l (od r o) (dgf nv (c + 1) N2) r (c + 1) = false) → G X RX10 cX10_plans 6 (some .int) "plans" (Rm 5 0 0) (Fm X (fun u h1 => MdS X h1 M r r n rows tn tg ∧ (∀ q, outM M q → h1 q = h q) ∧ ∃ w, h1 (M 5) = some (oI X 4 (nr 4 w)) ∧ u = some (.int (plnM (plnF l (od r o) r 0 5))) ∧ ∀ d p, plnF l (od r o) r 0 5 = some (d, p) → d ≤ 4 ∧ ∀ i, i < d → w i = nI (p.getD i 0)) 0 0) 0 0 39 [(0, .ref (M 0)), (1, .int (nI l)), (2, .int (nI o)), (3, .int (nI (nv ^ (c + 1)))), (4, .int (nI (c + 1))), (5, .int (nI N))] [] hz := by
          have hpw1 := pw_1296 (c := c + 1) hnv (by omega)
          refine up_ind (nv ^ (c + 1)) (fun N hN ih2 => ?_)
          intro hz hSb fb hno
          obtain ⟨pb, lb, flb, xb⟩ := md_m hSb
          have xb1 := hSb.2.2.1
          refine g_iload dX10_plans_39 (by rfl) ?_
          refine g_iload_n dX10_plans_41 (by rfl) ?_
          refine g_icmp_ge (tgt := 67) dX10_plans_42 (by decide) (fun c3 => ?_) (fun c3 => ?_)
          · skip
            have hNe : N = nv ^ (c + 1) := Nat.le_antisymm hN (c_ge (by omega) (by omega) c3)
            refine g_iinc (v := nI (c + 1 + 1)) (L1 := [(0, _), (1, _), (2, _), (3, _), (4, _), (5, _)]) dX10_plans_67 (by rfl) (nI_1 (c + 1)) (by decide) (by rfl) ?_
            refine g_goto (tgt := 20) dX10_plans_70 (by decide) ?_
            refine g_pick [0, 1, 2, 3, 4] rfl ?_
            exact ih (by omega) _ hSb fb (fun d hd => by
              by_cases e : d = c + 1
              · rw [e]
                exact rch_miss h7 (fun N2 h2 => hno N2 (by omega))
              · exact hnone d (by omega))
          · skip
            have hNl : N < nv ^ (c + 1) := c_nge (by omega) (by omega) c3
            refine g_aload_n dX10_plans_45 (by rfl) (by first | exact isRf_r | exact isRf_n | exact isRf_o | assumption) ?_
            refine g_iload_n dX10_plans_46 (by rfl) ?_
            refine g_iload_n dX10_plans_47 (by rfl) ?_
            refine g_iload dX10_plans_48 (by rfl) ?_
            refine g_iload dX10_plans_50 (by rfl) ?_
            refine g_cV4 dX10_plans_52 lX10_162 vX10_makesFit (ct_X10_makesFit X (c := c + 1) hSb hO hl hnl e8 e7 hnv (pow_0 hNl) ho (by omega) hNl) (by first | exact m0 | exact k0 | exact xa | exact xb) rfl ⟨Nat.le_of_ble_eq_true rfl, Nat.le_of_ble_eq_true rfl⟩ (Nat.le_of_ble_eq_true rfl) ⟨Nat.le_of_ble_eq_true rfl, Nat.le_of_ble_eq_true rfl⟩ ?_
            rintro _ hy ⟨rfl, hSy, ⟨w, y5, hw⟩, fy⟩
            refine g_stk (st' := [.int _]) rfl ?_
            have fyh : ∀ q, outM M q → hy q = h q := fun q hq => (fy q hq).trans (fb q hq)
            refine g_if_eq (tgt := 61) dX10_plans_55 (by decide) (fun c4 => ?_) (fun c4 => ?_)
            · skip
              have hmiss := bI_0 c4
              refine g_iinc (v := nI (N + 1)) (L1 := [(0, _), (1, _), (2, _), (3, _), (4, _), (5, _)]) dX10_plans_61 (by rfl) (nI_1 N) (by decide) (by rfl) ?_
              refine g_goto (tgt := 39) dX10_plans_64 (by decide) ?_
              exact ih2 hNl _ hSy fyh (fun N2 h2 => by
                by_cases e : N2 = N
                · rw [e]
                  exact hmiss
                · exact hno N2 (by omega))
            · skip
              have hhit := bI_1 c4
              refine g_iload dX10_plans_58 (by rfl) ?_
              refine g_iret dX10_plans_60 rfl (Nat.le_refl _) (Nat.le_refl _) ?_
              obtain ⟨p, e1, e2⟩ := rch_hit h7 hNl hhit hno
              have eP : plnF l (od r o) r 0 5 = some (c + 1, p) := by
                rw [pln_skip (c + 1) (by omega) hnone, show 5 - (c + 1) = (4 - (c + 1)) + 1 by omega]
                exact pln_s e1
              rw [eP]
              exact ⟨hSy, fyh, w, y5, rfl, fun d p2 e => by cases e; exact ⟨by omega, fun i hi => (hw i hi).trans (by rw [e2 i hi])⟩⟩
        exact loop39 0 (Nat.zero_le _) _ hSa fa (fun N2 h2 => absurd h2 (by omega))
    have l20 := loop20 0 (by omega) _ hS1 hf1 (fun d hd => by
      rw [show d = 0 by omega, rch_0, hfit]
      rfl)
    rw [Nat.pow_zero] at l20
    exact l20
  · skip
    have hfit : fitB (ltx r l) (od r o) r = true := bI_1 c1
    refine g_iconst (v := 0) dX10_plans_13 (by decide) ?_
    refine g_iret dX10_plans_14 rfl (Nat.le_refl _) (Nat.le_refl _) ?_
    have eP : plnF l (od r o) r 0 5 = some (0, []) := pln_s (c := 4) (by rw [rch_0, hfit]; rfl)
    obtain ⟨-, -, -, -, -, -, ⟨w5, k5⟩, -⟩ := id hS1
    rw [eP]
    exact ⟨hS1, hf1, w5, k5, rfl, fun d p e => by cases e; exact ⟨by omega, fun i hi => absurd hi (by omega)⟩⟩

def qplM (o : Option (Nat × List Nat)) (k : Int32) : Int32 := match o with
  | none => -4
  | some (d, p) => cond (decide (k < nI d)) (cond (decide (0 ≤ k)) (nI (p.getD (cl k) 0)) (nI d)) (-4)
theorem Q_plan_e {r : Nat → Int32} {w o k : Int32} : Q_plan r w o k = cond (okB (r 8) w && (okB (r 9) o && decide (-1 ≤ k))) (cond (sold r (cl w)) (-2) (qplM (plnF (cl w) (od r (cl o)) r 0 5) k)) (-1) := rfl
theorem m1_le {k : Int32} : (-1 : Int32) ≤ k ↔ -1 ≤ k.toInt := by
  rw [i_le, show (-1 : Int32).toInt = -1 by decide]

set_option maxHeartbeats 4000000 in
set_option maxRecDepth 100000 in
theorem ct_X10_plan (X : Cx) {h : Hp} {M : Nat → Nat} {r : Nat → Int32} {n tn : Nat} {rows : Nat → Nat → Int32} {tg : Nat → Int32} {w z k : Int32}  (hO : Ok r) (hD : MdAt X h M r n rows tn tg) : Ct X mX10_plan 6 0 0 [.ref (M 0), .int w, .int z, .int k] h (fun u h1 => u = some (.int (Q_plan r w z k)) ∧ MdTo X h h1 M r n rows tn tg) := by
  obtain ⟨s0, hS⟩ := id hD
  have hM := hS.mo
  obtain ⟨⟨n2, st, n3, n4, le, n5, at0, lt, n6, fl, n7, m0⟩, m1⟩ := id hM
  unfold mdl at m0
  have dA := hM.ne
  obtain ⟨nv, nl, no, hnv, hnl, hno, e7, e8, e9, hset, hvok, hvz, hlok, hlz, hok, hoz, hw⟩ := id hO
  refine Ct.ofG vX10_plan.1.2.2.1 (Nat.le_of_ble_eq_true rfl) ?_
  show G X RX10 cX10_plan 5 (some .int) "plan" (Rm 6 0 0) (Fm X (fun u h1 => u = some (.int (Q_plan r w z k)) ∧ MdTo X h h1 M r n rows tn tg) 0 0) 0 0 0 [(0, .ref (M 0)), (1, .int w), (2, .int z), (3, .int k)] [] h
  refine g_aload_n dX10_plan_0 (by rfl) (by first | exact isRf_r | exact isRf_n | exact isRf_o | assumption) ?_
  refine g_iload_n dX10_plan_1 (by rfl) ?_
  refine g_cV1x dX10_plan_2 lX10_94 vX10_isLot (ct_X10_isLot X (n := nl) (by first | exact hM | exact hM.hr) (by omega) e8) (by first | exact m0 | exact xa | exact xw) rfl ⟨Nat.le_of_ble_eq_true rfl, Nat.le_of_ble_eq_true rfl⟩ (Nat.le_of_ble_eq_true rfl) ⟨Nat.le_of_ble_eq_true rfl, Nat.le_of_ble_eq_true rfl⟩ ?_
  refine g_if_eq (tgt := 21) dX10_plan_5 (by decide) (fun c1 => ?_) (fun c1 => ?_)
  · skip
    have eF : Q_plan r w z k = -1 := by
      unfold Q_plan
      rw [e8, show okB (nI nl) w = false from bI_0 c1]
      rfl
    refine g_iconst (v := (-1)) dX10_plan_21 (by decide) ?_
    refine g_iret dX10_plan_22 rfl (Nat.le_refl _) (Nat.le_refl _) ?_
    rw [eF]
    exact ⟨rfl, hD, fun q _ => rfl⟩
  · skip
    have hk : okB (nI nl) w = true := bI_1 c1
    obtain ⟨l, hl, rfl⟩ := okB_i (by omega) hk
    have cj : cl (nI l) = l := cl_nI (by omega)
    have hlo := hlok l hl
    have hl20 : l < 20 := by omega
    refine g_aload_n dX10_plan_8 (by rfl) (by first | exact isRf_r | exact isRf_n | exact isRf_o | assumption) ?_
    refine g_iload_n dX10_plan_9 (by rfl) ?_
    refine g_cV1x dX10_plan_10 lX10_147 vX10_isOrder (ct_X10_isOrder X (n := no) (by first | exact hM | exact hM.hr) (by omega) e9) (by first | exact m0 | exact xa | exact xw) rfl ⟨Nat.le_of_ble_eq_true rfl, Nat.le_of_ble_eq_true rfl⟩ (Nat.le_of_ble_eq_true rfl) ⟨Nat.le_of_ble_eq_true rfl, Nat.le_of_ble_eq_true rfl⟩ ?_
    refine g_if_eq (tgt := 21) dX10_plan_13 (by decide) (fun c2 => ?_) (fun c2 => ?_)
    · skip
      have eF : Q_plan r (nI l) z k = -1 := by
        unfold Q_plan
        rw [e8, e9, hk, show okB (nI no) z = false from bI_0 c2]
        rfl
      refine g_iconst (v := (-1)) dX10_plan_21 (by decide) ?_
      refine g_iret dX10_plan_22 rfl (Nat.le_refl _) (Nat.le_refl _) ?_
      rw [eF]
      exact ⟨rfl, hD, fun q _ => rfl⟩
    · skip
      have hko : okB (nI no) z = true := bI_1 c2
      obtain ⟨o, ho, rfl⟩ := okB_i (by omega) hko
      have co : cl (nI o) = o := cl_nI (by omega)
      have hob := hok o ho
      refine g_iload_n dX10_plan_16 (by rfl) ?_
      refine g_iconst (v := (-1)) dX10_plan_17 (by decide) ?_
      refine g_icmp_ge (tgt := 23) dX10_plan_18 (by decide) (fun c3 => ?_) (fun c3 => ?_)
      · skip
        have hk1 : -1 ≤ k := c3
        refine g_aload_n dX10_plan_23 (by rfl) (by first | exact isRf_r | exact isRf_n | exact isRf_o | assumption) ?_
        refine g_iload_n dX10_plan_24 (by rfl) ?_
        refine g_cV1x dX10_plan_25 lX10_97 vX10_isSold (ct_X10_isSold X (l := l) hM (by omega) hlo.s13) (by first | exact m0 | exact xa | exact xw) rfl ⟨Nat.le_of_ble_eq_true rfl, Nat.le_of_ble_eq_true rfl⟩ (Nat.le_of_ble_eq_true rfl) ⟨Nat.le_of_ble_eq_true rfl, Nat.le_of_ble_eq_true rfl⟩ ?_
        refine g_if_eq (tgt := 34) dX10_plan_28 (by decide) (fun c4 => ?_) (fun c4 => ?_)
        · skip
          have hs0 := bI_0 c4
          refine g_aload_n dX10_plan_34 (by rfl) (by first | exact isRf_r | exact isRf_n | exact isRf_o | assumption) ?_
          refine g_iload_n dX10_plan_35 (by rfl) ?_
          refine g_iload_n dX10_plan_36 (by rfl) ?_
          refine g_cV2 dX10_plan_37 lX10_166 vX10_plans (ct_X10_plans X hO hl hnl e8 e7 hnv (show o < 60 by omega) hD) (by first | exact m0 | exact xa | exact xw) rfl ⟨Nat.le_of_ble_eq_true rfl, Nat.le_of_ble_eq_true rfl⟩ (Nat.le_of_ble_eq_true rfl) ⟨Nat.le_of_ble_eq_true rfl, Nat.le_of_ble_eq_true rfl⟩ ?_
          rintro u h2 ⟨hS2, f2, w5, xw, rfl, hpp⟩
          refine g_stk (st' := [.int _]) rfl ?_
          obtain ⟨pa, la, fla, xa⟩ := md_m hS2
          generalize ePL : plnF l (od r o) r 0 5 = PL at hpp ⊢
          have eQ : Q_plan r (nI l) (nI o) k = qplM PL k := by
            rw [Q_plan_e, e8, e9, hk, hko, decide_eq_true hk1, cj, co, hs0, ePL]
            rfl
          have hfin : MdTo X h h2 M r n rows tn tg := ⟨⟨r, hS2⟩, f2⟩
          rcases PL with _ | ⟨d, p⟩
          · skip
            have hn4 : plnM none = -4 := rfl
            rw [hn4]
            refine g_istore (L1 := [(0, _), (1, _), (2, _), (3, _), (4, _)]) dX10_plan_40 (by decide) (by rfl) ?_
            refine g_iload_n dX10_plan_42 (by rfl) ?_
            refine g_iconst (v := (-1)) dX10_plan_43 (by decide) ?_
            refine g_icmp_eq (tgt := 52) dX10_plan_44 (by decide) (fun c5 => ?_) (fun c5 => ?_)
            · skip
              have hm1 : k = -1 := c5
              refine g_iload dX10_plan_52 (by rfl) ?_
              refine g_goto (tgt := 74) dX10_plan_54 (by decide) ?_
              refine g_iret dX10_plan_74 rfl (Nat.le_refl _) (Nat.le_refl _) ?_
              first
                | exact absurd h49 (by decide)
                | exact absurd h49 (nI_ge0 (by omega))
                | (rw [eQ]; exact ⟨rfl, hfin⟩)
                | (rw [eQ, hm1]; refine ⟨?_, hfin⟩; show _ = some (Value.int (cond (decide (-1 < nI d)) (cond (decide ((0 : Int32) ≤ -1)) _ (nI d)) (-4))); rw [decide_eq_true (show (-1 : Int32) < nI d from by rw [i_lt, i_nI (by omega), show (-1 : Int32).toInt = -1 by decide]; omega), decide_eq_false (by decide)]; rfl)
                | (rw [eQ]; refine ⟨?_, hfin⟩; show _ = some (Value.int (cond (decide (k < nI d)) _ (-4))); rw [decide_eq_false (fun y => i_nle y h60)]; rfl)
                | (rw [eQ]; refine ⟨?_, hfin⟩; show _ = some (Value.int (cond (decide (nI j < nI d)) (cond (decide (0 ≤ nI j)) (nI (p.getD (cl (nI j)) 0)) (nI d)) (-4))); rw [decide_eq_true h60, decide_eq_true hk0, cl_nI (by omega), nr_lt (show j < 4 by omega), hdig j ((nI_ltI (by omega) (by omega)).mp h60)]; rfl)
            · skip
              have hm2 : ¬ k = -1 := c5
              have hk0 : 0 ≤ k := by
                have y := m1_le.mp hk1
                have q : k.toInt ≠ -1 := fun e => hm2 (Int32.toInt_inj.mp (by rw [e]; decide))
                rw [i_le, z_toInt]
                omega
              refine g_iload dX10_plan_47 (by rfl) ?_
              refine g_if_ge (tgt := 57) dX10_plan_49 (by decide) (fun c6 => ?_) (fun c6 => ?_)
              · skip
                have h49 : (0 : Int32) ≤ _ := c6
                refine g_iload_n dX10_plan_57 (by rfl) ?_
                refine g_iload dX10_plan_58 (by rfl) ?_
                refine g_icmp_ge (tgt := 72) dX10_plan_60 (by decide) (fun c7 => ?_) (fun c7 => ?_)
                · skip
                  have h60 := c7
                  refine g_bipush (v := (-4)) dX10_plan_72 (by decide) ?_
                  refine g_iret dX10_plan_74 rfl (Nat.le_refl _) (Nat.le_refl _) ?_
                  first
                    | exact absurd h49 (by decide)
                    | exact absurd h49 (nI_ge0 (by omega))
                    | (rw [eQ]; exact ⟨rfl, hfin⟩)
                    | (rw [eQ, hm1]; refine ⟨?_, hfin⟩; show _ = some (Value.int (cond (decide (-1 < nI d)) (cond (decide ((0 : Int32) ≤ -1)) _ (nI d)) (-4))); rw [decide_eq_true (show (-1 : Int32) < nI d from by rw [i_lt, i_nI (by omega), show (-1 : Int32).toInt = -1 by decide]; omega), decide_eq_false (by decide)]; rfl)
                    | (rw [eQ]; refine ⟨?_, hfin⟩; show _ = some (Value.int (cond (decide (k < nI d)) _ (-4))); rw [decide_eq_false (fun y => i_nle y h60)]; rfl)
                    | (rw [eQ]; refine ⟨?_, hfin⟩; show _ = some (Value.int (cond (decide (nI j < nI d)) (cond (decide (0 ≤ nI j)) (nI (p.getD (cl (nI j)) 0)) (nI d)) (-4))); rw [decide_eq_true h60, decide_eq_true hk0, cl_nI (by omega), nr_lt (show j < 4 by omega), hdig j ((nI_ltI (by omega) (by omega)).mp h60)]; rfl)
                · skip
                  have h60 := i_ngt c7
                  have hk9 := hk0
                  rw [i_le, z_toInt] at hk9
                  obtain ⟨j, hj, rfl⟩ : ∃ j, j < 4 ∧ k = nI j := by
                    first
                      | exact absurd h49 (by decide)
                      | (rw [i_lt, i_nI (by omega)] at h60; exact i_sm (by omega) (by omega) (by omega))
                  refine g_aload_n dX10_plan_63 (by rfl) (by first | exact isRf_r | exact isRf_n | exact isRf_o | assumption) ?_
                  refine g_getf dX10_plan_64 fX10_22 (by first | exact m0 | exact xa | exact xw) (by rfl) ?_
                  refine g_iload_n dX10_plan_67 (by rfl) ?_
                  refine g_iaN dX10_plan_68 (by first | exact m0 | exact xa | exact xw) (show j < 4 by omega) (by omega) (by rfl) ?_
                  refine g_goto (tgt := 74) dX10_plan_69 (by decide) ?_
                  refine g_iret dX10_plan_74 rfl (Nat.le_refl _) (Nat.le_refl _) ?_
                  first
                    | exact absurd h49 (by decide)
                    | exact absurd h49 (nI_ge0 (by omega))
                    | (rw [eQ]; exact ⟨rfl, hfin⟩)
                    | (rw [eQ, hm1]; refine ⟨?_, hfin⟩; show _ = some (Value.int (cond (decide (-1 < nI d)) (cond (decide ((0 : Int32) ≤ -1)) _ (nI d)) (-4))); rw [decide_eq_true (show (-1 : Int32) < nI d from by rw [i_lt, i_nI (by omega), show (-1 : Int32).toInt = -1 by decide]; omega), decide_eq_false (by decide)]; rfl)
                    | (rw [eQ]; refine ⟨?_, hfin⟩; show _ = some (Value.int (cond (decide (k < nI d)) _ (-4))); rw [decide_eq_false (fun y => i_nle y h60)]; rfl)
                    | (rw [eQ]; refine ⟨?_, hfin⟩; show _ = some (Value.int (cond (decide (nI j < nI d)) (cond (decide (0 ≤ nI j)) (nI (p.getD (cl (nI j)) 0)) (nI d)) (-4))); rw [decide_eq_true h60, decide_eq_true hk0, cl_nI (by omega), nr_lt (show j < 4 by omega), hdig j ((nI_ltI (by omega) (by omega)).mp h60)]; rfl)
              · skip
                have h49 := i_lt0 c6
                refine g_iload dX10_plan_52 (by rfl) ?_
                refine g_goto (tgt := 74) dX10_plan_54 (by decide) ?_
                refine g_iret dX10_plan_74 rfl (Nat.le_refl _) (Nat.le_refl _) ?_
                first
                  | exact absurd h49 (by decide)
                  | exact absurd h49 (nI_ge0 (by omega))
                  | (rw [eQ]; exact ⟨rfl, hfin⟩)
                  | (rw [eQ, hm1]; refine ⟨?_, hfin⟩; show _ = some (Value.int (cond (decide (-1 < nI d)) (cond (decide ((0 : Int32) ≤ -1)) _ (nI d)) (-4))); rw [decide_eq_true (show (-1 : Int32) < nI d from by rw [i_lt, i_nI (by omega), show (-1 : Int32).toInt = -1 by decide]; omega), decide_eq_false (by decide)]; rfl)
                  | (rw [eQ]; refine ⟨?_, hfin⟩; show _ = some (Value.int (cond (decide (k < nI d)) _ (-4))); rw [decide_eq_false (fun y => i_nle y h60)]; rfl)
                  | (rw [eQ]; refine ⟨?_, hfin⟩; show _ = some (Value.int (cond (decide (nI j < nI d)) (cond (decide (0 ≤ nI j)) (nI (p.getD (cl (nI j)) 0)) (nI d)) (-4))); rw [decide_eq_true h60, decide_eq_true hk0, cl_nI (by omega), nr_lt (show j < 4 by omega), hdig j ((nI_ltI (by omega) (by omega)).mp h60)]; rfl)
          · skip
            obtain ⟨hd4, hdig⟩ := hpp d p rfl
            rw [show plnM (some (d, p)) = nI d from rfl]
            refine g_istore (L1 := [(0, _), (1, _), (2, _), (3, _), (4, _)]) dX10_plan_40 (by decide) (by rfl) ?_
            refine g_iload_n dX10_plan_42 (by rfl) ?_
            refine g_iconst (v := (-1)) dX10_plan_43 (by decide) ?_
            refine g_icmp_eq (tgt := 52) dX10_plan_44 (by decide) (fun c8 => ?_) (fun c8 => ?_)
            · skip
              have hm1 : k = -1 := c8
              refine g_iload dX10_plan_52 (by rfl) ?_
              refine g_goto (tgt := 74) dX10_plan_54 (by decide) ?_
              refine g_iret dX10_plan_74 rfl (Nat.le_refl _) (Nat.le_refl _) ?_
              first
                | exact absurd h49 (by decide)
                | exact absurd h49 (nI_ge0 (by omega))
                | (rw [eQ]; exact ⟨rfl, hfin⟩)
                | (rw [eQ, hm1]; refine ⟨?_, hfin⟩; show _ = some (Value.int (cond (decide (-1 < nI d)) (cond (decide ((0 : Int32) ≤ -1)) _ (nI d)) (-4))); rw [decide_eq_true (show (-1 : Int32) < nI d from by rw [i_lt, i_nI (by omega), show (-1 : Int32).toInt = -1 by decide]; omega), decide_eq_false (by decide)]; rfl)
                | (rw [eQ]; refine ⟨?_, hfin⟩; show _ = some (Value.int (cond (decide (k < nI d)) _ (-4))); rw [decide_eq_false (fun y => i_nle y h60)]; rfl)
                | (rw [eQ]; refine ⟨?_, hfin⟩; show _ = some (Value.int (cond (decide (nI j < nI d)) (cond (decide (0 ≤ nI j)) (nI (p.getD (cl (nI j)) 0)) (nI d)) (-4))); rw [decide_eq_true h60, decide_eq_true hk0, cl_nI (by omega), nr_lt (show j < 4 by omega), hdig j ((nI_ltI (by omega) (by omega)).mp h60)]; rfl)
            · skip
              have hm2 : ¬ k = -1 := c8
              have hk0 : 0 ≤ k := by
                have y := m1_le.mp hk1
                have q : k.toInt ≠ -1 := fun e => hm2 (Int32.toInt_inj.mp (by rw [e]; decide))
                rw [i_le, z_toInt]
                omega
              refine g_iload dX10_plan_47 (by rfl) ?_
              refine g_if_ge (tgt := 57) dX10_plan_49 (by decide) (fun c9 => ?_) (fun c9 => ?_)
              · skip
                have h49 : (0 : Int32) ≤ _ := c9
                refine g_iload_n dX10_plan_57 (by rfl) ?_
                refine g_iload dX10_plan_58 (by rfl) ?_
                refine g_icmp_ge (tgt := 72) dX10_plan_60 (by decide) (fun c10 => ?_) (fun c10 => ?_)
                · skip
                  have h60 := c10
                  refine g_bipush (v := (-4)) dX10_plan_72 (by decide) ?_
                  refine g_iret dX10_plan_74 rfl (Nat.le_refl _) (Nat.le_refl _) ?_
                  first
                    | exact absurd h49 (by decide)
                    | exact absurd h49 (nI_ge0 (by omega))
                    | (rw [eQ]; exact ⟨rfl, hfin⟩)
                    | (rw [eQ, hm1]; refine ⟨?_, hfin⟩; show _ = some (Value.int (cond (decide (-1 < nI d)) (cond (decide ((0 : Int32) ≤ -1)) _ (nI d)) (-4))); rw [decide_eq_true (show (-1 : Int32) < nI d from by rw [i_lt, i_nI (by omega), show (-1 : Int32).toInt = -1 by decide]; omega), decide_eq_false (by decide)]; rfl)
                    | (rw [eQ]; refine ⟨?_, hfin⟩; show _ = some (Value.int (cond (decide (k < nI d)) _ (-4))); rw [decide_eq_false (fun y => i_nle y h60)]; rfl)
                    | (rw [eQ]; refine ⟨?_, hfin⟩; show _ = some (Value.int (cond (decide (nI j < nI d)) (cond (decide (0 ≤ nI j)) (nI (p.getD (cl (nI j)) 0)) (nI d)) (-4))); rw [decide_eq_true h60, decide_eq_true hk0, cl_nI (by omega), nr_lt (show j < 4 by omega), hdig j ((nI_ltI (by omega) (by omega)).mp h60)]; rfl)
                · skip
                  have h60 := i_ngt c10
                  have hk9 := hk0
                  rw [i_le, z_toInt] at hk9
                  obtain ⟨j, hj, rfl⟩ : ∃ j, j < 4 ∧ k = nI j := by
                    first
                      | exact absurd h49 (by decide)
                      | (rw [i_lt, i_nI (by omega)] at h60; exact i_sm (by omega) (by omega) (by omega))
                  refine g_aload_n dX10_plan_63 (by rfl) (by first | exact isRf_r | exact isRf_n | exact isRf_o | assumption) ?_
                  refine g_getf dX10_plan_64 fX10_22 (by first | exact m0 | exact xa | exact xw) (by rfl) ?_
                  refine g_iload_n dX10_plan_67 (by rfl) ?_
                  refine g_iaN dX10_plan_68 (by first | exact m0 | exact xa | exact xw) (show j < 4 by omega) (by omega) (by rfl) ?_
                  refine g_goto (tgt := 74) dX10_plan_69 (by decide) ?_
                  refine g_iret dX10_plan_74 rfl (Nat.le_refl _) (Nat.le_refl _) ?_
                  first
                    | exact absurd h49 (by decide)
                    | exact absurd h49 (nI_ge0 (by omega))
                    | (rw [eQ]; exact ⟨rfl, hfin⟩)
                    | (rw [eQ, hm1]; refine ⟨?_, hfin⟩; show _ = some (Value.int (cond (decide (-1 < nI d)) (cond (decide ((0 : Int32) ≤ -1)) _ (nI d)) (-4))); rw [decide_eq_true (show (-1 : Int32) < nI d from by rw [i_lt, i_nI (by omega), show (-1 : Int32).toInt = -1 by decide]; omega), decide_eq_false (by decide)]; rfl)
                    | (rw [eQ]; refine ⟨?_, hfin⟩; show _ = some (Value.int (cond (decide (k < nI d)) _ (-4))); rw [decide_eq_false (fun y => i_nle y h60)]; rfl)
                    | (rw [eQ]; refine ⟨?_, hfin⟩; show _ = some (Value.int (cond (decide (nI j < nI d)) (cond (decide (0 ≤ nI j)) (nI (p.getD (cl (nI j)) 0)) (nI d)) (-4))); rw [decide_eq_true h60, decide_eq_true hk0, cl_nI (by omega), nr_lt (show j < 4 by omega), hdig j ((nI_ltI (by omega) (by omega)).mp h60)]; rfl)
              · skip
                have h49 := i_lt0 c9
                refine g_iload dX10_plan_52 (by rfl) ?_
                refine g_goto (tgt := 74) dX10_plan_54 (by decide) ?_
                refine g_iret dX10_plan_74 rfl (Nat.le_refl _) (Nat.le_refl _) ?_
                first
                  | exact absurd h49 (by decide)
                  | exact absurd h49 (nI_ge0 (by omega))
                  | (rw [eQ]; exact ⟨rfl, hfin⟩)
                  | (rw [eQ, hm1]; refine ⟨?_, hfin⟩; show _ = some (Value.int (cond (decide (-1 < nI d)) (cond (decide ((0 : Int32) ≤ -1)) _ (nI d)) (-4))); rw [decide_eq_true (show (-1 : Int32) < nI d from by rw [i_lt, i_nI (by omega), show (-1 : Int32).toInt = -1 by decide]; omega), decide_eq_false (by decide)]; rfl)
                  | (rw [eQ]; refine ⟨?_, hfin⟩; show _ = some (Value.int (cond (decide (k < nI d)) _ (-4))); rw [decide_eq_false (fun y => i_nle y h60)]; rfl)
                  | (rw [eQ]; refine ⟨?_, hfin⟩; show _ = some (Value.int (cond (decide (nI j < nI d)) (cond (decide (0 ≤ nI j)) (nI (p.getD (cl (nI j)) 0)) (nI d)) (-4))); rw [decide_eq_true h60, decide_eq_true hk0, cl_nI (by omega), nr_lt (show j < 4 by omega), hdig j ((nI_ltI (by omega) (by omega)).mp h60)]; rfl)
        · skip
          have eF : Q_plan r (nI l) (nI o) k = -2 := by
            unfold Q_plan
            rw [e8, e9, hk, hko, decide_eq_true hk1, cj, show sold r l = true from bI_1 c4]
            rfl
          refine g_bipush (v := (-2)) dX10_plan_31 (by decide) ?_
          refine g_iret dX10_plan_33 rfl (Nat.le_refl _) (Nat.le_refl _) ?_
          rw [eF]
          exact ⟨rfl, hD, fun q _ => rfl⟩
      · skip
        have eF : Q_plan r (nI l) (nI o) k = -1 := by
          unfold Q_plan
          rw [e8, e9, hk, hko, decide_eq_false (show ¬ -1 ≤ k from c3)]
          rfl
        refine g_iconst (v := (-1)) dX10_plan_21 (by decide) ?_
        refine g_iret dX10_plan_22 rfl (Nat.le_refl _) (Nat.le_refl _) ?_
        rw [eF]
        exact ⟨rfl, hD, fun q _ => rfl⟩
