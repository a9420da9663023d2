section GT
variable {X : Cx} {own : String} {b : ByteArray} {mx : Nat} {rt : Option FieldType} {nm : String} {R : Room} {Qf : List Frame → Array Value → State → State → Prop} {c n pc : Nat} {L : List (Nat × Value)} {h : Hp}
/-- a static method of another class -/
theorem g_callT {Y : Mt} {idx k1 mc ms N : Nat} {As rest st1 : List Value} {P1 : Option Value → Hp → Prop} (hd : decode b pc = .ok (.invokestatic idx, 3)) (hl1 : Cond.methodLink own idx Y.1 ∈ lw_tbl) (hm : Ms Y N) (hct : Ct X Y k1 mc ms As h P1) (hN : As.length = N) (hst : st1 = As.reverse ++ rest) (hf : k1 + 1 ≤ R.frames ∧ 40 * k1 + 40 ≤ R.locals) (hcat : (rest.map fun v => v.category).sum ≤ 8) (hmc : c + mc ≤ R.cells ∧ n + ms ≤ R.slots) (kk : ∀ v h1, P1 v h1 → G X own b mx rt nm R Qf (c + mc) (n + ms) (pc + 3) L (v.toList ++ rest) h1) : G X own b mx rt nm R Qf c n pc L st1 h := by
  intro p ev s m args below meth cd H locs ls hI hR hS hl
  obtain ⟨hx, hb, hml, hown, hts, -, -, -, hz, hK⟩ := id hI
  obtain ⟨⟨m1, m2, m3, m4, m5, m6, m7⟩, m8⟩ := hm
  obtain ⟨p1, p2⟩ := ct_pre (k := k1) (mc := mc) (ms := ms) (av := As) hI hR hS
  exact g_run (va_runS (Ts := wsA) (own := own) ⟨hx, hb, hml, hown, hts⟩ hct ⟨callB_of N hts (goodA_of (fun w hw => by
    rcases List.mem_cons.mp hw with rfl | h
    · exact inA m1 rfl
    · exact h)) rfl rfl rfl (hts _ (inA m2 rfl)) (hts _ (inA hl1 rfl)) ⟨m4, m5, m6⟩ ⟨hf.1, by show 8 + (Y.2.2.1 + 11) + 40 * k1 ≤ _; omega⟩, hts _ (inA m8 rfl)⟩ ⟨p1, p2⟩ rfl hN (hl.1.trans rfl) hst (lv_room hcat) hd hmc) hI hS hl kk
theorem g_cT1x {w : Value} {h2 : Hp} {Y : Mt} {idx k1 : Nat} {v1 : Value} {rest : List Value} (hd : decode b pc = .ok (.invokestatic idx, 3)) (hl1 : Cond.methodLink own idx Y.1 ∈ lw_tbl) (hm : Ms Y 1) (hct : Ct X Y k1 0 0 [v1] h (Ex w h2)) (hf : k1 + 1 ≤ R.frames ∧ 40 * k1 + 40 ≤ R.locals) (hcat : (rest.map fun v => v.category).sum ≤ 8) (hmc : c ≤ R.cells ∧ n ≤ R.slots) (k : G X own b mx rt nm R Qf c n (pc + 3) L (w :: rest) h2) : G X own b mx rt nm R Qf c n pc L (v1 :: rest) h :=
  g_callT hd hl1 hm hct rfl rfl hf hcat hmc (fun v h1 q => by obtain ⟨rfl, rfl⟩ := q; exact k)
end GT

theorem nd_of {d : Int32} (h : rngB 0 3 d = false) : bI (decide (0 ≤ d ∧ d < 4)) = 0 := by
  rw [dye_rng, h]
  rfl
theorem yd_of {d : Nat} (h : d < 4) : ¬ bI (decide (0 ≤ nI d ∧ nI d < 4)) = 0 := by
  rcases (show d = 0 ∨ d = 1 ∨ d = 2 ∨ d = 3 by omega) with rfl | rfl | rfl | rfl <;> decide
theorem rng_up {a b x : Int32} (hab : a ≤ b) (h : rngB 0 b x = false) : rngB 0 a x = false := by
  cases e : rngB 0 a x with
  | false => rfl
  | true =>
    exfalso
    have z := rngB_i.mp e
    have q : rngB 0 b x = true := rngB_t z.1 (by have z2 := z.2; simp only [i_le] at *; omega)
    rw [h] at q
    cases q
/-- what order o answers -/
noncomputable def Q_orderOf (r : Nat → Int32) (w k : Int32) : Int32 := cond (okB (r 9) w && rngB 0 6 k) (match cl k with
  | 4 => od r (cl w) 4
  | 5 => nI (cntN (fun l => !sold r l && fitB (ltx r l) (od r (cl w)) r) (cl (r 8)))
  | 6 => (nearP r (od r (cl w)) (cl (r 8))).1
  | k => od r (cl w) k) (-1)
theorem Q_ord_d {r : Nat → Int32} {w : Int32} {d : Nat} (hd : d < 4) (ho : okB (r 9) w = true) : Q_orderOf r w (nI d) = od r (cl w) d := by
  unfold Q_orderOf
  rw [ho]
  rcases (show d = 0 ∨ d = 1 ∨ d = 2 ∨ d = 3 by omega) with rfl | rfl | rfl | rfl <;> rfl

set_option maxHeartbeats 4000000 in
set_option maxRecDepth 100000 in
theorem ct_orderOf_d (X : Cx) {h : Hp} {A B m : Nat → Nat} {C : Nat → Nat → Nat} {r : Nat → Int32} {n tn : Nat} {rows : Nat → Nat → Int32} {tg : Nat → Int32} {w : Int32} {d : Nat}  (hO : Ok r) (hY : SysAt X h A B m C r n rows tn tg) (hd : d < 4) : Ct X mX9_orderOf 4 0 0 [.ref (m 0), .int w, .int (nI d)] h (Ex (.int (Q_orderOf r w (nI d))) h) := by
  obtain ⟨y0, hA, -, y1, y2, -, yT, -⟩ := id hY
  have hO0 := hO
  obtain ⟨nv, nl, no, hnv, hnl, hno, e7, e8, e9, hset, hvok, hvz, hlok, hlz, hok, hoz, hw⟩ := hO0
  have hA0 := hA
  obtain ⟨a0, a1, a2, a3, a4, a5, a6, av, al, ao⟩ := hA0
  unfold hobC at a0
  rw [e7, e8, e9] at a0
  refine Ct.ofG vX9_orderOf.1.2.2.1 (Nat.le_of_ble_eq_true rfl) ?_
  show G X RX9 cX9_orderOf 4 (some .int) "orderOf" (Rm 4 0 0) (Fm X (Ex (.int (Q_orderOf r w (nI d))) h) 0 0) 0 0 0 [(0, .ref (m 0)), (1, .int w), (2, .int (nI d))] [] h
  refine g_aload_n dX9_orderOf_0 (by rfl) (by first | exact isRf_r | exact isRf_n | exact isRf_o | assumption) ?_
  refine g_getf dX9_orderOf_1 fX9_10 (by first | assumption | (repeat' (first | assumption | exact hu_same | exact Ne.symm (by assumption) | apply hu_n1))) (by rfl) ?_
  refine g_iload_n dX9_orderOf_4 (by rfl) ?_
  by_cases hvj : ∃ j, j < no ∧ w = nI j
  · skip
    obtain ⟨j, hj, rfl⟩ := hvj
    have aoj := ao j (by omega)
    have aoj0 := aoj
    obtain ⟨o1, o2⟩ := aoj0
    unfold ordC at o1
    have obz := hok j hj
    refine g_cV1x dX9_orderOf_5 lX9_189 vX1_findOrder (ct_findOrder X (by omega) a0 a3 hj (oaR_j (by omega))) (by first | assumption | (repeat' (first | assumption | exact hu_same | exact Ne.symm (by assumption) | apply hu_n1))) rfl ⟨Nat.le_of_ble_eq_true rfl, Nat.le_of_ble_eq_true rfl⟩ (Nat.le_of_ble_eq_true rfl) ⟨Nat.le_of_ble_eq_true rfl, Nat.le_of_ble_eq_true rfl⟩ ?_
    refine g_astore_n (L1 := [(0, _), (1, _), (2, _), (3, _)]) dX9_orderOf_8 (by first | exact isRf_r | exact isRf_n | exact isRf_o | assumption) (by decide) (by rfl) ?_
    refine g_aload_n dX9_orderOf_9 (by rfl) (by first | exact isRf_r | exact isRf_n | exact isRf_o | assumption) ?_
    refine g_ifnonnull (tgt := 15) dX9_orderOf_10 (by decide) (by first | exact isRf_r | exact isRf_n | exact isRf_o | assumption) (fun c1 => ?_) (fun c1 => nomatch c1)
    refine g_iload_n dX9_orderOf_15 (by rfl) ?_
    refine g_cS1x dX9_orderOf_16 lX9_164 rfl vX9_isDye (ct_X9_isDye X) ⟨Nat.le_of_ble_eq_true rfl, Nat.le_of_ble_eq_true rfl⟩ (Nat.le_of_ble_eq_true rfl) ⟨Nat.le_of_ble_eq_true rfl, Nat.le_of_ble_eq_true rfl⟩ ?_
    refine g_if_eq (tgt := 28) dX9_orderOf_19 (by decide) (fun c2 => absurd c2 (yd_of hd)) (fun c2 => ?_)
    refine g_aload_n dX9_orderOf_22 (by rfl) (by first | exact isRf_r | exact isRf_n | exact isRf_o | assumption) ?_
    refine g_iload_n dX9_orderOf_23 (by rfl) ?_
    refine g_cV1x dX9_orderOf_24 lX9_193 vX3_shadeFor (ct_X3_shadeFor X hd aoj) (by first | assumption | (repeat' (first | assumption | exact hu_same | exact Ne.symm (by assumption) | apply hu_n1))) rfl ⟨Nat.le_of_ble_eq_true rfl, Nat.le_of_ble_eq_true rfl⟩ (Nat.le_of_ble_eq_true rfl) ⟨Nat.le_of_ble_eq_true rfl, Nat.le_of_ble_eq_true rfl⟩ ?_
    refine g_iret dX9_orderOf_27 rfl (Nat.le_refl _) (Nat.le_refl _) ?_
    refine Ex.i ?_ rfl
    rw [Q_ord_d hd (by rw [e9]; exact okB_t hj (by omega)), cl_nI (by omega)]
  · skip
    refine g_cV1x dX9_orderOf_5 lX9_189 vX1_findOrder (ct_findOrderN X (by omega) a0 a3 hvj) (by first | assumption | (repeat' (first | assumption | exact hu_same | exact Ne.symm (by assumption) | apply hu_n1))) rfl ⟨Nat.le_of_ble_eq_true rfl, Nat.le_of_ble_eq_true rfl⟩ (Nat.le_of_ble_eq_true rfl) ⟨Nat.le_of_ble_eq_true rfl, Nat.le_of_ble_eq_true rfl⟩ ?_
    refine g_astore_n (L1 := [(0, _), (1, _), (2, _), (3, _)]) dX9_orderOf_8 (by first | exact isRf_r | exact isRf_n | exact isRf_o | assumption) (by decide) (by rfl) ?_
    refine g_aload_n dX9_orderOf_9 (by rfl) (by first | exact isRf_r | exact isRf_n | exact isRf_o | assumption) ?_
    refine g_ifnonnull (tgt := 15) dX9_orderOf_10 (by decide) (by first | exact isRf_r | exact isRf_n | exact isRf_o | assumption) (fun c3 => absurd rfl c3) (fun c3 => ?_)
    refine g_iconst (v := (-1)) dX9_orderOf_13 (by decide) ?_
    refine g_iret dX9_orderOf_14 rfl (Nat.le_refl _) (Nat.le_refl _) ?_
    refine Ex.i ?_ rfl
    unfold Q_orderOf
    rw [e9, okB_f (by omega) hvj]; rfl

set_option maxHeartbeats 4000000 in
set_option maxRecDepth 100000 in
theorem ct_orderOf_4 (X : Cx) {h : Hp} {A B m : Nat → Nat} {C : Nat → Nat → Nat} {r : Nat → Int32} {n tn : Nat} {rows : Nat → Nat → Int32} {tg : Nat → Int32} {w : Int32}  (hO : Ok r) (hY : SysAt X h A B m C r n rows tn tg) : Ct X mX9_orderOf 4 0 0 [.ref (m 0), .int w, .int (nI 4)] h (Ex (.int (Q_orderOf r w (nI 4))) h) := by
  obtain ⟨y0, hA, -, y1, y2, -, yT, -⟩ := id hY
  have hO0 := hO
  obtain ⟨nv, nl, no, hnv, hnl, hno, e7, e8, e9, hset, hvok, hvz, hlok, hlz, hok, hoz, hw⟩ := hO0
  have hA0 := hA
  obtain ⟨a0, a1, a2, a3, a4, a5, a6, av, al, ao⟩ := hA0
  unfold hobC at a0
  rw [e7, e8, e9] at a0
  refine Ct.ofG vX9_orderOf.1.2.2.1 (Nat.le_of_ble_eq_true rfl) ?_
  show G X RX9 cX9_orderOf 4 (some .int) "orderOf" (Rm 4 0 0) (Fm X (Ex (.int (Q_orderOf r w (nI 4))) h) 0 0) 0 0 0 [(0, .ref (m 0)), (1, .int w), (2, .int (nI 4))] [] h
  refine g_aload_n dX9_orderOf_0 (by rfl) (by first | exact isRf_r | exact isRf_n | exact isRf_o | assumption) ?_
  refine g_getf dX9_orderOf_1 fX9_10 (by first | assumption | (repeat' (first | assumption | exact hu_same | exact Ne.symm (by assumption) | apply hu_n1))) (by rfl) ?_
  refine g_iload_n dX9_orderOf_4 (by rfl) ?_
  by_cases hvj : ∃ j, j < no ∧ w = nI j
  · skip
    obtain ⟨j, hj, rfl⟩ := hvj
    have aoj := ao j (by omega)
    have aoj0 := aoj
    obtain ⟨o1, o2⟩ := aoj0
    unfold ordC at o1
    have obz := hok j hj
    refine g_cV1x dX9_orderOf_5 lX9_189 vX1_findOrder (ct_findOrder X (by omega) a0 a3 hj (oaR_j (by omega))) (by first | assumption | (repeat' (first | assumption | exact hu_same | exact Ne.symm (by assumption) | apply hu_n1))) rfl ⟨Nat.le_of_ble_eq_true rfl, Nat.le_of_ble_eq_true rfl⟩ (Nat.le_of_ble_eq_true rfl) ⟨Nat.le_of_ble_eq_true rfl, Nat.le_of_ble_eq_true rfl⟩ ?_
    refine g_astore_n (L1 := [(0, _), (1, _), (2, _), (3, _)]) dX9_orderOf_8 (by first | exact isRf_r | exact isRf_n | exact isRf_o | assumption) (by decide) (by rfl) ?_
    refine g_aload_n dX9_orderOf_9 (by rfl) (by first | exact isRf_r | exact isRf_n | exact isRf_o | assumption) ?_
    refine g_ifnonnull (tgt := 15) dX9_orderOf_10 (by decide) (by first | exact isRf_r | exact isRf_n | exact isRf_o | assumption) (fun c1 => ?_) (fun c1 => nomatch c1)
    refine g_iload_n dX9_orderOf_15 (by rfl) ?_
    refine g_cS1x dX9_orderOf_16 lX9_164 rfl vX9_isDye (ct_X9_isDye X) ⟨Nat.le_of_ble_eq_true rfl, Nat.le_of_ble_eq_true rfl⟩ (Nat.le_of_ble_eq_true rfl) ⟨Nat.le_of_ble_eq_true rfl, Nat.le_of_ble_eq_true rfl⟩ ?_
    refine g_if_eq (tgt := 28) dX9_orderOf_19 (by decide) (fun c2 => ?_) (fun c2 => absurd (by decide) c2)
    refine g_iload_n dX9_orderOf_28 (by rfl) ?_
    refine g_tableIn (tgt := 56) (off := 27) dX9_orderOf_29 (by decide) (by decide) (by decide) (by decide) ?_
    refine g_aload_n dX9_orderOf_56 (by rfl) (by first | exact isRf_r | exact isRf_n | exact isRf_o | assumption) ?_
    refine g_getf dX9_orderOf_57 fX9_198 (by first | assumption | (repeat' (first | assumption | exact hu_same | exact Ne.symm (by assumption) | apply hu_n1))) (by rfl) ?_
    refine g_cS1x dX9_orderOf_60 lX9_92 rfl vX9_oneIf (ct_oneIfz X obz) ⟨Nat.le_of_ble_eq_true rfl, Nat.le_of_ble_eq_true rfl⟩ (Nat.le_of_ble_eq_true rfl) ⟨Nat.le_of_ble_eq_true rfl, Nat.le_of_ble_eq_true rfl⟩ ?_
    refine g_iret dX9_orderOf_63 rfl (Nat.le_refl _) (Nat.le_refl _) ?_
    refine Ex.i ?_ rfl
    unfold Q_orderOf
    rw [e9, okB_t hj (by omega), e8, cl_nI (j := j) (by omega), cl_nI (j := nl) (by omega), show cl (nI 4) = 4 from cl_nI (by omega), show rngB 0 6 (nI 4) = true by decide]
    rfl
  · skip
    refine g_cV1x dX9_orderOf_5 lX9_189 vX1_findOrder (ct_findOrderN X (by omega) a0 a3 hvj) (by first | assumption | (repeat' (first | assumption | exact hu_same | exact Ne.symm (by assumption) | apply hu_n1))) rfl ⟨Nat.le_of_ble_eq_true rfl, Nat.le_of_ble_eq_true rfl⟩ (Nat.le_of_ble_eq_true rfl) ⟨Nat.le_of_ble_eq_true rfl, Nat.le_of_ble_eq_true rfl⟩ ?_
    refine g_astore_n (L1 := [(0, _), (1, _), (2, _), (3, _)]) dX9_orderOf_8 (by first | exact isRf_r | exact isRf_n | exact isRf_o | assumption) (by decide) (by rfl) ?_
    refine g_aload_n dX9_orderOf_9 (by rfl) (by first | exact isRf_r | exact isRf_n | exact isRf_o | assumption) ?_
    refine g_ifnonnull (tgt := 15) dX9_orderOf_10 (by decide) (by first | exact isRf_r | exact isRf_n | exact isRf_o | assumption) (fun c3 => absurd rfl c3) (fun c3 => ?_)
    refine g_iconst (v := (-1)) dX9_orderOf_13 (by decide) ?_
    refine g_iret dX9_orderOf_14 rfl (Nat.le_refl _) (Nat.le_refl _) ?_
    refine Ex.i ?_ rfl
    unfold Q_orderOf
    rw [e9, okB_f (by omega) hvj]; rfl

set_option maxHeartbeats 4000000 in
set_option maxRecDepth 100000 in
theorem ct_orderOf_5 (X : Cx) {h : Hp} {A B m : Nat → Nat} {C : Nat → Nat → Nat} {r : Nat → Int32} {n tn : Nat} {rows : Nat → Nat → Int32} {tg : Nat → Int32} {w : Int32}  (hO : Ok r) (hY : SysAt X h A B m C r n rows tn tg) : Ct X mX9_orderOf 4 0 0 [.ref (m 0), .int w, .int (nI 5)] h (Ex (.int (Q_orderOf r w (nI 5))) h) := by
  obtain ⟨y0, hA, -, y1, y2, -, yT, -⟩ := id hY
  have hO0 := hO
  obtain ⟨nv, nl, no, hnv, hnl, hno, e7, e8, e9, hset, hvok, hvz, hlok, hlz, hok, hoz, hw⟩ := hO0
  have hA0 := hA
  obtain ⟨a0, a1, a2, a3, a4, a5, a6, av, al, ao⟩ := hA0
  unfold hobC at a0
  rw [e7, e8, e9] at a0
  refine Ct.ofG vX9_orderOf.1.2.2.1 (Nat.le_of_ble_eq_true rfl) ?_
  show G X RX9 cX9_orderOf 4 (some .int) "orderOf" (Rm 4 0 0) (Fm X (Ex (.int (Q_orderOf r w (nI 5))) h) 0 0) 0 0 0 [(0, .ref (m 0)), (1, .int w), (2, .int (nI 5))] [] h
  refine g_aload_n dX9_orderOf_0 (by rfl) (by first | exact isRf_r | exact isRf_n | exact isRf_o | assumption) ?_
  refine g_getf dX9_orderOf_1 fX9_10 (by first | assumption | (repeat' (first | assumption | exact hu_same | exact Ne.symm (by assumption) | apply hu_n1))) (by rfl) ?_
  refine g_iload_n dX9_orderOf_4 (by rfl) ?_
  by_cases hvj : ∃ j, j < no ∧ w = nI j
  · skip
    obtain ⟨j, hj, rfl⟩ := hvj
    have aoj := ao j (by omega)
    have aoj0 := aoj
    obtain ⟨o1, o2⟩ := aoj0
    unfold ordC at o1
    have obz := hok j hj
    refine g_cV1x dX9_orderOf_5 lX9_189 vX1_findOrder (ct_findOrder X (by omega) a0 a3 hj (oaR_j (by omega))) (by first | assumption | (repeat' (first | assumption | exact hu_same | exact Ne.symm (by assumption) | apply hu_n1))) rfl ⟨Nat.le_of_ble_eq_true rfl, Nat.le_of_ble_eq_true rfl⟩ (Nat.le_of_ble_eq_true rfl) ⟨Nat.le_of_ble_eq_true rfl, Nat.le_of_ble_eq_true rfl⟩ ?_
    refine g_astore_n (L1 := [(0, _), (1, _), (2, _), (3, _)]) dX9_orderOf_8 (by first | exact isRf_r | exact isRf_n | exact isRf_o | assumption) (by decide) (by rfl) ?_
    refine g_aload_n dX9_orderOf_9 (by rfl) (by first | exact isRf_r | exact isRf_n | exact isRf_o | assumption) ?_
    refine g_ifnonnull (tgt := 15) dX9_orderOf_10 (by decide) (by first | exact isRf_r | exact isRf_n | exact isRf_o | assumption) (fun c1 => ?_) (fun c1 => nomatch c1)
    refine g_iload_n dX9_orderOf_15 (by rfl) ?_
    refine g_cS1x dX9_orderOf_16 lX9_164 rfl vX9_isDye (ct_X9_isDye X) ⟨Nat.le_of_ble_eq_true rfl, Nat.le_of_ble_eq_true rfl⟩ (Nat.le_of_ble_eq_true rfl) ⟨Nat.le_of_ble_eq_true rfl, Nat.le_of_ble_eq_true rfl⟩ ?_
    refine g_if_eq (tgt := 28) dX9_orderOf_19 (by decide) (fun c2 => ?_) (fun c2 => absurd (by decide) c2)
    refine g_iload_n dX9_orderOf_28 (by rfl) ?_
    refine g_tableIn (tgt := 64) (off := 35) dX9_orderOf_29 (by decide) (by decide) (by decide) (by decide) ?_
    refine g_aload_n dX9_orderOf_64 (by rfl) (by first | exact isRf_r | exact isRf_n | exact isRf_o | assumption) ?_
    refine g_getf dX9_orderOf_65 fX9_10 (by first | assumption | (repeat' (first | assumption | exact hu_same | exact Ne.symm (by assumption) | apply hu_n1))) (by rfl) ?_
    refine g_aload_n dX9_orderOf_68 (by rfl) (by first | exact isRf_r | exact isRf_n | exact isRf_o | assumption) ?_
    refine g_cV1x dX9_orderOf_69 lX9_201 vX1_lotsThatFit (ct_X1_lotsThatFit X hnl e8 hlok hA aoj) (by first | assumption | (repeat' (first | assumption | exact hu_same | exact Ne.symm (by assumption) | apply hu_n1))) rfl ⟨Nat.le_of_ble_eq_true rfl, Nat.le_of_ble_eq_true rfl⟩ (Nat.le_of_ble_eq_true rfl) ⟨Nat.le_of_ble_eq_true rfl, Nat.le_of_ble_eq_true rfl⟩ ?_
    refine g_iret dX9_orderOf_72 rfl (Nat.le_refl _) (Nat.le_refl _) ?_
    refine Ex.i ?_ rfl
    unfold Q_orderOf
    rw [e9, okB_t hj (by omega), e8, cl_nI (j := j) (by omega), cl_nI (j := nl) (by omega), show cl (nI 5) = 5 from cl_nI (by omega), show rngB 0 6 (nI 5) = true by decide]
    rfl
  · skip
    refine g_cV1x dX9_orderOf_5 lX9_189 vX1_findOrder (ct_findOrderN X (by omega) a0 a3 hvj) (by first | assumption | (repeat' (first | assumption | exact hu_same | exact Ne.symm (by assumption) | apply hu_n1))) rfl ⟨Nat.le_of_ble_eq_true rfl, Nat.le_of_ble_eq_true rfl⟩ (Nat.le_of_ble_eq_true rfl) ⟨Nat.le_of_ble_eq_true rfl, Nat.le_of_ble_eq_true rfl⟩ ?_
    refine g_astore_n (L1 := [(0, _), (1, _), (2, _), (3, _)]) dX9_orderOf_8 (by first | exact isRf_r | exact isRf_n | exact isRf_o | assumption) (by decide) (by rfl) ?_
    refine g_aload_n dX9_orderOf_9 (by rfl) (by first | exact isRf_r | exact isRf_n | exact isRf_o | assumption) ?_
    refine g_ifnonnull (tgt := 15) dX9_orderOf_10 (by decide) (by first | exact isRf_r | exact isRf_n | exact isRf_o | assumption) (fun c3 => absurd rfl c3) (fun c3 => ?_)
    refine g_iconst (v := (-1)) dX9_orderOf_13 (by decide) ?_
    refine g_iret dX9_orderOf_14 rfl (Nat.le_refl _) (Nat.le_refl _) ?_
    refine Ex.i ?_ rfl
    unfold Q_orderOf
    rw [e9, okB_f (by omega) hvj]; rfl

set_option maxHeartbeats 4000000 in
set_option maxRecDepth 100000 in
theorem ct_orderOf_6 (X : Cx) {h : Hp} {A B m : Nat → Nat} {C : Nat → Nat → Nat} {r : Nat → Int32} {n tn : Nat} {rows : Nat → Nat → Int32} {tg : Nat → Int32} {w : Int32}  (hO : Ok r) (hY : SysAt X h A B m C r n rows tn tg) : Ct X mX9_orderOf 4 0 0 [.ref (m 0), .int w, .int (nI 6)] h (Ex (.int (Q_orderOf r w (nI 6))) h) := by
  obtain ⟨y0, hA, -, y1, y2, -, yT, -⟩ := id hY
  have hO0 := hO
  obtain ⟨nv, nl, no, hnv, hnl, hno, e7, e8, e9, hset, hvok, hvz, hlok, hlz, hok, hoz, hw⟩ := hO0
  have hA0 := hA
  obtain ⟨a0, a1, a2, a3, a4, a5, a6, av, al, ao⟩ := hA0
  unfold hobC at a0
  rw [e7, e8, e9] at a0
  refine Ct.ofG vX9_orderOf.1.2.2.1 (Nat.le_of_ble_eq_true rfl) ?_
  show G X RX9 cX9_orderOf 4 (some .int) "orderOf" (Rm 4 0 0) (Fm X (Ex (.int (Q_orderOf r w (nI 6))) h) 0 0) 0 0 0 [(0, .ref (m 0)), (1, .int w), (2, .int (nI 6))] [] h
  refine g_aload_n dX9_orderOf_0 (by rfl) (by first | exact isRf_r | exact isRf_n | exact isRf_o | assumption) ?_
  refine g_getf dX9_orderOf_1 fX9_10 (by first | assumption | (repeat' (first | assumption | exact hu_same | exact Ne.symm (by assumption) | apply hu_n1))) (by rfl) ?_
  refine g_iload_n dX9_orderOf_4 (by rfl) ?_
  by_cases hvj : ∃ j, j < no ∧ w = nI j
  · skip
    obtain ⟨j, hj, rfl⟩ := hvj
    have aoj := ao j (by omega)
    have aoj0 := aoj
    obtain ⟨o1, o2⟩ := aoj0
    unfold ordC at o1
    have obz := hok j hj
    refine g_cV1x dX9_orderOf_5 lX9_189 vX1_findOrder (ct_findOrder X (by omega) a0 a3 hj (oaR_j (by omega))) (by first | assumption | (repeat' (first | assumption | exact hu_same | exact Ne.symm (by assumption) | apply hu_n1))) rfl ⟨Nat.le_of_ble_eq_true rfl, Nat.le_of_ble_eq_true rfl⟩ (Nat.le_of_ble_eq_true rfl) ⟨Nat.le_of_ble_eq_true rfl, Nat.le_of_ble_eq_true rfl⟩ ?_
    refine g_astore_n (L1 := [(0, _), (1, _), (2, _), (3, _)]) dX9_orderOf_8 (by first | exact isRf_r | exact isRf_n | exact isRf_o | assumption) (by decide) (by rfl) ?_
    refine g_aload_n dX9_orderOf_9 (by rfl) (by first | exact isRf_r | exact isRf_n | exact isRf_o | assumption) ?_
    refine g_ifnonnull (tgt := 15) dX9_orderOf_10 (by decide) (by first | exact isRf_r | exact isRf_n | exact isRf_o | assumption) (fun c1 => ?_) (fun c1 => nomatch c1)
    refine g_iload_n dX9_orderOf_15 (by rfl) ?_
    refine g_cS1x dX9_orderOf_16 lX9_164 rfl vX9_isDye (ct_X9_isDye X) ⟨Nat.le_of_ble_eq_true rfl, Nat.le_of_ble_eq_true rfl⟩ (Nat.le_of_ble_eq_true rfl) ⟨Nat.le_of_ble_eq_true rfl, Nat.le_of_ble_eq_true rfl⟩ ?_
    refine g_if_eq (tgt := 28) dX9_orderOf_19 (by decide) (fun c2 => ?_) (fun c2 => absurd (by decide) c2)
    refine g_iload_n dX9_orderOf_28 (by rfl) ?_
    refine g_tableIn (tgt := 73) (off := 44) dX9_orderOf_29 (by decide) (by decide) (by decide) (by decide) ?_
    refine g_aload_n dX9_orderOf_73 (by rfl) (by first | exact isRf_r | exact isRf_n | exact isRf_o | assumption) ?_
    refine g_getf dX9_orderOf_74 fX9_10 (by first | assumption | (repeat' (first | assumption | exact hu_same | exact Ne.symm (by assumption) | apply hu_n1))) (by rfl) ?_
    refine g_aload_n dX9_orderOf_77 (by rfl) (by first | exact isRf_r | exact isRf_n | exact isRf_o | assumption) ?_
    refine g_cV1x dX9_orderOf_78 lX9_205 vX1_nearestLot (ct_X1_nearestLot X hnl e8 hlok hA aoj) (by first | assumption | (repeat' (first | assumption | exact hu_same | exact Ne.symm (by assumption) | apply hu_n1))) rfl ⟨Nat.le_of_ble_eq_true rfl, Nat.le_of_ble_eq_true rfl⟩ (Nat.le_of_ble_eq_true rfl) ⟨Nat.le_of_ble_eq_true rfl, Nat.le_of_ble_eq_true rfl⟩ ?_
    refine g_iret dX9_orderOf_81 rfl (Nat.le_refl _) (Nat.le_refl _) ?_
    refine Ex.i ?_ rfl
    unfold Q_orderOf
    rw [e9, okB_t hj (by omega), e8, cl_nI (j := j) (by omega), cl_nI (j := nl) (by omega), show cl (nI 6) = 6 from cl_nI (by omega), show rngB 0 6 (nI 6) = true by decide]
    rfl
  · skip
    refine g_cV1x dX9_orderOf_5 lX9_189 vX1_findOrder (ct_findOrderN X (by omega) a0 a3 hvj) (by first | assumption | (repeat' (first | assumption | exact hu_same | exact Ne.symm (by assumption) | apply hu_n1))) rfl ⟨Nat.le_of_ble_eq_true rfl, Nat.le_of_ble_eq_true rfl⟩ (Nat.le_of_ble_eq_true rfl) ⟨Nat.le_of_ble_eq_true rfl, Nat.le_of_ble_eq_true rfl⟩ ?_
    refine g_astore_n (L1 := [(0, _), (1, _), (2, _), (3, _)]) dX9_orderOf_8 (by first | exact isRf_r | exact isRf_n | exact isRf_o | assumption) (by decide) (by rfl) ?_
    refine g_aload_n dX9_orderOf_9 (by rfl) (by first | exact isRf_r | exact isRf_n | exact isRf_o | assumption) ?_
    refine g_ifnonnull (tgt := 15) dX9_orderOf_10 (by decide) (by first | exact isRf_r | exact isRf_n | exact isRf_o | assumption) (fun c3 => absurd rfl c3) (fun c3 => ?_)
    refine g_iconst (v := (-1)) dX9_orderOf_13 (by decide) ?_
    refine g_iret dX9_orderOf_14 rfl (Nat.le_refl _) (Nat.le_refl _) ?_
    refine Ex.i ?_ rfl
    unfold Q_orderOf
    rw [e9, okB_f (by omega) hvj]; rfl

set_option maxHeartbeats 4000000 in
set_option maxRecDepth 100000 in
theorem ct_orderOf_o (X : Cx) {h : Hp} {A B m : Nat → Nat} {C : Nat → Nat → Nat} {r : Nat → Int32} {n tn : Nat} {rows : Nat → Nat → Int32} {tg : Nat → Int32} {w : Int32} {k : Int32}  (hO : Ok r) (hY : SysAt X h A B m C r n rows tn tg) (hk : rngB 0 6 k = false) : Ct X mX9_orderOf 4 0 0 [.ref (m 0), .int w, .int k] h (Ex (.int (Q_orderOf r w k)) h) := by
  obtain ⟨y0, hA, -, y1, y2, -, yT, -⟩ := id hY
  have hO0 := hO
  obtain ⟨nv, nl, no, hnv, hnl, hno, e7, e8, e9, hset, hvok, hvz, hlok, hlz, hok, hoz, hw⟩ := hO0
  have hA0 := hA
  obtain ⟨a0, a1, a2, a3, a4, a5, a6, av, al, ao⟩ := hA0
  unfold hobC at a0
  rw [e7, e8, e9] at a0
  have hout := rng_o hk
  have yh : (6 : Int32).toInt = 6 := by decide
  rw [z_toInt, yh] at hout
  have hnd := nd_of (rng_up (a := 3) (by decide) hk)
  refine Ct.ofG vX9_orderOf.1.2.2.1 (Nat.le_of_ble_eq_true rfl) ?_
  show G X RX9 cX9_orderOf 4 (some .int) "orderOf" (Rm 4 0 0) (Fm X (Ex (.int (Q_orderOf r w k)) h) 0 0) 0 0 0 [(0, .ref (m 0)), (1, .int w), (2, .int k)] [] h
  refine g_aload_n dX9_orderOf_0 (by rfl) (by first | exact isRf_r | exact isRf_n | exact isRf_o | assumption) ?_
  refine g_getf dX9_orderOf_1 fX9_10 (by first | assumption | (repeat' (first | assumption | exact hu_same | exact Ne.symm (by assumption) | apply hu_n1))) (by rfl) ?_
  refine g_iload_n dX9_orderOf_4 (by rfl) ?_
  by_cases hvj : ∃ j, j < no ∧ w = nI j
  · skip
    obtain ⟨j, hj, rfl⟩ := hvj
    have aoj := ao j (by omega)
    have aoj0 := aoj
    obtain ⟨o1, o2⟩ := aoj0
    unfold ordC at o1
    have obz := hok j hj
    refine g_cV1x dX9_orderOf_5 lX9_189 vX1_findOrder (ct_findOrder X (by omega) a0 a3 hj (oaR_j (by omega))) (by first | assumption | (repeat' (first | assumption | exact hu_same | exact Ne.symm (by assumption) | apply hu_n1))) rfl ⟨Nat.le_of_ble_eq_true rfl, Nat.le_of_ble_eq_true rfl⟩ (Nat.le_of_ble_eq_true rfl) ⟨Nat.le_of_ble_eq_true rfl, Nat.le_of_ble_eq_true rfl⟩ ?_
    refine g_astore_n (L1 := [(0, _), (1, _), (2, _), (3, _)]) dX9_orderOf_8 (by first | exact isRf_r | exact isRf_n | exact isRf_o | assumption) (by decide) (by rfl) ?_
    refine g_aload_n dX9_orderOf_9 (by rfl) (by first | exact isRf_r | exact isRf_n | exact isRf_o | assumption) ?_
    refine g_ifnonnull (tgt := 15) dX9_orderOf_10 (by decide) (by first | exact isRf_r | exact isRf_n | exact isRf_o | assumption) (fun c1 => ?_) (fun c1 => nomatch c1)
    refine g_iload_n dX9_orderOf_15 (by rfl) ?_
    refine g_cS1x dX9_orderOf_16 lX9_164 rfl vX9_isDye (ct_X9_isDye X) ⟨Nat.le_of_ble_eq_true rfl, Nat.le_of_ble_eq_true rfl⟩ (Nat.le_of_ble_eq_true rfl) ⟨Nat.le_of_ble_eq_true rfl, Nat.le_of_ble_eq_true rfl⟩ ?_
    refine g_if_eq (tgt := 28) dX9_orderOf_19 (by decide) (fun c2 => ?_) (fun c2 => absurd hnd c2)
    refine g_iload_n dX9_orderOf_28 (by rfl) ?_
    refine g_tableOut (tgt := 82) dX9_orderOf_29 (by omega) (by decide) ?_
    refine g_iconst (v := (-1)) dX9_orderOf_82 (by decide) ?_
    refine g_iret dX9_orderOf_83 rfl (Nat.le_refl _) (Nat.le_refl _) ?_
    refine Ex.i ?_ rfl
    unfold Q_orderOf
    rw [hk, Bool.and_false]
    rfl
  · skip
    refine g_cV1x dX9_orderOf_5 lX9_189 vX1_findOrder (ct_findOrderN X (by omega) a0 a3 hvj) (by first | assumption | (repeat' (first | assumption | exact hu_same | exact Ne.symm (by assumption) | apply hu_n1))) rfl ⟨Nat.le_of_ble_eq_true rfl, Nat.le_of_ble_eq_true rfl⟩ (Nat.le_of_ble_eq_true rfl) ⟨Nat.le_of_ble_eq_true rfl, Nat.le_of_ble_eq_true rfl⟩ ?_
    refine g_astore_n (L1 := [(0, _), (1, _), (2, _), (3, _)]) dX9_orderOf_8 (by first | exact isRf_r | exact isRf_n | exact isRf_o | assumption) (by decide) (by rfl) ?_
    refine g_aload_n dX9_orderOf_9 (by rfl) (by first | exact isRf_r | exact isRf_n | exact isRf_o | assumption) ?_
    refine g_ifnonnull (tgt := 15) dX9_orderOf_10 (by decide) (by first | exact isRf_r | exact isRf_n | exact isRf_o | assumption) (fun c3 => absurd rfl c3) (fun c3 => ?_)
    refine g_iconst (v := (-1)) dX9_orderOf_13 (by decide) ?_
    refine g_iret dX9_orderOf_14 rfl (Nat.le_refl _) (Nat.le_refl _) ?_
    refine Ex.i ?_ rfl
    unfold Q_orderOf
    rw [e9, okB_f (by omega) hvj]; rfl

theorem ct_X9_orderOf (X : Cx) {h : Hp} {A B m : Nat → Nat} {C : Nat → Nat → Nat} {r : Nat → Int32} {n tn : Nat} {rows : Nat → Nat → Int32} {tg : Nat → Int32} {w k : Int32} (hO : Ok r) (hY : SysAt X h A B m C r n rows tn tg) : Ct X mX9_orderOf 4 0 0 [.ref (m 0), .int w, .int k] h (Ex (.int (Q_orderOf r w k)) h) := by
  cases hw : rngB 0 6 k with
  | false => exact ct_orderOf_o X hO hY hw
  | true =>
    obtain ⟨j, hj, rfl⟩ := rng_j (n := 6) hw (by decide) (by omega)
    rcases (show j < 4 ∨ j = 4 ∨ j = 5 ∨ j = 6 by omega) with z | rfl | rfl | rfl
    · exact ct_orderOf_d X hO hY z
    · exact ct_orderOf_4 X hO hY
    · exact ct_orderOf_5 X hO hY
    · exact ct_orderOf_6 X hO hY

def farN (r : Nat → Int32) (d l : Nat) : Int32 := nI (cntN (fun l2 => !sold r l2 && (!decide (shF (ltx r l2) d - shF (ltx r l) d < 0) && decide (shF (ltx r l2) d - shF (ltx r l) d ≤ r 4))) (cl (r 8)))
def alkF (r : Nat → Int32) (d : Nat) : Nat → Int32
  | 0 => 0
  | k + 1 => cond (sold r k) (alkF r d k) (cond (decide (farN r d k ≤ alkF r d k)) (alkF r d k) (farN r d k))
def Q_alike (r : Nat → Int32) (d : Int32) : Int32 := cond (rngB 0 3 d) (alkF r (cl d) (cl (r 8))) (-1)

set_option maxHeartbeats 4000000 in
set_option maxRecDepth 100000 in
theorem ct_X9_alike (X : Cx) {h : Hp} {A B m : Nat → Nat} {C : Nat → Nat → Nat} {r : Nat → Int32} {n tn : Nat} {rows : Nat → Nat → Int32} {tg : Nat → Int32} {d : Int32}  (hO : Ok r) (hY : SysAt X h A B m C r n rows tn tg) : Ct X mX9_alike 3 0 0 [.ref (m 0), .int d] h (Ex (.int (Q_alike r d)) h) := by
  obtain ⟨y0, hA, -, y1, y2, -, yT, -⟩ := id hY
  have hO0 := hO
  obtain ⟨nv, nl, no, hnv, hnl, hno, e7, e8, e9, hset, hvok, hvz, hlok, hlz, hok, hoz, hw⟩ := hO0
  have hA0 := hA
  obtain ⟨a0, a1, a2, a3, a4, a5, a6, av, al, ao⟩ := hA0
  unfold hobC at a0
  rw [e7, e8, e9] at a0
  refine Ct.ofG vX9_alike.1.2.2.1 (Nat.le_of_ble_eq_true rfl) ?_
  show G X RX9 cX9_alike 6 (some .int) "alike" (Rm 3 0 0) (Fm X (Ex (.int (Q_alike r d)) h) 0 0) 0 0 0 [(0, .ref (m 0)), (1, .int d)] [] h
  refine g_iload_n dX9_alike_0 (by rfl) ?_
  refine g_cS1x dX9_alike_1 lX9_164 rfl vX9_isDye (ct_X9_isDye X) ⟨Nat.le_of_ble_eq_true rfl, Nat.le_of_ble_eq_true rfl⟩ (Nat.le_of_ble_eq_true rfl) ⟨Nat.le_of_ble_eq_true rfl, Nat.le_of_ble_eq_true rfl⟩ ?_
  refine g_if_ne (tgt := 9) dX9_alike_4 (by decide) (fun c1 => ?_) (fun c1 => ?_)
  · skip
    have hd0 : rngB 0 3 d = true := by rw [← dye_rng]; exact decide_eq_true (bI_d1 _ c1)
    obtain ⟨d, hd, rfl⟩ := dye_nI hd0
    refine g_iconst (v := 0) dX9_alike_9 (by decide) ?_
    refine g_istore_n (L1 := [(0, _), (1, _), (2, _)]) dX9_alike_10 (by decide) (by rfl) ?_
    refine g_iconst (v := 0) dX9_alike_11 (by decide) ?_
    refine g_istore_n (L1 := [(0, _), (1, _), (2, _), (3, _)]) dX9_alike_12 (by decide) (by rfl) ?_
    have loop13 : ∀ i, i ≤ nl → ∀ acc, acc = alkF r d i → G X RX9 cX9_alike 6 (some .int) "alike" (Rm 3 0 0) (Fm X (Ex (.int (Q_alike r (nI d))) h) 0 0) 0 0 13 [(0, .ref (m 0)), (1, .int (nI d)), (2, .int acc), (3, .int (nI i))] [] h := by
      refine up_ind nl (fun i hi ih => ?_)
      intro acc eacc
      refine g_iload_n dX9_alike_13 (by rfl) ?_
      refine g_aload_n dX9_alike_14 (by rfl) (by first | exact isRf_r | exact isRf_n | exact isRf_o | assumption) ?_
      refine g_getf dX9_alike_15 fX9_10 (by first | assumption | (repeat' (first | assumption | exact hu_same | exact Ne.symm (by assumption) | apply hu_n1))) (by rfl) ?_
      refine g_getf dX9_alike_18 fX9_179 (by first | assumption | (repeat' (first | assumption | exact hu_same | exact Ne.symm (by assumption) | apply hu_n1))) (by rfl) ?_
      refine g_icmp_ge (tgt := 82) dX9_alike_21 (by decide) (fun c2 => ?_) (fun c2 => ?_)
      · skip
        have hie : i = nl := Nat.le_antisymm hi (c_ge (by omega) (by omega) c2)
        subst hie
        refine g_iload_n dX9_alike_82 (by rfl) ?_
        refine g_iret dX9_alike_83 rfl (Nat.le_refl _) (Nat.le_refl _) ?_
        refine Ex.i ?_ rfl
        unfold Q_alike
        rw [hd0, e8, cl_nI (by omega), cl_nI (by omega), eacc]
        rfl
      · skip
        have hlt : i < nl := c_nge (by omega) (by omega) c2
        refine g_aload_n dX9_alike_24 (by rfl) (by first | exact isRf_r | exact isRf_n | exact isRf_o | assumption) ?_
        refine g_getf dX9_alike_25 fX9_10 (by first | assumption | (repeat' (first | assumption | exact hu_same | exact Ne.symm (by assumption) | apply hu_n1))) (by rfl) ?_
        refine g_iload_n dX9_alike_28 (by rfl) ?_
        refine g_cV1x dX9_alike_29 lX9_117 vX1_findLot (ct_findLot X (by omega) a0 a2 hlt (laR_j (by omega))) (by first | assumption | (repeat' (first | assumption | exact hu_same | exact Ne.symm (by assumption) | apply hu_n1))) rfl ⟨Nat.le_of_ble_eq_true rfl, Nat.le_of_ble_eq_true rfl⟩ (Nat.le_of_ble_eq_true rfl) ⟨Nat.le_of_ble_eq_true rfl, Nat.le_of_ble_eq_true rfl⟩ ?_
        have alj := al i (by omega)
        obtain ⟨l1, l2, l3⟩ := id alj
        unfold lotC at l1
        have lok := hlok i hlt
        refine g_astore (L1 := [(0, _), (1, _), (2, _), (3, _), (4, _)]) dX9_alike_32 (by first | exact isRf_r | exact isRf_n | exact isRf_o | assumption) (by decide) (by rfl) ?_
        refine g_aload dX9_alike_34 (by rfl) (by first | exact isRf_r | exact isRf_n | exact isRf_o | assumption) ?_
        refine g_ifnull (tgt := 76) dX9_alike_36 (by decide) (by first | exact isRf_r | exact isRf_n | exact isRf_o | assumption) (fun c3 => nomatch c3) (fun c3 => ?_)
        refine g_aload dX9_alike_39 (by rfl) (by first | exact isRf_r | exact isRf_n | exact isRf_o | assumption) ?_
        refine g_cV0x dX9_alike_41 lX9_154 vX2_isSold (ct_X2_isSold X alj) (by first | assumption | (repeat' (first | assumption | exact hu_same | exact Ne.symm (by assumption) | apply hu_n1))) rfl ⟨Nat.le_of_ble_eq_true rfl, Nat.le_of_ble_eq_true rfl⟩ (Nat.le_of_ble_eq_true rfl) ⟨Nat.le_of_ble_eq_true rfl, Nat.le_of_ble_eq_true rfl⟩ ?_
        refine g_if_ne (tgt := 76) dX9_alike_44 (by decide) (fun c4 => ?_) (fun c4 => ?_)
        · skip
          refine g_iinc (v := nI (i + 1)) (L1 := [(0, _), (1, _), (2, _), (3, _), (4, _)]) dX9_alike_76 (by rfl) (nI_1 i) (by decide) (by rfl) ?_
          refine g_goto (tgt := 13) dX9_alike_79 (by decide) ?_
          refine g_pick [0, 1, 2, 3] rfl ?_
          refine ih hlt _ ?_
          show _ = cond _ _ _
          first
            | (rw [show sold r i = true from decide_eq_true (bI_d1 _ (by assumption))]; exact eacc)
            | (rw [show sold r i = false from decide_eq_false (bI_d0 _ (by assumption)), ← eacc, decide_eq_true (by assumption)]; rfl)
            | (rw [show sold r i = false from decide_eq_false (bI_d0 _ (by assumption)), ← eacc, decide_eq_false (by assumption)]; rfl)
        · skip
          refine g_aload_n dX9_alike_47 (by rfl) (by first | exact isRf_r | exact isRf_n | exact isRf_o | assumption) ?_
          refine g_getf dX9_alike_48 fX9_10 (by first | assumption | (repeat' (first | assumption | exact hu_same | exact Ne.symm (by assumption) | apply hu_n1))) (by rfl) ?_
          refine g_aload dX9_alike_51 (by rfl) (by first | exact isRf_r | exact isRf_n | exact isRf_o | assumption) ?_
          refine g_iload_n dX9_alike_53 (by rfl) ?_
          refine g_cV1x dX9_alike_54 lX9_168 vX2_shadeOf (ct_X2_shadeOf X hd lok.pos alj) (by first | assumption | (repeat' (first | assumption | exact hu_same | exact Ne.symm (by assumption) | apply hu_n1))) rfl ⟨Nat.le_of_ble_eq_true rfl, Nat.le_of_ble_eq_true rfl⟩ (Nat.le_of_ble_eq_true rfl) ⟨Nat.le_of_ble_eq_true rfl, Nat.le_of_ble_eq_true rfl⟩ ?_
          refine g_iload_n dX9_alike_57 (by rfl) ?_
          refine g_cV2x dX9_alike_58 lX9_216 vX1_lotsNotFarAbove (ct_X1_lotsNotFarAbove X hd hnl e8 hlok hA) (by first | assumption | (repeat' (first | assumption | exact hu_same | exact Ne.symm (by assumption) | apply hu_n1))) rfl ⟨Nat.le_of_ble_eq_true rfl, Nat.le_of_ble_eq_true rfl⟩ (Nat.le_of_ble_eq_true rfl) ⟨Nat.le_of_ble_eq_true rfl, Nat.le_of_ble_eq_true rfl⟩ ?_
          have ef : nI (cntN (fun l2 => !sold r l2 && (!decide (shF (ltx r l2) d - shF (ltx r i) d < 0) && decide (shF (ltx r l2) d - shF (ltx r i) d ≤ r 4))) nl) = farN r d i := by
            unfold farN
            rw [e8, cl_nI (by omega)]
          rw [ef]
          refine g_istore (L1 := [(0, _), (1, _), (2, _), (3, _), (4, _), (5, _)]) dX9_alike_61 (by decide) (by rfl) ?_
          refine g_iload dX9_alike_63 (by rfl) ?_
          refine g_iload_n dX9_alike_65 (by rfl) ?_
          refine g_icmp_le (tgt := 74) dX9_alike_66 (by decide) (fun c5 => ?_) (fun c5 => ?_)
          · skip
            refine g_iload_n dX9_alike_74 (by rfl) ?_
            refine g_istore_n (L1 := [(0, _), (1, _), (2, _), (3, _), (4, _), (5, _)]) dX9_alike_75 (by decide) (by rfl) ?_
            refine g_iinc (v := nI (i + 1)) (L1 := [(0, _), (1, _), (2, _), (3, _), (4, _), (5, _)]) dX9_alike_76 (by rfl) (nI_1 i) (by decide) (by rfl) ?_
            refine g_goto (tgt := 13) dX9_alike_79 (by decide) ?_
            refine g_pick [0, 1, 2, 3] rfl ?_
            refine ih hlt _ ?_
            show _ = cond _ _ _
            first
              | (rw [show sold r i = true from decide_eq_true (bI_d1 _ (by assumption))]; exact eacc)
              | (rw [show sold r i = false from decide_eq_false (bI_d0 _ (by assumption)), ← eacc, decide_eq_true (by assumption)]; rfl)
              | (rw [show sold r i = false from decide_eq_false (bI_d0 _ (by assumption)), ← eacc, decide_eq_false (by assumption)]; rfl)
          · skip
            refine g_iload dX9_alike_69 (by rfl) ?_
            refine g_goto (tgt := 75) dX9_alike_71 (by decide) ?_
            refine g_istore_n (L1 := [(0, _), (1, _), (2, _), (3, _), (4, _), (5, _)]) dX9_alike_75 (by decide) (by rfl) ?_
            refine g_iinc (v := nI (i + 1)) (L1 := [(0, _), (1, _), (2, _), (3, _), (4, _), (5, _)]) dX9_alike_76 (by rfl) (nI_1 i) (by decide) (by rfl) ?_
            refine g_goto (tgt := 13) dX9_alike_79 (by decide) ?_
            refine g_pick [0, 1, 2, 3] rfl ?_
            refine ih hlt _ ?_
            show _ = cond _ _ _
            first
              | (rw [show sold r i = true from decide_eq_true (bI_d1 _ (by assumption))]; exact eacc)
              | (rw [show sold r i = false from decide_eq_false (bI_d0 _ (by assumption)), ← eacc, decide_eq_true (by assumption)]; rfl)
              | (rw [show sold r i = false from decide_eq_false (bI_d0 _ (by assumption)), ← eacc, decide_eq_false (by assumption)]; rfl)
    exact loop13 0 (by omega) _ rfl
  · skip
    have hd0 : rngB 0 3 d = false := by rw [← dye_rng]; exact decide_eq_false (bI_d0 _ c1)
    refine g_iconst (v := (-1)) dX9_alike_7 (by decide) ?_
    refine g_iret dX9_alike_8 rfl (Nat.le_refl _) (Nat.le_refl _) ?_
    refine Ex.i ?_ rfl
    unfold Q_alike
    rw [hd0]
    rfl

def Q_account (r : Nat → Int32) (d k : Int32) : Int32 := cond (rngB 0 3 d && rngB 0 5 k) (match cl k with
  | 0 => r (11 + cl d)
  | 1 => sumP (fun v => decide (vt r v 0 = nI (cl d))) (fun v => vt r v 2) (cl (r 7))
  | 2 => sumP (fun l => !sold r l) (fun l => ltx r l (2 + cl d)) (cl (r 8))
  | 3 => sumP (fun l => !sold r l) (fun l => ltx r l (6 + cl d)) (cl (r 8))
  | 4 => sumP (fun l => sold r l) (fun l => ltx r l (2 + cl d) + ltx r l (6 + cl d)) (cl (r 8))
  | _ => r (15 + cl d)) (-1)

set_option maxHeartbeats 4000000 in
set_option maxRecDepth 100000 in
theorem ct_account_0 (X : Cx) {h : Hp} {A B m : Nat → Nat} {C : Nat → Nat → Nat} {r : Nat → Int32} {n tn : Nat} {rows : Nat → Nat → Int32} {tg : Nat → Int32} {d : Int32}  (hO : Ok r) (hY : SysAt X h A B m C r n rows tn tg) : Ct X mX9_account 2 0 0 [.ref (m 0), .int d, .int (nI 0)] h (Ex (.int (Q_account r d (nI 0))) h) := by
  obtain ⟨y0, hA, -, y1, y2, -, yT, -⟩ := id hY
  have hO0 := hO
  obtain ⟨nv, nl, no, hnv, hnl, hno, e7, e8, e9, hset, hvok, hvz, hlok, hlz, hok, hoz, hw⟩ := hO0
  have hA0 := hA
  obtain ⟨a0, a1, a2, a3, a4, a5, a6, av, al, ao⟩ := hA0
  unfold hobC at a0
  rw [e7, e8, e9] at a0
  refine Ct.ofG vX9_account.1.2.2.1 (Nat.le_of_ble_eq_true rfl) ?_
  show G X RX9 cX9_account 3 (some .int) "account" (Rm 2 0 0) (Fm X (Ex (.int (Q_account r d (nI 0))) h) 0 0) 0 0 0 [(0, .ref (m 0)), (1, .int d), (2, .int (nI 0))] [] h
  refine g_iload_n dX9_account_0 (by rfl) ?_
  refine g_cS1x dX9_account_1 lX9_164 rfl vX9_isDye (ct_X9_isDye X) ⟨Nat.le_of_ble_eq_true rfl, Nat.le_of_ble_eq_true rfl⟩ (Nat.le_of_ble_eq_true rfl) ⟨Nat.le_of_ble_eq_true rfl, Nat.le_of_ble_eq_true rfl⟩ ?_
  refine g_if_ne (tgt := 9) dX9_account_4 (by decide) (fun c1 => ?_) (fun c1 => ?_)
  · skip
    have hd0 : rngB 0 3 d = true := by rw [← dye_rng]; exact decide_eq_true (bI_d1 _ c1)
    obtain ⟨d, hd, rfl⟩ := dye_nI hd0
    refine g_iload_n dX9_account_9 (by rfl) ?_
    refine g_tableIn (tgt := 48) (off := 38) dX9_account_10 (by decide) (by decide) (by decide) (by decide) ?_
    refine g_aload_n dX9_account_48 (by rfl) (by first | exact isRf_r | exact isRf_n | exact isRf_o | assumption) ?_
    refine g_getf dX9_account_49 fX9_10 (by first | assumption | (repeat' (first | assumption | exact hu_same | exact Ne.symm (by assumption) | apply hu_n1))) (by rfl) ?_
    refine g_getf dX9_account_52 fX9_233 (by first | assumption | (repeat' (first | assumption | exact hu_same | exact Ne.symm (by assumption) | apply hu_n1))) (by rfl) ?_
    refine g_iload_n dX9_account_55 (by rfl) ?_
    refine g_cS2x dX9_account_56 lX9_236 rfl vX9_cellAt (ct_X9_cellAtI X hd (by omega) a4) ⟨Nat.le_of_ble_eq_true rfl, Nat.le_of_ble_eq_true rfl⟩ (Nat.le_of_ble_eq_true rfl) ⟨Nat.le_of_ble_eq_true rfl, Nat.le_of_ble_eq_true rfl⟩ ?_
    refine g_iret dX9_account_59 rfl (Nat.le_refl _) (Nat.le_refl _) ?_
    refine Ex.i ?_ rfl
    unfold Q_account
    rw [hd0, e7, e8, cl_nI (j := d) (by omega), cl_nI (j := nv) (by omega), cl_nI (j := nl) (by omega), show cl (nI 0) = 0 from cl_nI (by omega), show rngB 0 5 (nI 0) = true by decide]
    first
      | rfl
      | (rw [nr_lt hd]; rfl)
  · skip
    have hd0 : rngB 0 3 d = false := by rw [← dye_rng]; exact decide_eq_false (bI_d0 _ c1)
    refine g_iconst (v := (-1)) dX9_account_7 (by decide) ?_
    refine g_iret dX9_account_8 rfl (Nat.le_refl _) (Nat.le_refl _) ?_
    refine Ex.i ?_ rfl
    unfold Q_account
    rw [hd0]
    rfl

set_option maxHeartbeats 4000000 in
set_option maxRecDepth 100000 in
theorem ct_account_1 (X : Cx) {h : Hp} {A B m : Nat → Nat} {C : Nat → Nat → Nat} {r : Nat → Int32} {n tn : Nat} {rows : Nat → Nat → Int32} {tg : Nat → Int32} {d : Int32}  (hO : Ok r) (hY : SysAt X h A B m C r n rows tn tg) : Ct X mX9_account 2 0 0 [.ref (m 0), .int d, .int (nI 1)] h (Ex (.int (Q_account r d (nI 1))) h) := by
  obtain ⟨y0, hA, -, y1, y2, -, yT, -⟩ := id hY
  have hO0 := hO
  obtain ⟨nv, nl, no, hnv, hnl, hno, e7, e8, e9, hset, hvok, hvz, hlok, hlz, hok, hoz, hw⟩ := hO0
  have hA0 := hA
  obtain ⟨a0, a1, a2, a3, a4, a5, a6, av, al, ao⟩ := hA0
  unfold hobC at a0
  rw [e7, e8, e9] at a0
  refine Ct.ofG vX9_account.1.2.2.1 (Nat.le_of_ble_eq_true rfl) ?_
  show G X RX9 cX9_account 3 (some .int) "account" (Rm 2 0 0) (Fm X (Ex (.int (Q_account r d (nI 1))) h) 0 0) 0 0 0 [(0, .ref (m 0)), (1, .int d), (2, .int (nI 1))] [] h
  refine g_iload_n dX9_account_0 (by rfl) ?_
  refine g_cS1x dX9_account_1 lX9_164 rfl vX9_isDye (ct_X9_isDye X) ⟨Nat.le_of_ble_eq_true rfl, Nat.le_of_ble_eq_true rfl⟩ (Nat.le_of_ble_eq_true rfl) ⟨Nat.le_of_ble_eq_true rfl, Nat.le_of_ble_eq_true rfl⟩ ?_
  refine g_if_ne (tgt := 9) dX9_account_4 (by decide) (fun c1 => ?_) (fun c1 => ?_)
  · skip
    have hd0 : rngB 0 3 d = true := by rw [← dye_rng]; exact decide_eq_true (bI_d1 _ c1)
    obtain ⟨d, hd, rfl⟩ := dye_nI hd0
    refine g_iload_n dX9_account_9 (by rfl) ?_
    refine g_tableIn (tgt := 60) (off := 50) dX9_account_10 (by decide) (by decide) (by decide) (by decide) ?_
    refine g_aload_n dX9_account_60 (by rfl) (by first | exact isRf_r | exact isRf_n | exact isRf_o | assumption) ?_
    refine g_getf dX9_account_61 fX9_10 (by first | assumption | (repeat' (first | assumption | exact hu_same | exact Ne.symm (by assumption) | apply hu_n1))) (by rfl) ?_
    refine g_iload_n dX9_account_64 (by rfl) ?_
    refine g_cV1x dX9_account_65 lX9_240 vX1_grainsInVats (ct_X1_grainsInVats X hnv e7 hA) (by first | assumption | (repeat' (first | assumption | exact hu_same | exact Ne.symm (by assumption) | apply hu_n1))) rfl ⟨Nat.le_of_ble_eq_true rfl, Nat.le_of_ble_eq_true rfl⟩ (Nat.le_of_ble_eq_true rfl) ⟨Nat.le_of_ble_eq_true rfl, Nat.le_of_ble_eq_true rfl⟩ ?_
    refine g_iret dX9_account_68 rfl (Nat.le_refl _) (Nat.le_refl _) ?_
    refine Ex.i ?_ rfl
    unfold Q_account
    rw [hd0, e7, e8, cl_nI (j := d) (by omega), cl_nI (j := nv) (by omega), cl_nI (j := nl) (by omega), show cl (nI 1) = 1 from cl_nI (by omega), show rngB 0 5 (nI 1) = true by decide]
    first
      | rfl
      | (rw [nr_lt hd]; rfl)
  · skip
    have hd0 : rngB 0 3 d = false := by rw [← dye_rng]; exact decide_eq_false (bI_d0 _ c1)
    refine g_iconst (v := (-1)) dX9_account_7 (by decide) ?_
    refine g_iret dX9_account_8 rfl (Nat.le_refl _) (Nat.le_refl _) ?_
    refine Ex.i ?_ rfl
    unfold Q_account
    rw [hd0]
    rfl

set_option maxHeartbeats 4000000 in
set_option maxRecDepth 100000 in
theorem ct_account_2 (X : Cx) {h : Hp} {A B m : Nat → Nat} {C : Nat → Nat → Nat} {r : Nat → Int32} {n tn : Nat} {rows : Nat → Nat → Int32} {tg : Nat → Int32} {d : Int32}  (hO : Ok r) (hY : SysAt X h A B m C r n rows tn tg) : Ct X mX9_account 2 0 0 [.ref (m 0), .int d, .int (nI 2)] h (Ex (.int (Q_account r d (nI 2))) h) := by
  obtain ⟨y0, hA, -, y1, y2, -, yT, -⟩ := id hY
  have hO0 := hO
  obtain ⟨nv, nl, no, hnv, hnl, hno, e7, e8, e9, hset, hvok, hvz, hlok, hlz, hok, hoz, hw⟩ := hO0
  have hA0 := hA
  obtain ⟨a0, a1, a2, a3, a4, a5, a6, av, al, ao⟩ := hA0
  unfold hobC at a0
  rw [e7, e8, e9] at a0
  refine Ct.ofG vX9_account.1.2.2.1 (Nat.le_of_ble_eq_true rfl) ?_
  show G X RX9 cX9_account 3 (some .int) "account" (Rm 2 0 0) (Fm X (Ex (.int (Q_account r d (nI 2))) h) 0 0) 0 0 0 [(0, .ref (m 0)), (1, .int d), (2, .int (nI 2))] [] h
  refine g_iload_n dX9_account_0 (by rfl) ?_
  refine g_cS1x dX9_account_1 lX9_164 rfl vX9_isDye (ct_X9_isDye X) ⟨Nat.le_of_ble_eq_true rfl, Nat.le_of_ble_eq_true rfl⟩ (Nat.le_of_ble_eq_true rfl) ⟨Nat.le_of_ble_eq_true rfl, Nat.le_of_ble_eq_true rfl⟩ ?_
  refine g_if_ne (tgt := 9) dX9_account_4 (by decide) (fun c1 => ?_) (fun c1 => ?_)
  · skip
    have hd0 : rngB 0 3 d = true := by rw [← dye_rng]; exact decide_eq_true (bI_d1 _ c1)
    obtain ⟨d, hd, rfl⟩ := dye_nI hd0
    refine g_iload_n dX9_account_9 (by rfl) ?_
    refine g_tableIn (tgt := 69) (off := 59) dX9_account_10 (by decide) (by decide) (by decide) (by decide) ?_
    refine g_aload_n dX9_account_69 (by rfl) (by first | exact isRf_r | exact isRf_n | exact isRf_o | assumption) ?_
    refine g_getf dX9_account_70 fX9_10 (by first | assumption | (repeat' (first | assumption | exact hu_same | exact Ne.symm (by assumption) | apply hu_n1))) (by rfl) ?_
    refine g_iload_n dX9_account_73 (by rfl) ?_
    refine g_cV1x dX9_account_74 lX9_243 vX1_fixedInHouse (ct_X1_fixedInHouse X hd hnl e8 hlok hA) (by first | assumption | (repeat' (first | assumption | exact hu_same | exact Ne.symm (by assumption) | apply hu_n1))) rfl ⟨Nat.le_of_ble_eq_true rfl, Nat.le_of_ble_eq_true rfl⟩ (Nat.le_of_ble_eq_true rfl) ⟨Nat.le_of_ble_eq_true rfl, Nat.le_of_ble_eq_true rfl⟩ ?_
    refine g_iret dX9_account_77 rfl (Nat.le_refl _) (Nat.le_refl _) ?_
    refine Ex.i ?_ rfl
    unfold Q_account
    rw [hd0, e7, e8, cl_nI (j := d) (by omega), cl_nI (j := nv) (by omega), cl_nI (j := nl) (by omega), show cl (nI 2) = 2 from cl_nI (by omega), show rngB 0 5 (nI 2) = true by decide]
    first
      | rfl
      | (rw [nr_lt hd]; rfl)
  · skip
    have hd0 : rngB 0 3 d = false := by rw [← dye_rng]; exact decide_eq_false (bI_d0 _ c1)
    refine g_iconst (v := (-1)) dX9_account_7 (by decide) ?_
    refine g_iret dX9_account_8 rfl (Nat.le_refl _) (Nat.le_refl _) ?_
    refine Ex.i ?_ rfl
    unfold Q_account
    rw [hd0]
    rfl

set_option maxHeartbeats 4000000 in
set_option maxRecDepth 100000 in
theorem ct_account_3 (X : Cx) {h : Hp} {A B m : Nat → Nat} {C : Nat → Nat → Nat} {r : Nat → Int32} {n tn : Nat} {rows : Nat → Nat → Int32} {tg : Nat → Int32} {d : Int32}  (hO : Ok r) (hY : SysAt X h A B m C r n rows tn tg) : Ct X mX9_account 2 0 0 [.ref (m 0), .int d, .int (nI 3)] h (Ex (.int (Q_account r d (nI 3))) h) := by
  obtain ⟨y0, hA, -, y1, y2, -, yT, -⟩ := id hY
  have hO0 := hO
  obtain ⟨nv, nl, no, hnv, hnl, hno, e7, e8, e9, hset, hvok, hvz, hlok, hlz, hok, hoz, hw⟩ := hO0
  have hA0 := hA
  obtain ⟨a0, a1, a2, a3, a4, a5, a6, av, al, ao⟩ := hA0
  unfold hobC at a0
  rw [e7, e8, e9] at a0
  refine Ct.ofG vX9_account.1.2.2.1 (Nat.le_of_ble_eq_true rfl) ?_
  show G X RX9 cX9_account 3 (some .int) "account" (Rm 2 0 0) (Fm X (Ex (.int (Q_account r d (nI 3))) h) 0 0) 0 0 0 [(0, .ref (m 0)), (1, .int d), (2, .int (nI 3))] [] h
  refine g_iload_n dX9_account_0 (by rfl) ?_
  refine g_cS1x dX9_account_1 lX9_164 rfl vX9_isDye (ct_X9_isDye X) ⟨Nat.le_of_ble_eq_true rfl, Nat.le_of_ble_eq_true rfl⟩ (Nat.le_of_ble_eq_true rfl) ⟨Nat.le_of_ble_eq_true rfl, Nat.le_of_ble_eq_true rfl⟩ ?_
  refine g_if_ne (tgt := 9) dX9_account_4 (by decide) (fun c1 => ?_) (fun c1 => ?_)
  · skip
    have hd0 : rngB 0 3 d = true := by rw [← dye_rng]; exact decide_eq_true (bI_d1 _ c1)
    obtain ⟨d, hd, rfl⟩ := dye_nI hd0
    refine g_iload_n dX9_account_9 (by rfl) ?_
    refine g_tableIn (tgt := 78) (off := 68) dX9_account_10 (by decide) (by decide) (by decide) (by decide) ?_
    refine g_aload_n dX9_account_78 (by rfl) (by first | exact isRf_r | exact isRf_n | exact isRf_o | assumption) ?_
    refine g_getf dX9_account_79 fX9_10 (by first | assumption | (repeat' (first | assumption | exact hu_same | exact Ne.symm (by assumption) | apply hu_n1))) (by rfl) ?_
    refine g_iload_n dX9_account_82 (by rfl) ?_
    refine g_cV1x dX9_account_83 lX9_246 vX1_looseInHouse (ct_X1_looseInHouse X hd hnl e8 hlok hA) (by first | assumption | (repeat' (first | assumption | exact hu_same | exact Ne.symm (by assumption) | apply hu_n1))) rfl ⟨Nat.le_of_ble_eq_true rfl, Nat.le_of_ble_eq_true rfl⟩ (Nat.le_of_ble_eq_true rfl) ⟨Nat.le_of_ble_eq_true rfl, Nat.le_of_ble_eq_true rfl⟩ ?_
    refine g_iret dX9_account_86 rfl (Nat.le_refl _) (Nat.le_refl _) ?_
    refine Ex.i ?_ rfl
    unfold Q_account
    rw [hd0, e7, e8, cl_nI (j := d) (by omega), cl_nI (j := nv) (by omega), cl_nI (j := nl) (by omega), show cl (nI 3) = 3 from cl_nI (by omega), show rngB 0 5 (nI 3) = true by decide]
    first
      | rfl
      | (rw [nr_lt hd]; rfl)
  · skip
    have hd0 : rngB 0 3 d = false := by rw [← dye_rng]; exact decide_eq_false (bI_d0 _ c1)
    refine g_iconst (v := (-1)) dX9_account_7 (by decide) ?_
    refine g_iret dX9_account_8 rfl (Nat.le_refl _) (Nat.le_refl _) ?_
    refine Ex.i ?_ rfl
    unfold Q_account
    rw [hd0]
    rfl

set_option maxHeartbeats 4000000 in
set_option maxRecDepth 100000 in
theorem ct_account_4 (X : Cx) {h : Hp} {A B m : Nat → Nat} {C : Nat → Nat → Nat} {r : Nat → Int32} {n tn : Nat} {rows : Nat → Nat → Int32} {tg : Nat → Int32} {d : Int32}  (hO : Ok r) (hY : SysAt X h A B m C r n rows tn tg) : Ct X mX9_account 2 0 0 [.ref (m 0), .int d, .int (nI 4)] h (Ex (.int (Q_account r d (nI 4))) h) := by
  obtain ⟨y0, hA, -, y1, y2, -, yT, -⟩ := id hY
  have hO0 := hO
  obtain ⟨nv, nl, no, hnv, hnl, hno, e7, e8, e9, hset, hvok, hvz, hlok, hlz, hok, hoz, hw⟩ := hO0
  have hA0 := hA
  obtain ⟨a0, a1, a2, a3, a4, a5, a6, av, al, ao⟩ := hA0
  unfold hobC at a0
  rw [e7, e8, e9] at a0
  refine Ct.ofG vX9_account.1.2.2.1 (Nat.le_of_ble_eq_true rfl) ?_
  show G X RX9 cX9_account 3 (some .int) "account" (Rm 2 0 0) (Fm X (Ex (.int (Q_account r d (nI 4))) h) 0 0) 0 0 0 [(0, .ref (m 0)), (1, .int d), (2, .int (nI 4))] [] h
  refine g_iload_n dX9_account_0 (by rfl) ?_
  refine g_cS1x dX9_account_1 lX9_164 rfl vX9_isDye (ct_X9_isDye X) ⟨Nat.le_of_ble_eq_true rfl, Nat.le_of_ble_eq_true rfl⟩ (Nat.le_of_ble_eq_true rfl) ⟨Nat.le_of_ble_eq_true rfl, Nat.le_of_ble_eq_true rfl⟩ ?_
  refine g_if_ne (tgt := 9) dX9_account_4 (by decide) (fun c1 => ?_) (fun c1 => ?_)
  · skip
    have hd0 : rngB 0 3 d = true := by rw [← dye_rng]; exact decide_eq_true (bI_d1 _ c1)
    obtain ⟨d, hd, rfl⟩ := dye_nI hd0
    refine g_iload_n dX9_account_9 (by rfl) ?_
    refine g_tableIn (tgt := 87) (off := 77) dX9_account_10 (by decide) (by decide) (by decide) (by decide) ?_
    refine g_aload_n dX9_account_87 (by rfl) (by first | exact isRf_r | exact isRf_n | exact isRf_o | assumption) ?_
    refine g_getf dX9_account_88 fX9_10 (by first | assumption | (repeat' (first | assumption | exact hu_same | exact Ne.symm (by assumption) | apply hu_n1))) (by rfl) ?_
    refine g_iload_n dX9_account_91 (by rfl) ?_
    refine g_cV1x dX9_account_92 lX9_249 vX1_grainsSold (ct_X1_grainsSold X hd hnl e8 hlok hA) (by first | assumption | (repeat' (first | assumption | exact hu_same | exact Ne.symm (by assumption) | apply hu_n1))) rfl ⟨Nat.le_of_ble_eq_true rfl, Nat.le_of_ble_eq_true rfl⟩ (Nat.le_of_ble_eq_true rfl) ⟨Nat.le_of_ble_eq_true rfl, Nat.le_of_ble_eq_true rfl⟩ ?_
    refine g_iret dX9_account_95 rfl (Nat.le_refl _) (Nat.le_refl _) ?_
    refine Ex.i ?_ rfl
    unfold Q_account
    rw [hd0, e7, e8, cl_nI (j := d) (by omega), cl_nI (j := nv) (by omega), cl_nI (j := nl) (by omega), show cl (nI 4) = 4 from cl_nI (by omega), show rngB 0 5 (nI 4) = true by decide]
    first
      | rfl
      | (rw [nr_lt hd]; rfl)
  · skip
    have hd0 : rngB 0 3 d = false := by rw [← dye_rng]; exact decide_eq_false (bI_d0 _ c1)
    refine g_iconst (v := (-1)) dX9_account_7 (by decide) ?_
    refine g_iret dX9_account_8 rfl (Nat.le_refl _) (Nat.le_refl _) ?_
    refine Ex.i ?_ rfl
    unfold Q_account
    rw [hd0]
    rfl

set_option maxHeartbeats 4000000 in
set_option maxRecDepth 100000 in
theorem ct_account_5 (X : Cx) {h : Hp} {A B m : Nat → Nat} {C : Nat → Nat → Nat} {r : Nat → Int32} {n tn : Nat} {rows : Nat → Nat → Int32} {tg : Nat → Int32} {d : Int32}  (hO : Ok r) (hY : SysAt X h A B m C r n rows tn tg) : Ct X mX9_account 2 0 0 [.ref (m 0), .int d, .int (nI 5)] h (Ex (.int (Q_account r d (nI 5))) h) := by
  obtain ⟨y0, hA, -, y1, y2, -, yT, -⟩ := id hY
  have hO0 := hO
  obtain ⟨nv, nl, no, hnv, hnl, hno, e7, e8, e9, hset, hvok, hvz, hlok, hlz, hok, hoz, hw⟩ := hO0
  have hA0 := hA
  obtain ⟨a0, a1, a2, a3, a4, a5, a6, av, al, ao⟩ := hA0
  unfold hobC at a0
  rw [e7, e8, e9] at a0
  refine Ct.ofG vX9_account.1.2.2.1 (Nat.le_of_ble_eq_true rfl) ?_
  show G X RX9 cX9_account 3 (some .int) "account" (Rm 2 0 0) (Fm X (Ex (.int (Q_account r d (nI 5))) h) 0 0) 0 0 0 [(0, .ref (m 0)), (1, .int d), (2, .int (nI 5))] [] h
  refine g_iload_n dX9_account_0 (by rfl) ?_
  refine g_cS1x dX9_account_1 lX9_164 rfl vX9_isDye (ct_X9_isDye X) ⟨Nat.le_of_ble_eq_true rfl, Nat.le_of_ble_eq_true rfl⟩ (Nat.le_of_ble_eq_true rfl) ⟨Nat.le_of_ble_eq_true rfl, Nat.le_of_ble_eq_true rfl⟩ ?_
  refine g_if_ne (tgt := 9) dX9_account_4 (by decide) (fun c1 => ?_) (fun c1 => ?_)
  · skip
    have hd0 : rngB 0 3 d = true := by rw [← dye_rng]; exact decide_eq_true (bI_d1 _ c1)
    obtain ⟨d, hd, rfl⟩ := dye_nI hd0
    refine g_iload_n dX9_account_9 (by rfl) ?_
    refine g_tableIn (tgt := 96) (off := 86) dX9_account_10 (by decide) (by decide) (by decide) (by decide) ?_
    refine g_aload_n dX9_account_96 (by rfl) (by first | exact isRf_r | exact isRf_n | exact isRf_o | assumption) ?_
    refine g_getf dX9_account_97 fX9_10 (by first | assumption | (repeat' (first | assumption | exact hu_same | exact Ne.symm (by assumption) | apply hu_n1))) (by rfl) ?_
    refine g_getf dX9_account_100 fX9_252 (by first | assumption | (repeat' (first | assumption | exact hu_same | exact Ne.symm (by assumption) | apply hu_n1))) (by rfl) ?_
    refine g_iload_n dX9_account_103 (by rfl) ?_
    refine g_cS2x dX9_account_104 lX9_236 rfl vX9_cellAt (ct_X9_cellAtI X hd (by omega) a5) ⟨Nat.le_of_ble_eq_true rfl, Nat.le_of_ble_eq_true rfl⟩ (Nat.le_of_ble_eq_true rfl) ⟨Nat.le_of_ble_eq_true rfl, Nat.le_of_ble_eq_true rfl⟩ ?_
    refine g_iret dX9_account_107 rfl (Nat.le_refl _) (Nat.le_refl _) ?_
    refine Ex.i ?_ rfl
    unfold Q_account
    rw [hd0, e7, e8, cl_nI (j := d) (by omega), cl_nI (j := nv) (by omega), cl_nI (j := nl) (by omega), show cl (nI 5) = 5 from cl_nI (by omega), show rngB 0 5 (nI 5) = true by decide]
    first
      | rfl
      | (rw [nr_lt hd]; rfl)
  · skip
    have hd0 : rngB 0 3 d = false := by rw [← dye_rng]; exact decide_eq_false (bI_d0 _ c1)
    refine g_iconst (v := (-1)) dX9_account_7 (by decide) ?_
    refine g_iret dX9_account_8 rfl (Nat.le_refl _) (Nat.le_refl _) ?_
    refine Ex.i ?_ rfl
    unfold Q_account
    rw [hd0]
    rfl

set_option maxHeartbeats 4000000 in
set_option maxRecDepth 100000 in
theorem ct_account_o (X : Cx) {h : Hp} {A B m : Nat → Nat} {C : Nat → Nat → Nat} {r : Nat → Int32} {n tn : Nat} {rows : Nat → Nat → Int32} {tg : Nat → Int32} {d : Int32} {k : Int32}  (hO : Ok r) (hY : SysAt X h A B m C r n rows tn tg) (hk : rngB 0 5 k = false) : Ct X mX9_account 2 0 0 [.ref (m 0), .int d, .int k] h (Ex (.int (Q_account r d k)) h) := by
  obtain ⟨y0, hA, -, y1, y2, -, yT, -⟩ := id hY
  have hO0 := hO
  obtain ⟨nv, nl, no, hnv, hnl, hno, e7, e8, e9, hset, hvok, hvz, hlok, hlz, hok, hoz, hw⟩ := hO0
  have hA0 := hA
  obtain ⟨a0, a1, a2, a3, a4, a5, a6, av, al, ao⟩ := hA0
  unfold hobC at a0
  rw [e7, e8, e9] at a0
  have hout := rng_o hk
  have yh : (5 : Int32).toInt = 5 := by decide
  rw [z_toInt, yh] at hout
  refine Ct.ofG vX9_account.1.2.2.1 (Nat.le_of_ble_eq_true rfl) ?_
  show G X RX9 cX9_account 3 (some .int) "account" (Rm 2 0 0) (Fm X (Ex (.int (Q_account r d k)) h) 0 0) 0 0 0 [(0, .ref (m 0)), (1, .int d), (2, .int k)] [] h
  refine g_iload_n dX9_account_0 (by rfl) ?_
  refine g_cS1x dX9_account_1 lX9_164 rfl vX9_isDye (ct_X9_isDye X) ⟨Nat.le_of_ble_eq_true rfl, Nat.le_of_ble_eq_true rfl⟩ (Nat.le_of_ble_eq_true rfl) ⟨Nat.le_of_ble_eq_true rfl, Nat.le_of_ble_eq_true rfl⟩ ?_
  refine g_if_ne (tgt := 9) dX9_account_4 (by decide) (fun c1 => ?_) (fun c1 => ?_)
  · skip
    have hd0 : rngB 0 3 d = true := by rw [← dye_rng]; exact decide_eq_true (bI_d1 _ c1)
    obtain ⟨d, hd, rfl⟩ := dye_nI hd0
    refine g_iload_n dX9_account_9 (by rfl) ?_
    refine g_tableOut (tgt := 108) dX9_account_10 hout (by decide) ?_
    refine g_iconst (v := (-1)) dX9_account_108 (by decide) ?_
    refine g_iret dX9_account_109 rfl (Nat.le_refl _) (Nat.le_refl _) ?_
    refine Ex.i ?_ rfl
    unfold Q_account
    rw [hk, Bool.and_false]
    rfl
  · skip
    have hd0 : rngB 0 3 d = false := by rw [← dye_rng]; exact decide_eq_false (bI_d0 _ c1)
    refine g_iconst (v := (-1)) dX9_account_7 (by decide) ?_
    refine g_iret dX9_account_8 rfl (Nat.le_refl _) (Nat.le_refl _) ?_
    refine Ex.i ?_ rfl
    unfold Q_account
    rw [hd0]
    rfl

theorem ct_X9_account (X : Cx) {h : Hp} {A B m : Nat → Nat} {C : Nat → Nat → Nat} {r : Nat → Int32} {n tn : Nat} {rows : Nat → Nat → Int32} {tg : Nat → Int32} {d k : Int32} (hO : Ok r) (hY : SysAt X h A B m C r n rows tn tg) : Ct X mX9_account 2 0 0 [.ref (m 0), .int d, .int k] h (Ex (.int (Q_account r d k)) h) := by
  cases hw : rngB 0 5 k with
  | false => exact ct_account_o X hO hY hw
  | true =>
    obtain ⟨j, hj, rfl⟩ := rng_j (n := 5) hw (by decide) (by omega)
    rcases (show j = 0 ∨ j = 1 ∨ j = 2 ∨ j = 3 ∨ j = 4 ∨ j = 5 by omega) with rfl | rfl | rfl | rfl | rfl | rfl
    · exact ct_account_0 X hO hY
    · exact ct_account_1 X hO hY
    · exact ct_account_2 X hO hY
    · exact ct_account_3 X hO hY
    · exact ct_account_4 X hO hY
    · exact ct_account_5 X hO hY

def Q_count (r : Nat → Int32) (n tn : Nat) (k : Int32) : Int32 := cond (rngB 20 26 k) (r (cl (k - 20))) (cond (rngB 0 11 k) (match cl k with
  | 0 => r 7
  | 1 => r 8
  | 7 => r 9
  | 8 => nI (unsN r)
  | 9 => r 10
  | 10 => nI n
  | 11 => nI tn
  | w => nI (cntN (fun l => cntW w (ltx r l)) (cl (r 8)))) (-1))
theorem set_s {j : Nat} (h : j < 7) : nI (20 + j) - 20 = nI j := by
  rcases (show j = 0 ∨ j = 1 ∨ j = 2 ∨ j = 3 ∨ j = 4 ∨ j = 5 ∨ j = 6 by omega) with rfl | rfl | rfl | rfl | rfl | rfl | rfl <;> decide
theorem set_l {j : Nat} (h : j < 7) : ¬ nI (20 + j) < 20 := by
  rcases (show j = 0 ∨ j = 1 ∨ j = 2 ∨ j = 3 ∨ j = 4 ∨ j = 5 ∨ j = 6 by omega) with rfl | rfl | rfl | rfl | rfl | rfl | rfl <;> decide
theorem set_e {j : Nat} (h : j < 7) : ¬ bI (decide (0 ≤ nI j ∧ nI j < 7)) = 0 := by
  rcases (show j = 0 ∨ j = 1 ∨ j = 2 ∨ j = 3 ∨ j = 4 ∨ j = 5 ∨ j = 6 by omega) with rfl | rfl | rfl | rfl | rfl | rfl | rfl <;> decide
theorem set_r {j : Nat} (h : j < 7) : rngB 20 26 (nI (20 + j)) = true := by
  rcases (show j = 0 ∨ j = 1 ∨ j = 2 ∨ j = 3 ∨ j = 4 ∨ j = 5 ∨ j = 6 by omega) with rfl | rfl | rfl | rfl | rfl | rfl | rfl <;> decide
theorem set_j {k : Int32} (h : rngB 20 26 k = true) : ∃ j, j < 7 ∧ k = nI (20 + j) := by
  have z := rng_b h
  have e3 : (20 : Int32).toInt = 20 := by decide
  have e4 : (26 : Int32).toInt = 26 := by decide
  rw [e3, e4] at z
  obtain ⟨j, hj, rfl⟩ := i_sm (x := k) (n := 27) (by omega) (by omega) (by omega)
  have e5 := nI_toInt (n := j) (by omega)
  rw [e5] at z
  exact ⟨j - 20, by omega, by rw [show 20 + (j - 20) = j by omega]⟩
theorem set_o {k : Int32} (h : rngB 20 26 k = false) (h2 : ¬ k < 20) : bI (decide (0 ≤ k - 20 ∧ k - 20 < 7)) = 0 := by
  have z := rng_o h
  have e3 : (20 : Int32).toInt = 20 := by decide
  have e4 : (26 : Int32).toInt = 26 := by decide
  have e7 : (7 : Int32).toInt = 7 := by decide
  rw [e3, e4] at z
  have h3 : 20 ≤ k.toInt := by
    have y := i_nlt h2
    rw [i_le, e3] at y
    exact y
  have hb := Int32.toInt_lt k
  have es : (k - 20).toInt = k.toInt - 20 := by
    rw [Int32.toInt_sub, e3]
    exact Int.bmod_eq_of_le (by omega) (by omega)
  rw [decide_eq_false (fun q => by
    have q2 := q.2
    rw [i_lt, es, e7] at q2
    omega)]
  rfl

set_option maxHeartbeats 4000000 in
set_option maxRecDepth 100000 in
theorem ct_count_s (X : Cx) {h : Hp} {A B m : Nat → Nat} {C : Nat → Nat → Nat} {r : Nat → Int32} {n tn : Nat} {rows : Nat → Nat → Int32} {tg : Nat → Int32} {j : Nat}  (hO : Ok r) (hY : SysAt X h A B m C r n rows tn tg) (hj : j < 7) : Ct X mX9_count 3 0 0 [.ref (m 0), .int (nI (20 + j))] h (Ex (.int (Q_count r n tn (nI (20 + j)))) h) := by
  obtain ⟨y0, hA, -, y1, y2, -, yT, -⟩ := id hY
  have hO0 := hO
  obtain ⟨nv, nl, no, hnv, hnl, hno, e7, e8, e9, hset, hvok, hvz, hlok, hlz, hok, hoz, hw⟩ := hO0
  have hA0 := hA
  obtain ⟨a0, a1, a2, a3, a4, a5, a6, av, al, ao⟩ := hA0
  unfold hobC at a0
  rw [e7, e8, e9] at a0
  have a60 := a6.1
  obtain ⟨t0, t1⟩ := id yT
  obtain ⟨-, -, -, -, -, -, -, -, -, -, -, -, yst⟩ := id hY
  refine Ct.ofG vX9_count.1.2.2.1 (Nat.le_of_ble_eq_true rfl) ?_
  show G X RX9 cX9_count 2 (some .int) "count" (Rm 3 0 0) (Fm X (Ex (.int (Q_count r n tn (nI (20 + j)))) h) 0 0) 0 0 0 [(0, .ref (m 0)), (1, .int (nI (20 + j)))] [] h
  refine g_iload_n dX9_count_0 (by rfl) ?_
  refine g_bipush (v := 20) dX9_count_1 (by decide) ?_
  refine g_icmp_lt (tgt := 31) dX9_count_3 (by decide) (fun c1 => absurd c1 (set_l hj)) (fun c1 => ?_)
  refine g_iload_n dX9_count_6 (by rfl) ?_
  refine g_bipush (v := 20) dX9_count_7 (by decide) ?_
  refine g_isub dX9_count_9 ?_
  rw [set_s hj]
  refine g_cT1x dX9_count_10 lX9_255 vX6_exists (ct_X6_exists X yst) ⟨Nat.le_of_ble_eq_true rfl, Nat.le_of_ble_eq_true rfl⟩ (Nat.le_of_ble_eq_true rfl) ⟨Nat.le_of_ble_eq_true rfl, Nat.le_of_ble_eq_true rfl⟩ ?_
  refine g_if_eq (tgt := 31) dX9_count_13 (by decide) (fun c2 => absurd c2 (set_e hj)) (fun c2 => ?_)
  refine g_aload_n dX9_count_16 (by rfl) (by first | exact isRf_r | exact isRf_n | exact isRf_o | assumption) ?_
  refine g_getf dX9_count_17 fX9_10 (by first | assumption | (repeat' (first | assumption | exact hu_same | exact Ne.symm (by assumption) | apply hu_n1))) (by rfl) ?_
  refine g_getf dX9_count_20 fX9_84 (by first | assumption | (repeat' (first | assumption | exact hu_same | exact Ne.symm (by assumption) | apply hu_n1))) (by rfl) ?_
  refine g_iload_n dX9_count_23 (by rfl) ?_
  refine g_bipush (v := 20) dX9_count_24 (by decide) ?_
  refine g_isub dX9_count_26 ?_
  rw [set_s hj]
  refine g_cV1x dX9_count_27 lX9_210 vX6_valueOf (ct_X6_valueOf X hj a6) (by first | assumption | (repeat' (first | assumption | exact hu_same | exact Ne.symm (by assumption) | apply hu_n1))) rfl ⟨Nat.le_of_ble_eq_true rfl, Nat.le_of_ble_eq_true rfl⟩ (Nat.le_of_ble_eq_true rfl) ⟨Nat.le_of_ble_eq_true rfl, Nat.le_of_ble_eq_true rfl⟩ ?_
  refine g_iret dX9_count_30 rfl (Nat.le_refl _) (Nat.le_refl _) ?_
  refine Ex.i ?_ rfl
  unfold Q_count
  rw [set_r hj, set_s hj, cl_nI (by omega)]
  rfl

set_option maxHeartbeats 4000000 in
set_option maxRecDepth 100000 in
theorem ct_count_0 (X : Cx) {h : Hp} {A B m : Nat → Nat} {C : Nat → Nat → Nat} {r : Nat → Int32} {n tn : Nat} {rows : Nat → Nat → Int32} {tg : Nat → Int32}  (hO : Ok r) (hY : SysAt X h A B m C r n rows tn tg) : Ct X mX9_count 3 0 0 [.ref (m 0), .int (nI 0)] h (Ex (.int (Q_count r n tn (nI 0))) h) := by
  obtain ⟨y0, hA, -, y1, y2, -, yT, -⟩ := id hY
  have hO0 := hO
  obtain ⟨nv, nl, no, hnv, hnl, hno, e7, e8, e9, hset, hvok, hvz, hlok, hlz, hok, hoz, hw⟩ := hO0
  have hA0 := hA
  obtain ⟨a0, a1, a2, a3, a4, a5, a6, av, al, ao⟩ := hA0
  unfold hobC at a0
  rw [e7, e8, e9] at a0
  have a60 := a6.1
  obtain ⟨t0, t1⟩ := id yT
  obtain ⟨-, -, -, -, -, -, -, -, -, -, -, -, yst⟩ := id hY
  refine Ct.ofG vX9_count.1.2.2.1 (Nat.le_of_ble_eq_true rfl) ?_
  show G X RX9 cX9_count 2 (some .int) "count" (Rm 3 0 0) (Fm X (Ex (.int (Q_count r n tn (nI 0))) h) 0 0) 0 0 0 [(0, .ref (m 0)), (1, .int (nI 0))] [] h
  refine g_iload_n dX9_count_0 (by rfl) ?_
  refine g_bipush (v := 20) dX9_count_1 (by decide) ?_
  refine g_icmp_lt (tgt := 31) dX9_count_3 (by decide) (fun c1 => ?_) (fun c1 => absurd (by decide) c1)
  refine g_iload_n dX9_count_31 (by rfl) ?_
  refine g_tableIn (tgt := 96) (off := 64) dX9_count_32 (by decide) (by decide) (by decide) (by decide) ?_
  refine g_aload_n dX9_count_96 (by rfl) (by first | exact isRf_r | exact isRf_n | exact isRf_o | assumption) ?_
  refine g_getf dX9_count_97 fX9_10 (by first | assumption | (repeat' (first | assumption | exact hu_same | exact Ne.symm (by assumption) | apply hu_n1))) (by rfl) ?_
  refine g_getf dX9_count_100 fX9_96 (by first | assumption | (repeat' (first | assumption | exact hu_same | exact Ne.symm (by assumption) | apply hu_n1))) (by rfl) ?_
  refine g_iret dX9_count_103 rfl (Nat.le_refl _) (Nat.le_refl _) ?_
  refine Ex.i ?_ rfl
  unfold Q_count unsN
  rw [e7, e8, e9, cl_nI (j := nl) (by omega), cl_nI (j := no) (by omega), show cl (nI 0) = 0 from cl_nI (by omega), show rngB 20 26 (nI 0) = false by decide, show rngB 0 11 (nI 0) = true by decide]
  rfl

set_option maxHeartbeats 4000000 in
set_option maxRecDepth 100000 in
theorem ct_count_1 (X : Cx) {h : Hp} {A B m : Nat → Nat} {C : Nat → Nat → Nat} {r : Nat → Int32} {n tn : Nat} {rows : Nat → Nat → Int32} {tg : Nat → Int32}  (hO : Ok r) (hY : SysAt X h A B m C r n rows tn tg) : Ct X mX9_count 3 0 0 [.ref (m 0), .int (nI 1)] h (Ex (.int (Q_count r n tn (nI 1))) h) := by
  obtain ⟨y0, hA, -, y1, y2, -, yT, -⟩ := id hY
  have hO0 := hO
  obtain ⟨nv, nl, no, hnv, hnl, hno, e7, e8, e9, hset, hvok, hvz, hlok, hlz, hok, hoz, hw⟩ := hO0
  have hA0 := hA
  obtain ⟨a0, a1, a2, a3, a4, a5, a6, av, al, ao⟩ := hA0
  unfold hobC at a0
  rw [e7, e8, e9] at a0
  have a60 := a6.1
  obtain ⟨t0, t1⟩ := id yT
  obtain ⟨-, -, -, -, -, -, -, -, -, -, -, -, yst⟩ := id hY
  refine Ct.ofG vX9_count.1.2.2.1 (Nat.le_of_ble_eq_true rfl) ?_
  show G X RX9 cX9_count 2 (some .int) "count" (Rm 3 0 0) (Fm X (Ex (.int (Q_count r n tn (nI 1))) h) 0 0) 0 0 0 [(0, .ref (m 0)), (1, .int (nI 1))] [] h
  refine g_iload_n dX9_count_0 (by rfl) ?_
  refine g_bipush (v := 20) dX9_count_1 (by decide) ?_
  refine g_icmp_lt (tgt := 31) dX9_count_3 (by decide) (fun c1 => ?_) (fun c1 => absurd (by decide) c1)
  refine g_iload_n dX9_count_31 (by rfl) ?_
  refine g_tableIn (tgt := 104) (off := 72) dX9_count_32 (by decide) (by decide) (by decide) (by decide) ?_
  refine g_aload_n dX9_count_104 (by rfl) (by first | exact isRf_r | exact isRf_n | exact isRf_o | assumption) ?_
  refine g_getf dX9_count_105 fX9_10 (by first | assumption | (repeat' (first | assumption | exact hu_same | exact Ne.symm (by assumption) | apply hu_n1))) (by rfl) ?_
  refine g_getf dX9_count_108 fX9_179 (by first | assumption | (repeat' (first | assumption | exact hu_same | exact Ne.symm (by assumption) | apply hu_n1))) (by rfl) ?_
  refine g_iret dX9_count_111 rfl (Nat.le_refl _) (Nat.le_refl _) ?_
  refine Ex.i ?_ rfl
  unfold Q_count unsN
  rw [e7, e8, e9, cl_nI (j := nl) (by omega), cl_nI (j := no) (by omega), show cl (nI 1) = 1 from cl_nI (by omega), show rngB 20 26 (nI 1) = false by decide, show rngB 0 11 (nI 1) = true by decide]
  rfl

set_option maxHeartbeats 4000000 in
set_option maxRecDepth 100000 in
theorem ct_count_2 (X : Cx) {h : Hp} {A B m : Nat → Nat} {C : Nat → Nat → Nat} {r : Nat → Int32} {n tn : Nat} {rows : Nat → Nat → Int32} {tg : Nat → Int32}  (hO : Ok r) (hY : SysAt X h A B m C r n rows tn tg) : Ct X mX9_count 3 0 0 [.ref (m 0), .int (nI 2)] h (Ex (.int (Q_count r n tn (nI 2))) h) := by
  obtain ⟨y0, hA, -, y1, y2, -, yT, -⟩ := id hY
  have hO0 := hO
  obtain ⟨nv, nl, no, hnv, hnl, hno, e7, e8, e9, hset, hvok, hvz, hlok, hlz, hok, hoz, hw⟩ := hO0
  have hA0 := hA
  obtain ⟨a0, a1, a2, a3, a4, a5, a6, av, al, ao⟩ := hA0
  unfold hobC at a0
  rw [e7, e8, e9] at a0
  have a60 := a6.1
  obtain ⟨t0, t1⟩ := id yT
  obtain ⟨-, -, -, -, -, -, -, -, -, -, -, -, yst⟩ := id hY
  refine Ct.ofG vX9_count.1.2.2.1 (Nat.le_of_ble_eq_true rfl) ?_
  show G X RX9 cX9_count 2 (some .int) "count" (Rm 3 0 0) (Fm X (Ex (.int (Q_count r n tn (nI 2))) h) 0 0) 0 0 0 [(0, .ref (m 0)), (1, .int (nI 2))] [] h
  refine g_iload_n dX9_count_0 (by rfl) ?_
  refine g_bipush (v := 20) dX9_count_1 (by decide) ?_
  refine g_icmp_lt (tgt := 31) dX9_count_3 (by decide) (fun c1 => ?_) (fun c1 => absurd (by decide) c1)
  refine g_iload_n dX9_count_31 (by rfl) ?_
  refine g_tableIn (tgt := 112) (off := 80) dX9_count_32 (by decide) (by decide) (by decide) (by decide) ?_
  refine g_aload_n dX9_count_112 (by rfl) (by first | exact isRf_r | exact isRf_n | exact isRf_o | assumption) ?_
  refine g_getf dX9_count_113 fX9_10 (by first | assumption | (repeat' (first | assumption | exact hu_same | exact Ne.symm (by assumption) | apply hu_n1))) (by rfl) ?_
  refine g_iload_n dX9_count_116 (by rfl) ?_
  refine g_cV1x dX9_count_117 lX9_258 vX1_lotsCounted (ct_X1_lotsCounted X (by omega) hnl e8 hlok hA) (by first | assumption | (repeat' (first | assumption | exact hu_same | exact Ne.symm (by assumption) | apply hu_n1))) rfl ⟨Nat.le_of_ble_eq_true rfl, Nat.le_of_ble_eq_true rfl⟩ (Nat.le_of_ble_eq_true rfl) ⟨Nat.le_of_ble_eq_true rfl, Nat.le_of_ble_eq_true rfl⟩ ?_
  refine g_iret dX9_count_120 rfl (Nat.le_refl _) (Nat.le_refl _) ?_
  refine Ex.i ?_ rfl
  unfold Q_count unsN
  rw [e7, e8, e9, cl_nI (j := nl) (by omega), cl_nI (j := no) (by omega), show cl (nI 2) = 2 from cl_nI (by omega), show rngB 20 26 (nI 2) = false by decide, show rngB 0 11 (nI 2) = true by decide]
  rfl

set_option maxHeartbeats 4000000 in
set_option maxRecDepth 100000 in
theorem ct_count_3 (X : Cx) {h : Hp} {A B m : Nat → Nat} {C : Nat → Nat → Nat} {r : Nat → Int32} {n tn : Nat} {rows : Nat → Nat → Int32} {tg : Nat → Int32}  (hO : Ok r) (hY : SysAt X h A B m C r n rows tn tg) : Ct X mX9_count 3 0 0 [.ref (m 0), .int (nI 3)] h (Ex (.int (Q_count r n tn (nI 3))) h) := by
  obtain ⟨y0, hA, -, y1, y2, -, yT, -⟩ := id hY
  have hO0 := hO
  obtain ⟨nv, nl, no, hnv, hnl, hno, e7, e8, e9, hset, hvok, hvz, hlok, hlz, hok, hoz, hw⟩ := hO0
  have hA0 := hA
  obtain ⟨a0, a1, a2, a3, a4, a5, a6, av, al, ao⟩ := hA0
  unfold hobC at a0
  rw [e7, e8, e9] at a0
  have a60 := a6.1
  obtain ⟨t0, t1⟩ := id yT
  obtain ⟨-, -, -, -, -, -, -, -, -, -, -, -, yst⟩ := id hY
  refine Ct.ofG vX9_count.1.2.2.1 (Nat.le_of_ble_eq_true rfl) ?_
  show G X RX9 cX9_count 2 (some .int) "count" (Rm 3 0 0) (Fm X (Ex (.int (Q_count r n tn (nI 3))) h) 0 0) 0 0 0 [(0, .ref (m 0)), (1, .int (nI 3))] [] h
  refine g_iload_n dX9_count_0 (by rfl) ?_
  refine g_bipush (v := 20) dX9_count_1 (by decide) ?_
  refine g_icmp_lt (tgt := 31) dX9_count_3 (by decide) (fun c1 => ?_) (fun c1 => absurd (by decide) c1)
  refine g_iload_n dX9_count_31 (by rfl) ?_
  refine g_tableIn (tgt := 112) (off := 80) dX9_count_32 (by decide) (by decide) (by decide) (by decide) ?_
  refine g_aload_n dX9_count_112 (by rfl) (by first | exact isRf_r | exact isRf_n | exact isRf_o | assumption) ?_
  refine g_getf dX9_count_113 fX9_10 (by first | assumption | (repeat' (first | assumption | exact hu_same | exact Ne.symm (by assumption) | apply hu_n1))) (by rfl) ?_
  refine g_iload_n dX9_count_116 (by rfl) ?_
  refine g_cV1x dX9_count_117 lX9_258 vX1_lotsCounted (ct_X1_lotsCounted X (by omega) hnl e8 hlok hA) (by first | assumption | (repeat' (first | assumption | exact hu_same | exact Ne.symm (by assumption) | apply hu_n1))) rfl ⟨Nat.le_of_ble_eq_true rfl, Nat.le_of_ble_eq_true rfl⟩ (Nat.le_of_ble_eq_true rfl) ⟨Nat.le_of_ble_eq_true rfl, Nat.le_of_ble_eq_true rfl⟩ ?_
  refine g_iret dX9_count_120 rfl (Nat.le_refl _) (Nat.le_refl _) ?_
  refine Ex.i ?_ rfl
  unfold Q_count unsN
  rw [e7, e8, e9, cl_nI (j := nl) (by omega), cl_nI (j := no) (by omega), show cl (nI 3) = 3 from cl_nI (by omega), show rngB 20 26 (nI 3) = false by decide, show rngB 0 11 (nI 3) = true by decide]
  rfl

set_option maxHeartbeats 4000000 in
set_option maxRecDepth 100000 in
theorem ct_count_4 (X : Cx) {h : Hp} {A B m : Nat → Nat} {C : Nat → Nat → Nat} {r : Nat → Int32} {n tn : Nat} {rows : Nat → Nat → Int32} {tg : Nat → Int32}  (hO : Ok r) (hY : SysAt X h A B m C r n rows tn tg) : Ct X mX9_count 3 0 0 [.ref (m 0), .int (nI 4)] h (Ex (.int (Q_count r n tn (nI 4))) h) := by
  obtain ⟨y0, hA, -, y1, y2, -, yT, -⟩ := id hY
  have hO0 := hO
  obtain ⟨nv, nl, no, hnv, hnl, hno, e7, e8, e9, hset, hvok, hvz, hlok, hlz, hok, hoz, hw⟩ := hO0
  have hA0 := hA
  obtain ⟨a0, a1, a2, a3, a4, a5, a6, av, al, ao⟩ := hA0
  unfold hobC at a0
  rw [e7, e8, e9] at a0
  have a60 := a6.1
  obtain ⟨t0, t1⟩ := id yT
  obtain ⟨-, -, -, -, -, -, -, -, -, -, -, -, yst⟩ := id hY
  refine Ct.ofG vX9_count.1.2.2.1 (Nat.le_of_ble_eq_true rfl) ?_
  show G X RX9 cX9_count 2 (some .int) "count" (Rm 3 0 0) (Fm X (Ex (.int (Q_count r n tn (nI 4))) h) 0 0) 0 0 0 [(0, .ref (m 0)), (1, .int (nI 4))] [] h
  refine g_iload_n dX9_count_0 (by rfl) ?_
  refine g_bipush (v := 20) dX9_count_1 (by decide) ?_
  refine g_icmp_lt (tgt := 31) dX9_count_3 (by decide) (fun c1 => ?_) (fun c1 => absurd (by decide) c1)
  refine g_iload_n dX9_count_31 (by rfl) ?_
  refine g_tableIn (tgt := 112) (off := 80) dX9_count_32 (by decide) (by decide) (by decide) (by decide) ?_
  refine g_aload_n dX9_count_112 (by rfl) (by first | exact isRf_r | exact isRf_n | exact isRf_o | assumption) ?_
  refine g_getf dX9_count_113 fX9_10 (by first | assumption | (repeat' (first | assumption | exact hu_same | exact Ne.symm (by assumption) | apply hu_n1))) (by rfl) ?_
  refine g_iload_n dX9_count_116 (by rfl) ?_
  refine g_cV1x dX9_count_117 lX9_258 vX1_lotsCounted (ct_X1_lotsCounted X (by omega) hnl e8 hlok hA) (by first | assumption | (repeat' (first | assumption | exact hu_same | exact Ne.symm (by assumption) | apply hu_n1))) rfl ⟨Nat.le_of_ble_eq_true rfl, Nat.le_of_ble_eq_true rfl⟩ (Nat.le_of_ble_eq_true rfl) ⟨Nat.le_of_ble_eq_true rfl, Nat.le_of_ble_eq_true rfl⟩ ?_
  refine g_iret dX9_count_120 rfl (Nat.le_refl _) (Nat.le_refl _) ?_
  refine Ex.i ?_ rfl
  unfold Q_count unsN
  rw [e7, e8, e9, cl_nI (j := nl) (by omega), cl_nI (j := no) (by omega), show cl (nI 4) = 4 from cl_nI (by omega), show rngB 20 26 (nI 4) = false by decide, show rngB 0 11 (nI 4) = true by decide]
  rfl

set_option maxHeartbeats 4000000 in
set_option maxRecDepth 100000 in
theorem ct_count_5 (X : Cx) {h : Hp} {A B m : Nat → Nat} {C : Nat → Nat → Nat} {r : Nat → Int32} {n tn : Nat} {rows : Nat → Nat → Int32} {tg : Nat → Int32}  (hO : Ok r) (hY : SysAt X h A B m C r n rows tn tg) : Ct X mX9_count 3 0 0 [.ref (m 0), .int (nI 5)] h (Ex (.int (Q_count r n tn (nI 5))) h) := by
  obtain ⟨y0, hA, -, y1, y2, -, yT, -⟩ := id hY
  have hO0 := hO
  obtain ⟨nv, nl, no, hnv, hnl, hno, e7, e8, e9, hset, hvok, hvz, hlok, hlz, hok, hoz, hw⟩ := hO0
  have hA0 := hA
  obtain ⟨a0, a1, a2, a3, a4, a5, a6, av, al, ao⟩ := hA0
  unfold hobC at a0
  rw [e7, e8, e9] at a0
  have a60 := a6.1
  obtain ⟨t0, t1⟩ := id yT
  obtain ⟨-, -, -, -, -, -, -, -, -, -, -, -, yst⟩ := id hY
  refine Ct.ofG vX9_count.1.2.2.1 (Nat.le_of_ble_eq_true rfl) ?_
  show G X RX9 cX9_count 2 (some .int) "count" (Rm 3 0 0) (Fm X (Ex (.int (Q_count r n tn (nI 5))) h) 0 0) 0 0 0 [(0, .ref (m 0)), (1, .int (nI 5))] [] h
  refine g_iload_n dX9_count_0 (by rfl) ?_
  refine g_bipush (v := 20) dX9_count_1 (by decide) ?_
  refine g_icmp_lt (tgt := 31) dX9_count_3 (by decide) (fun c1 => ?_) (fun c1 => absurd (by decide) c1)
  refine g_iload_n dX9_count_31 (by rfl) ?_
  refine g_tableIn (tgt := 112) (off := 80) dX9_count_32 (by decide) (by decide) (by decide) (by decide) ?_
  refine g_aload_n dX9_count_112 (by rfl) (by first | exact isRf_r | exact isRf_n | exact isRf_o | assumption) ?_
  refine g_getf dX9_count_113 fX9_10 (by first | assumption | (repeat' (first | assumption | exact hu_same | exact Ne.symm (by assumption) | apply hu_n1))) (by rfl) ?_
  refine g_iload_n dX9_count_116 (by rfl) ?_
  refine g_cV1x dX9_count_117 lX9_258 vX1_lotsCounted (ct_X1_lotsCounted X (by omega) hnl e8 hlok hA) (by first | assumption | (repeat' (first | assumption | exact hu_same | exact Ne.symm (by assumption) | apply hu_n1))) rfl ⟨Nat.le_of_ble_eq_true rfl, Nat.le_of_ble_eq_true rfl⟩ (Nat.le_of_ble_eq_true rfl) ⟨Nat.le_of_ble_eq_true rfl, Nat.le_of_ble_eq_true rfl⟩ ?_
  refine g_iret dX9_count_120 rfl (Nat.le_refl _) (Nat.le_refl _) ?_
  refine Ex.i ?_ rfl
  unfold Q_count unsN
  rw [e7, e8, e9, cl_nI (j := nl) (by omega), cl_nI (j := no) (by omega), show cl (nI 5) = 5 from cl_nI (by omega), show rngB 20 26 (nI 5) = false by decide, show rngB 0 11 (nI 5) = true by decide]
  rfl

set_option maxHeartbeats 4000000 in
set_option maxRecDepth 100000 in
theorem ct_count_6 (X : Cx) {h : Hp} {A B m : Nat → Nat} {C : Nat → Nat → Nat} {r : Nat → Int32} {n tn : Nat} {rows : Nat → Nat → Int32} {tg : Nat → Int32}  (hO : Ok r) (hY : SysAt X h A B m C r n rows tn tg) : Ct X mX9_count 3 0 0 [.ref (m 0), .int (nI 6)] h (Ex (.int (Q_count r n tn (nI 6))) h) := by
  obtain ⟨y0, hA, -, y1, y2, -, yT, -⟩ := id hY
  have hO0 := hO
  obtain ⟨nv, nl, no, hnv, hnl, hno, e7, e8, e9, hset, hvok, hvz, hlok, hlz, hok, hoz, hw⟩ := hO0
  have hA0 := hA
  obtain ⟨a0, a1, a2, a3, a4, a5, a6, av, al, ao⟩ := hA0
  unfold hobC at a0
  rw [e7, e8, e9] at a0
  have a60 := a6.1
  obtain ⟨t0, t1⟩ := id yT
  obtain ⟨-, -, -, -, -, -, -, -, -, -, -, -, yst⟩ := id hY
  refine Ct.ofG vX9_count.1.2.2.1 (Nat.le_of_ble_eq_true rfl) ?_
  show G X RX9 cX9_count 2 (some .int) "count" (Rm 3 0 0) (Fm X (Ex (.int (Q_count r n tn (nI 6))) h) 0 0) 0 0 0 [(0, .ref (m 0)), (1, .int (nI 6))] [] h
  refine g_iload_n dX9_count_0 (by rfl) ?_
  refine g_bipush (v := 20) dX9_count_1 (by decide) ?_
  refine g_icmp_lt (tgt := 31) dX9_count_3 (by decide) (fun c1 => ?_) (fun c1 => absurd (by decide) c1)
  refine g_iload_n dX9_count_31 (by rfl) ?_
  refine g_tableIn (tgt := 112) (off := 80) dX9_count_32 (by decide) (by decide) (by decide) (by decide) ?_
  refine g_aload_n dX9_count_112 (by rfl) (by first | exact isRf_r | exact isRf_n | exact isRf_o | assumption) ?_
  refine g_getf dX9_count_113 fX9_10 (by first | assumption | (repeat' (first | assumption | exact hu_same | exact Ne.symm (by assumption) | apply hu_n1))) (by rfl) ?_
  refine g_iload_n dX9_count_116 (by rfl) ?_
  refine g_cV1x dX9_count_117 lX9_258 vX1_lotsCounted (ct_X1_lotsCounted X (by omega) hnl e8 hlok hA) (by first | assumption | (repeat' (first | assumption | exact hu_same | exact Ne.symm (by assumption) | apply hu_n1))) rfl ⟨Nat.le_of_ble_eq_true rfl, Nat.le_of_ble_eq_true rfl⟩ (Nat.le_of_ble_eq_true rfl) ⟨Nat.le_of_ble_eq_true rfl, Nat.le_of_ble_eq_true rfl⟩ ?_
  refine g_iret dX9_count_120 rfl (Nat.le_refl _) (Nat.le_refl _) ?_
  refine Ex.i ?_ rfl
  unfold Q_count unsN
  rw [e7, e8, e9, cl_nI (j := nl) (by omega), cl_nI (j := no) (by omega), show cl (nI 6) = 6 from cl_nI (by omega), show rngB 20 26 (nI 6) = false by decide, show rngB 0 11 (nI 6) = true by decide]
  rfl

set_option maxHeartbeats 4000000 in
set_option maxRecDepth 100000 in
theorem ct_count_7 (X : Cx) {h : Hp} {A B m : Nat → Nat} {C : Nat → Nat → Nat} {r : Nat → Int32} {n tn : Nat} {rows : Nat → Nat → Int32} {tg : Nat → Int32}  (hO : Ok r) (hY : SysAt X h A B m C r n rows tn tg) : Ct X mX9_count 3 0 0 [.ref (m 0), .int (nI 7)] h (Ex (.int (Q_count r n tn (nI 7))) h) := by
  obtain ⟨y0, hA, -, y1, y2, -, yT, -⟩ := id hY
  have hO0 := hO
  obtain ⟨nv, nl, no, hnv, hnl, hno, e7, e8, e9, hset, hvok, hvz, hlok, hlz, hok, hoz, hw⟩ := hO0
  have hA0 := hA
  obtain ⟨a0, a1, a2, a3, a4, a5, a6, av, al, ao⟩ := hA0
  unfold hobC at a0
  rw [e7, e8, e9] at a0
  have a60 := a6.1
  obtain ⟨t0, t1⟩ := id yT
  obtain ⟨-, -, -, -, -, -, -, -, -, -, -, -, yst⟩ := id hY
  refine Ct.ofG vX9_count.1.2.2.1 (Nat.le_of_ble_eq_true rfl) ?_
  show G X RX9 cX9_count 2 (some .int) "count" (Rm 3 0 0) (Fm X (Ex (.int (Q_count r n tn (nI 7))) h) 0 0) 0 0 0 [(0, .ref (m 0)), (1, .int (nI 7))] [] h
  refine g_iload_n dX9_count_0 (by rfl) ?_
  refine g_bipush (v := 20) dX9_count_1 (by decide) ?_
  refine g_icmp_lt (tgt := 31) dX9_count_3 (by decide) (fun c1 => ?_) (fun c1 => absurd (by decide) c1)
  refine g_iload_n dX9_count_31 (by rfl) ?_
  refine g_tableIn (tgt := 121) (off := 89) dX9_count_32 (by decide) (by decide) (by decide) (by decide) ?_
  refine g_aload_n dX9_count_121 (by rfl) (by first | exact isRf_r | exact isRf_n | exact isRf_o | assumption) ?_
  refine g_getf dX9_count_122 fX9_10 (by first | assumption | (repeat' (first | assumption | exact hu_same | exact Ne.symm (by assumption) | apply hu_n1))) (by rfl) ?_
  refine g_getf dX9_count_125 fX9_261 (by first | assumption | (repeat' (first | assumption | exact hu_same | exact Ne.symm (by assumption) | apply hu_n1))) (by rfl) ?_
  refine g_iret dX9_count_128 rfl (Nat.le_refl _) (Nat.le_refl _) ?_
  refine Ex.i ?_ rfl
  unfold Q_count unsN
  rw [e7, e8, e9, cl_nI (j := nl) (by omega), cl_nI (j := no) (by omega), show cl (nI 7) = 7 from cl_nI (by omega), show rngB 20 26 (nI 7) = false by decide, show rngB 0 11 (nI 7) = true by decide]
  rfl

set_option maxHeartbeats 4000000 in
set_option maxRecDepth 100000 in
theorem ct_count_8 (X : Cx) {h : Hp} {A B m : Nat → Nat} {C : Nat → Nat → Nat} {r : Nat → Int32} {n tn : Nat} {rows : Nat → Nat → Int32} {tg : Nat → Int32}  (hO : Ok r) (hY : SysAt X h A B m C r n rows tn tg) : Ct X mX9_count 3 0 0 [.ref (m 0), .int (nI 8)] h (Ex (.int (Q_count r n tn (nI 8))) h) := by
  obtain ⟨y0, hA, -, y1, y2, -, yT, -⟩ := id hY
  have hO0 := hO
  obtain ⟨nv, nl, no, hnv, hnl, hno, e7, e8, e9, hset, hvok, hvz, hlok, hlz, hok, hoz, hw⟩ := hO0
  have hA0 := hA
  obtain ⟨a0, a1, a2, a3, a4, a5, a6, av, al, ao⟩ := hA0
  unfold hobC at a0
  rw [e7, e8, e9] at a0
  have a60 := a6.1
  obtain ⟨t0, t1⟩ := id yT
  obtain ⟨-, -, -, -, -, -, -, -, -, -, -, -, yst⟩ := id hY
  refine Ct.ofG vX9_count.1.2.2.1 (Nat.le_of_ble_eq_true rfl) ?_
  show G X RX9 cX9_count 2 (some .int) "count" (Rm 3 0 0) (Fm X (Ex (.int (Q_count r n tn (nI 8))) h) 0 0) 0 0 0 [(0, .ref (m 0)), (1, .int (nI 8))] [] h
  refine g_iload_n dX9_count_0 (by rfl) ?_
  refine g_bipush (v := 20) dX9_count_1 (by decide) ?_
  refine g_icmp_lt (tgt := 31) dX9_count_3 (by decide) (fun c1 => ?_) (fun c1 => absurd (by decide) c1)
  refine g_iload_n dX9_count_31 (by rfl) ?_
  refine g_tableIn (tgt := 129) (off := 97) dX9_count_32 (by decide) (by decide) (by decide) (by decide) ?_
  refine g_aload_n dX9_count_129 (by rfl) (by first | exact isRf_r | exact isRf_n | exact isRf_o | assumption) ?_
  refine g_getf dX9_count_130 fX9_10 (by first | assumption | (repeat' (first | assumption | exact hu_same | exact Ne.symm (by assumption) | apply hu_n1))) (by rfl) ?_
  refine g_cV0x dX9_count_133 lX9_264 vX1_openOrders (ct_X1_openOrders X hno e9 hA) (by first | assumption | (repeat' (first | assumption | exact hu_same | exact Ne.symm (by assumption) | apply hu_n1))) rfl ⟨Nat.le_of_ble_eq_true rfl, Nat.le_of_ble_eq_true rfl⟩ (Nat.le_of_ble_eq_true rfl) ⟨Nat.le_of_ble_eq_true rfl, Nat.le_of_ble_eq_true rfl⟩ ?_
  refine g_iret dX9_count_136 rfl (Nat.le_refl _) (Nat.le_refl _) ?_
  refine Ex.i ?_ rfl
  unfold Q_count unsN
  rw [e7, e8, e9, cl_nI (j := nl) (by omega), cl_nI (j := no) (by omega), show cl (nI 8) = 8 from cl_nI (by omega), show rngB 20 26 (nI 8) = false by decide, show rngB 0 11 (nI 8) = true by decide]
  rfl

set_option maxHeartbeats 4000000 in
set_option maxRecDepth 100000 in
theorem ct_count_9 (X : Cx) {h : Hp} {A B m : Nat → Nat} {C : Nat → Nat → Nat} {r : Nat → Int32} {n tn : Nat} {rows : Nat → Nat → Int32} {tg : Nat → Int32}  (hO : Ok r) (hY : SysAt X h A B m C r n rows tn tg) : Ct X mX9_count 3 0 0 [.ref (m 0), .int (nI 9)] h (Ex (.int (Q_count r n tn (nI 9))) h) := by
  obtain ⟨y0, hA, -, y1, y2, -, yT, -⟩ := id hY
  have hO0 := hO
  obtain ⟨nv, nl, no, hnv, hnl, hno, e7, e8, e9, hset, hvok, hvz, hlok, hlz, hok, hoz, hw⟩ := hO0
  have hA0 := hA
  obtain ⟨a0, a1, a2, a3, a4, a5, a6, av, al, ao⟩ := hA0
  unfold hobC at a0
  rw [e7, e8, e9] at a0
  have a60 := a6.1
  obtain ⟨t0, t1⟩ := id yT
  obtain ⟨-, -, -, -, -, -, -, -, -, -, -, -, yst⟩ := id hY
  refine Ct.ofG vX9_count.1.2.2.1 (Nat.le_of_ble_eq_true rfl) ?_
  show G X RX9 cX9_count 2 (some .int) "count" (Rm 3 0 0) (Fm X (Ex (.int (Q_count r n tn (nI 9))) h) 0 0) 0 0 0 [(0, .ref (m 0)), (1, .int (nI 9))] [] h
  refine g_iload_n dX9_count_0 (by rfl) ?_
  refine g_bipush (v := 20) dX9_count_1 (by decide) ?_
  refine g_icmp_lt (tgt := 31) dX9_count_3 (by decide) (fun c1 => ?_) (fun c1 => absurd (by decide) c1)
  refine g_iload_n dX9_count_31 (by rfl) ?_
  refine g_tableIn (tgt := 137) (off := 105) dX9_count_32 (by decide) (by decide) (by decide) (by decide) ?_
  refine g_aload_n dX9_count_137 (by rfl) (by first | exact isRf_r | exact isRf_n | exact isRf_o | assumption) ?_
  refine g_getf dX9_count_138 fX9_10 (by first | assumption | (repeat' (first | assumption | exact hu_same | exact Ne.symm (by assumption) | apply hu_n1))) (by rfl) ?_
  refine g_getf dX9_count_141 fX9_267 (by first | assumption | (repeat' (first | assumption | exact hu_same | exact Ne.symm (by assumption) | apply hu_n1))) (by rfl) ?_
  refine g_iret dX9_count_144 rfl (Nat.le_refl _) (Nat.le_refl _) ?_
  refine Ex.i ?_ rfl
  unfold Q_count unsN
  rw [e7, e8, e9, cl_nI (j := nl) (by omega), cl_nI (j := no) (by omega), show cl (nI 9) = 9 from cl_nI (by omega), show rngB 20 26 (nI 9) = false by decide, show rngB 0 11 (nI 9) = true by decide]
  rfl

set_option maxHeartbeats 4000000 in
set_option maxRecDepth 100000 in
theorem ct_count_10 (X : Cx) {h : Hp} {A B m : Nat → Nat} {C : Nat → Nat → Nat} {r : Nat → Int32} {n tn : Nat} {rows : Nat → Nat → Int32} {tg : Nat → Int32}  (hO : Ok r) (hY : SysAt X h A B m C r n rows tn tg) : Ct X mX9_count 3 0 0 [.ref (m 0), .int (nI 10)] h (Ex (.int (Q_count r n tn (nI 10))) h) := by
  obtain ⟨y0, hA, -, y1, y2, -, yT, -⟩ := id hY
  have hO0 := hO
  obtain ⟨nv, nl, no, hnv, hnl, hno, e7, e8, e9, hset, hvok, hvz, hlok, hlz, hok, hoz, hw⟩ := hO0
  have hA0 := hA
  obtain ⟨a0, a1, a2, a3, a4, a5, a6, av, al, ao⟩ := hA0
  unfold hobC at a0
  rw [e7, e8, e9] at a0
  have a60 := a6.1
  obtain ⟨t0, t1⟩ := id yT
  obtain ⟨-, -, -, -, -, -, -, -, -, -, -, -, yst⟩ := id hY
  refine Ct.ofG vX9_count.1.2.2.1 (Nat.le_of_ble_eq_true rfl) ?_
  show G X RX9 cX9_count 2 (some .int) "count" (Rm 3 0 0) (Fm X (Ex (.int (Q_count r n tn (nI 10))) h) 0 0) 0 0 0 [(0, .ref (m 0)), (1, .int (nI 10))] [] h
  refine g_iload_n dX9_count_0 (by rfl) ?_
  refine g_bipush (v := 20) dX9_count_1 (by decide) ?_
  refine g_icmp_lt (tgt := 31) dX9_count_3 (by decide) (fun c1 => ?_) (fun c1 => absurd (by decide) c1)
  refine g_iload_n dX9_count_31 (by rfl) ?_
  refine g_tableIn (tgt := 145) (off := 113) dX9_count_32 (by decide) (by decide) (by decide) (by decide) ?_
  refine g_aload_n dX9_count_145 (by rfl) (by first | exact isRf_r | exact isRf_n | exact isRf_o | assumption) ?_
  refine g_getf dX9_count_146 fX9_22 (by first | assumption | (repeat' (first | assumption | exact hu_same | exact Ne.symm (by assumption) | apply hu_n1))) (by rfl) ?_
  refine g_getf dX9_count_149 fX9_268 (by first | assumption | (repeat' (first | assumption | exact hu_same | exact Ne.symm (by assumption) | apply hu_n1))) (by rfl) ?_
  refine g_iret dX9_count_152 rfl (Nat.le_refl _) (Nat.le_refl _) ?_
  refine Ex.i ?_ rfl
  unfold Q_count unsN
  rw [e7, e8, e9, cl_nI (j := nl) (by omega), cl_nI (j := no) (by omega), show cl (nI 10) = 10 from cl_nI (by omega), show rngB 20 26 (nI 10) = false by decide, show rngB 0 11 (nI 10) = true by decide]
  rfl

set_option maxHeartbeats 4000000 in
set_option maxRecDepth 100000 in
theorem ct_count_11 (X : Cx) {h : Hp} {A B m : Nat → Nat} {C : Nat → Nat → Nat} {r : Nat → Int32} {n tn : Nat} {rows : Nat → Nat → Int32} {tg : Nat → Int32}  (hO : Ok r) (hY : SysAt X h A B m C r n rows tn tg) : Ct X mX9_count 3 0 0 [.ref (m 0), .int (nI 11)] h (Ex (.int (Q_count r n tn (nI 11))) h) := by
  obtain ⟨y0, hA, -, y1, y2, -, yT, -⟩ := id hY
  have hO0 := hO
  obtain ⟨nv, nl, no, hnv, hnl, hno, e7, e8, e9, hset, hvok, hvz, hlok, hlz, hok, hoz, hw⟩ := hO0
  have hA0 := hA
  obtain ⟨a0, a1, a2, a3, a4, a5, a6, av, al, ao⟩ := hA0
  unfold hobC at a0
  rw [e7, e8, e9] at a0
  have a60 := a6.1
  obtain ⟨t0, t1⟩ := id yT
  obtain ⟨-, -, -, -, -, -, -, -, -, -, -, -, yst⟩ := id hY
  refine Ct.ofG vX9_count.1.2.2.1 (Nat.le_of_ble_eq_true rfl) ?_
  show G X RX9 cX9_count 2 (some .int) "count" (Rm 3 0 0) (Fm X (Ex (.int (Q_count r n tn (nI 11))) h) 0 0) 0 0 0 [(0, .ref (m 0)), (1, .int (nI 11))] [] h
  refine g_iload_n dX9_count_0 (by rfl) ?_
  refine g_bipush (v := 20) dX9_count_1 (by decide) ?_
  refine g_icmp_lt (tgt := 31) dX9_count_3 (by decide) (fun c1 => ?_) (fun c1 => absurd (by decide) c1)
  refine g_iload_n dX9_count_31 (by rfl) ?_
  refine g_tableIn (tgt := 153) (off := 121) dX9_count_32 (by decide) (by decide) (by decide) (by decide) ?_
  refine g_aload_n dX9_count_153 (by rfl) (by first | exact isRf_r | exact isRf_n | exact isRf_o | assumption) ?_
  refine g_getf dX9_count_154 fX9_29 (by first | assumption | (repeat' (first | assumption | exact hu_same | exact Ne.symm (by assumption) | apply hu_n1))) (by rfl) ?_
  refine g_getf dX9_count_157 fX9_271 (by first | assumption | (repeat' (first | assumption | exact hu_same | exact Ne.symm (by assumption) | apply hu_n1))) (by rfl) ?_
  refine g_iret dX9_count_160 rfl (Nat.le_refl _) (Nat.le_refl _) ?_
  refine Ex.i ?_ rfl
  unfold Q_count unsN
  rw [e7, e8, e9, cl_nI (j := nl) (by omega), cl_nI (j := no) (by omega), show cl (nI 11) = 11 from cl_nI (by omega), show rngB 20 26 (nI 11) = false by decide, show rngB 0 11 (nI 11) = true by decide]
  rfl

set_option maxHeartbeats 4000000 in
set_option maxRecDepth 100000 in
theorem ct_count_o (X : Cx) {h : Hp} {A B m : Nat → Nat} {C : Nat → Nat → Nat} {r : Nat → Int32} {n tn : Nat} {rows : Nat → Nat → Int32} {tg : Nat → Int32} {k : Int32}  (hO : Ok r) (hY : SysAt X h A B m C r n rows tn tg) (hk0 : rngB 20 26 k = false) (hk : rngB 0 11 k = false) : Ct X mX9_count 3 0 0 [.ref (m 0), .int k] h (Ex (.int (Q_count r n tn k)) h) := by
  obtain ⟨y0, hA, -, y1, y2, -, yT, -⟩ := id hY
  have hO0 := hO
  obtain ⟨nv, nl, no, hnv, hnl, hno, e7, e8, e9, hset, hvok, hvz, hlok, hlz, hok, hoz, hw⟩ := hO0
  have hA0 := hA
  obtain ⟨a0, a1, a2, a3, a4, a5, a6, av, al, ao⟩ := hA0
  unfold hobC at a0
  rw [e7, e8, e9] at a0
  have a60 := a6.1
  obtain ⟨t0, t1⟩ := id yT
  obtain ⟨-, -, -, -, -, -, -, -, -, -, -, -, yst⟩ := id hY
  have hout := rng_o hk
  have yh : (11 : Int32).toInt = 11 := by decide
  rw [z_toInt, yh] at hout
  refine Ct.ofG vX9_count.1.2.2.1 (Nat.le_of_ble_eq_true rfl) ?_
  show G X RX9 cX9_count 2 (some .int) "count" (Rm 3 0 0) (Fm X (Ex (.int (Q_count r n tn k)) h) 0 0) 0 0 0 [(0, .ref (m 0)), (1, .int k)] [] h
  refine g_iload_n dX9_count_0 (by rfl) ?_
  refine g_bipush (v := 20) dX9_count_1 (by decide) ?_
  refine g_icmp_lt (tgt := 31) dX9_count_3 (by decide) (fun c1 => ?_) (fun c1 => ?_)
  · skip
    refine g_iload_n dX9_count_31 (by rfl) ?_
    refine g_tableOut (tgt := 161) dX9_count_32 hout (by decide) ?_
    refine g_iconst (v := (-1)) dX9_count_161 (by decide) ?_
    refine g_iret dX9_count_162 rfl (Nat.le_refl _) (Nat.le_refl _) ?_
    refine Ex.i ?_ rfl
    unfold Q_count
    rw [hk, hk0]
    rfl
  · skip
    refine g_iload_n dX9_count_6 (by rfl) ?_
    refine g_bipush (v := 20) dX9_count_7 (by decide) ?_
    refine g_isub dX9_count_9 ?_
    refine g_cT1x dX9_count_10 lX9_255 vX6_exists (ct_X6_exists X yst) ⟨Nat.le_of_ble_eq_true rfl, Nat.le_of_ble_eq_true rfl⟩ (Nat.le_of_ble_eq_true rfl) ⟨Nat.le_of_ble_eq_true rfl, Nat.le_of_ble_eq_true rfl⟩ ?_
    refine g_if_eq (tgt := 31) dX9_count_13 (by decide) (fun c2 => ?_) (fun c2 => absurd (set_o hk0 (by assumption)) c2)
    refine g_iload_n dX9_count_31 (by rfl) ?_
    refine g_tableOut (tgt := 161) dX9_count_32 hout (by decide) ?_
    refine g_iconst (v := (-1)) dX9_count_161 (by decide) ?_
    refine g_iret dX9_count_162 rfl (Nat.le_refl _) (Nat.le_refl _) ?_
    refine Ex.i ?_ rfl
    unfold Q_count
    rw [hk, hk0]
    rfl

theorem ct_X9_count (X : Cx) {h : Hp} {A B m : Nat → Nat} {C : Nat → Nat → Nat} {r : Nat → Int32} {n tn : Nat} {rows : Nat → Nat → Int32} {tg : Nat → Int32} {k : Int32} (hO : Ok r) (hY : SysAt X h A B m C r n rows tn tg) : Ct X mX9_count 3 0 0 [.ref (m 0), .int k] h (Ex (.int (Q_count r n tn k)) h) := by
  cases h0 : rngB 20 26 k with
  | true =>
    obtain ⟨j, hj, rfl⟩ := set_j h0
    exact ct_count_s X hO hY hj
  | false =>
    cases hw : rngB 0 11 k with
    | false => exact ct_count_o X hO hY h0 hw
    | true =>
      obtain ⟨j, hj, rfl⟩ := rng_j (n := 11) hw (by decide) (by omega)
      rcases (show j = 0 ∨ j = 1 ∨ j = 2 ∨ j = 3 ∨ j = 4 ∨ j = 5 ∨ j = 6 ∨ j = 7 ∨ j = 8 ∨ j = 9 ∨ j = 10 ∨ j = 11 by omega) with rfl | rfl | rfl | rfl | rfl | rfl | rfl | rfl | rfl | rfl | rfl | rfl
      · exact ct_count_0 X hO hY
      · exact ct_count_1 X hO hY
      · exact ct_count_2 X hO hY
      · exact ct_count_3 X hO hY
      · exact ct_count_4 X hO hY
      · exact ct_count_5 X hO hY
      · exact ct_count_6 X hO hY
      · exact ct_count_7 X hO hY
      · exact ct_count_8 X hO hY
      · exact ct_count_9 X hO hY
      · exact ct_count_10 X hO hY
      · exact ct_count_11 X hO hY

theorem plnI_n {o : Option (Nat × List Nat)} (hb : ∀ d p, o = some (d, p) → d ≤ 4) (h : plnI o < 0) : o = none := by
  cases o with
  | none => rfl
  | some q =>
    exfalso
    obtain ⟨d, p⟩ := q
    have z := hb d p rfl
    exact absurd (show nI d < 0 from h) (fun y => by have e := nI_pos' (n := d) (by omega); simp only [i_lt, i_le] at *; omega)
theorem plnI_s {o : Option (Nat × List Nat)} (h : ¬ plnI o < 0) : ∃ d p, o = some (d, p) := by
  cases o with
  | none => exact absurd (show plnI none < 0 by decide) h
  | some q => exact ⟨q.1, q.2, rfl⟩
theorem fnd2 {w : Int32} {n : Nat} (hn : n < 2 ^ 31) (c1 : 0 ≤ w) (c2 : w < nI n) : ∃ j, j < n ∧ w = nI j := fnd hn (fun z => by simp only [i_lt, i_le] at *; omega) (fun z => by simp only [i_lt, i_le] at *; omega)
theorem ne_gs {h : Hp} {a b n : Nat} {e : va_E} {f : Nat → Int32} (h1 : h a = some (sI n f)) (h2 : h b = some e) (hs : ∀ n f, e ≠ sI n f) : a ≠ b := by
  intro z
  subst z
  rw [h1] at h2
  exact hs n f (Option.some.inj h2).symm
/-- the planner's own cells and the trial house changed -/
theorem SysAt.inP {X : Cx} {h h1 : Hp} {A B m : Nat → Nat} {C : Nat → Nat → Nat} {r r2 : Nat → Int32} {n tn : Nat} {rows : Nat → Nat → Int32} {tg : Nat → Int32} (hS : SepS A B m C) (k : SysAt X h A B m C r n rows tn tg) (hB : HouseAt X h1 B r2) (hp : ∃ path : Nat → Int32, h1 (m 8) = some (oI X 4 (nr 4 path))) (hL : ∃ xs : Nat → Nat → Int32, ∀ k, k < 5 → LotAt X h1 (DD m k 0) (DD m k 1) (DD m k 2) (xs k)) (f : ∀ q, outA B q → q ≠ m 8 → (∀ k i, k < 5 → i < 3 → q ≠ DD m k i) → h1 q = h q) : SysAt X h1 A B m C r n rows tn tg := by
  obtain ⟨s1, s2, s3, s4, s5, s6, s7, s8, s9⟩ := hS
  obtain ⟨k0, k1, ⟨t, k2⟩, k3, k4, k5, k6, ⟨wd, fp, fr, fc, pl, kd, fi, se, k7⟩, k8, k9, ⟨path, k10⟩, ⟨xs, k11⟩, k12⟩ := k
  have g : ∀ i, i < 8 → h1 (m i) = h (m i) := fun i hi => f _ (s8 i (by omega)).2.1 (fun e => absurd (s9 _ _ (by omega) (by omega) e) (by omega)) (fun k i2 hk hi2 e => absurd (s9 _ _ (by omega) (by omega) e) (by omega))
  have gA : ∀ i, i < 194 → h1 (A i) = h (A i) := fun i hi => f _ (fun j hj e => s4 i j hi hj e) (Ne.symm ((s8 8 (by omega)).1 i hi)) (fun k i2 hk hi2 => Ne.symm ((s8 _ (by omega)).1 i hi))
  have gC : ∀ j i, j < 5 → i < 194 → h1 (C j i) = h (C j i) := fun j i hj hi => f _ (fun j2 hj2 e => s6 j hj j2 i hj2 hi e.symm) (Ne.symm ((s8 8 (by omega)).2.2 j hj i hi)) (fun k i2 hk hi2 => Ne.symm ((s8 _ (by omega)).2.2 j hj i hi))
  have gs : ∀ q l (u : Nat → Int32), h q = some (sI l u) → h1 q = some (sI l u) := fun q l u e => (f q (k2.outs e) (ne_gs e k10 oI_s) (fun k i hk hi => by
    rcases (show i = 0 ∨ i = 1 ∨ i = 2 by omega) with rfl | rfl | rfl
    · exact ne_gs e (k11 k hk).1 ob_s
    · exact ne_gs e (k11 k hk).2.1 oI_s
    · exact ne_gs e (k11 k hk).2.2 oI_s)).trans e
  refine ⟨(g 0 (by omega)).trans k0, k1.kept (fun i hi => gA i hi), ⟨r2, hB⟩, (g 1 (by omega)).trans k3, (g 2 (by omega)).trans k4, fun j hj => ?_, ⟨(g 3 (by omega)).trans k6.1, (g 4 (by omega)).trans k6.2⟩, ⟨wd, fp, fr, fc, pl, kd, fi, se, (g 5 (by omega)).trans k7⟩, (g 6 (by omega)).trans k8, (g 7 (by omega)).trans k9, hp, hL, ⟨gs _ _ _ k12.1, gs _ _ _ k12.2.1, gs _ _ _ k12.2.2⟩⟩
  obtain ⟨t2, q1, q2⟩ := k5 j hj
  exact ⟨t2, q1.kept (fun i hi => gC j i hj hi), q2⟩
theorem SepS.pl {A B m : Nat → Nat} {C : Nat → Nat → Nat} (hS : SepS A B m C) {o : Nat} (ho : o < 60) : PlSep (m 6) (m 7) (m 8) (DD m) B (A (74 + 2 * o)) (A (75 + 2 * o)) := by
  obtain ⟨s1, s2, s3, s4, s5, s6, s7, s8, s9⟩ := hS
  have mm : ∀ i j, i < 24 → j < 24 → i ≠ j → m i ≠ m j := fun i j hi hj hn e => hn (s9 i j hi hj e)
  refine ⟨s2, fun k i hk hi => (s8 _ (by omega)).2.1, ⟨(s8 6 (by omega)).2.1, (s8 7 (by omega)).2.1, (s8 8 (by omega)).2.1, fun j hj e => s4 _ j (by omega) hj e, fun j hj e => s4 _ j (by omega) hj e⟩, fun k i k2 i2 hk hi hk2 hi2 e => ?_, fun k i hk hi => ⟨mm _ _ (by omega) (by omega) (by omega), (s8 _ (by omega)).1 _ (by omega), (s8 _ (by omega)).1 _ (by omega), mm _ _ (by omega) (by omega) (by omega), mm _ _ (by omega) (by omega) (by omega)⟩, (s8 8 (by omega)).1 _ (by omega), (s8 8 (by omega)).1 _ (by omega), mm _ _ (by omega) (by omega) (by omega), mm _ _ (by omega) (by omega) (by omega)⟩
  have z := s9 _ _ (by omega) (by omega) e
  omega
noncomputable def Q_plan (r : Nat → Int32) (w o k : Int32) : Int32 := cond (okB (r 8) w && (okB (r 9) o && decide (-1 ≤ k))) (cond (sold r (cl w)) (-2) (match plnF (cl w) (od r (cl o)) r 0 5 with
  | none => -4
  | some (d, p) => cond (decide (k < nI d)) (cond (decide (0 ≤ k)) (nI (p.getD (cl k) 0)) (nI d)) (-4))) (-1)

set_option maxHeartbeats 4000000 in
set_option maxRecDepth 100000 in
theorem ct_X9_plan (X : Cx) {h : Hp} {A B m : Nat → Nat} {C : Nat → Nat → Nat} {r : Nat → Int32} {n tn : Nat} {rows : Nat → Nat → Int32} {tg : Nat → Int32} {w o k : Int32}  (hS : SepS A B m C) (hn : n ≤ 4) (hO : Ok r) (hY : SysAt X h A B m C r n rows tn tg) : Ct X mX9_plan 9 0 0 [.ref (m 0), .int w, .int o, .int k] h (fun u h1 => u = some (.int (Q_plan r w o k)) ∧ SysTo X h h1 A B m C r n rows tn tg) := by
  obtain ⟨y0, hA, -, y1, y2, -, yT, -⟩ := id hY
  have hO0 := hO
  obtain ⟨nv, nl, no, hnv, hnl, hno, e7, e8, e9, hset, hvok, hvz, hlok, hlz, hok, hoz, hw⟩ := hO0
  have hA0 := hA
  obtain ⟨a0, a1, a2, a3, a4, a5, a6, av, al, ao⟩ := hA0
  unfold hobC at a0
  rw [e7, e8, e9] at a0
  obtain ⟨-, -, ⟨tB, yB⟩, -, -, -, -, -, y8, -, -, -, -⟩ := id hY
  obtain ⟨s1, s2, s3, s4, s5, s6, s7, s8, s9⟩ := id hS
  have b00 := yB.1
  unfold hobC at b00
  refine Ct.ofG vX9_plan.1.2.2.1 (Nat.le_of_ble_eq_true rfl) ?_
  show G X RX9 cX9_plan 7 (some .int) "plan" (Rm 9 0 0) (Fm X (fun u h1 => u = some (.int (Q_plan r w o k)) ∧ SysTo X h h1 A B m C r n rows tn tg) 0 0) 0 0 0 [(0, .ref (m 0)), (1, .int w), (2, .int o), (3, .int k)] [] h
  refine g_aload_n dX9_plan_0 (by rfl) (by first | exact isRf_r | exact isRf_n | exact isRf_o | assumption) ?_
  refine g_getf dX9_plan_1 fX9_10 (by first | assumption | (repeat' (first | assumption | exact hu_same | exact Ne.symm (by assumption) | apply hu_n1))) (by rfl) ?_
  refine g_iload_n dX9_plan_4 (by rfl) ?_
  by_cases hvj : ∃ j, j < nl ∧ w = nI j
  · skip
    obtain ⟨j, hj, rfl⟩ := hvj
    have alj := al j (by omega)
    obtain ⟨l1, l2, l3⟩ := id alj
    unfold lotC at l1
    have lok := hlok j hj
    refine g_cV1x dX9_plan_5 lX9_117 vX1_findLot (ct_findLot X (by omega) a0 a2 hj (laR_j (by omega))) (by first | assumption | (repeat' (first | assumption | exact hu_same | exact Ne.symm (by assumption) | apply hu_n1))) rfl ⟨Nat.le_of_ble_eq_true rfl, Nat.le_of_ble_eq_true rfl⟩ (Nat.le_of_ble_eq_true rfl) ⟨Nat.le_of_ble_eq_true rfl, Nat.le_of_ble_eq_true rfl⟩ ?_
    refine g_astore (L1 := [(0, _), (1, _), (2, _), (3, _), (4, _)]) dX9_plan_8 (by first | exact isRf_r | exact isRf_n | exact isRf_o | assumption) (by decide) (by rfl) ?_
    refine g_aload_n dX9_plan_10 (by rfl) (by first | exact isRf_r | exact isRf_n | exact isRf_o | assumption) ?_
    refine g_getf dX9_plan_11 fX9_10 (by first | assumption | (repeat' (first | assumption | exact hu_same | exact Ne.symm (by assumption) | apply hu_n1))) (by rfl) ?_
    refine g_iload_n dX9_plan_14 (by rfl) ?_
    by_cases hvi : ∃ j, j < no ∧ o = nI j
    · skip
      obtain ⟨i, hi, rfl⟩ := hvi
      have aoi := ao i (by omega)
      refine g_cV1x dX9_plan_15 lX9_189 vX1_findOrder (ct_findOrder X (by omega) a0 a3 hi (oaR_j (by omega))) (by first | assumption | (repeat' (first | assumption | exact hu_same | exact Ne.symm (by assumption) | apply hu_n1))) rfl ⟨Nat.le_of_ble_eq_true rfl, Nat.le_of_ble_eq_true rfl⟩ (Nat.le_of_ble_eq_true rfl) ⟨Nat.le_of_ble_eq_true rfl, Nat.le_of_ble_eq_true rfl⟩ ?_
      refine g_astore (L1 := [(0, _), (1, _), (2, _), (3, _), (4, _), (5, _)]) dX9_plan_18 (by first | exact isRf_r | exact isRf_n | exact isRf_o | assumption) (by decide) (by rfl) ?_
      refine g_aload dX9_plan_20 (by rfl) (by first | exact isRf_r | exact isRf_n | exact isRf_o | assumption) ?_
      refine g_ifnull (tgt := 35) dX9_plan_22 (by decide) (by first | exact isRf_r | exact isRf_n | exact isRf_o | assumption) (fun c1 => nomatch c1) (fun c1 => ?_)
      refine g_aload dX9_plan_25 (by rfl) (by first | exact isRf_r | exact isRf_n | exact isRf_o | assumption) ?_
      refine g_ifnull (tgt := 35) dX9_plan_27 (by decide) (by first | exact isRf_r | exact isRf_n | exact isRf_o | assumption) (fun c2 => nomatch c2) (fun c2 => ?_)
      refine g_iload_n dX9_plan_30 (by rfl) ?_
      refine g_iconst (v := (-1)) dX9_plan_31 (by decide) ?_
      refine g_icmp_ge (tgt := 37) dX9_plan_32 (by decide) (fun c3 => ?_) (fun c3 => ?_)
      · skip
        have hk1 := c3
        refine g_aload dX9_plan_37 (by rfl) (by first | exact isRf_r | exact isRf_n | exact isRf_o | assumption) ?_
        refine g_cV0x dX9_plan_39 lX9_154 vX2_isSold (ct_X2_isSold X alj) (by first | assumption | (repeat' (first | assumption | exact hu_same | exact Ne.symm (by assumption) | apply hu_n1))) rfl ⟨Nat.le_of_ble_eq_true rfl, Nat.le_of_ble_eq_true rfl⟩ (Nat.le_of_ble_eq_true rfl) ⟨Nat.le_of_ble_eq_true rfl, Nat.le_of_ble_eq_true rfl⟩ ?_
        refine g_if_eq (tgt := 48) dX9_plan_42 (by decide) (fun c4 => ?_) (fun c4 => ?_)
        · skip
          have hb : sold r j = false := decide_eq_false (bI_d0 _ c4)
          refine g_aload_n dX9_plan_48 (by rfl) (by first | exact isRf_r | exact isRf_n | exact isRf_o | assumption) ?_
          refine g_getf dX9_plan_49 fX9_16 (by first | assumption | (repeat' (first | assumption | exact hu_same | exact Ne.symm (by assumption) | apply hu_n1))) (by rfl) ?_
          refine g_aload_n dX9_plan_52 (by rfl) (by first | exact isRf_r | exact isRf_n | exact isRf_o | assumption) ?_
          refine g_getf dX9_plan_53 fX9_10 (by first | assumption | (repeat' (first | assumption | exact hu_same | exact Ne.symm (by assumption) | apply hu_n1))) (by rfl) ?_
          refine g_cV1 dX9_plan_56 lX9_219 vX1_copyFrom (ct_X1_copyFrom X s2 (fun i j hi hj e => s4 j i hj hi e.symm) hO.rb yB hA) (by first | assumption | (repeat' (first | assumption | exact hu_same | exact Ne.symm (by assumption) | apply hu_n1))) rfl ⟨Nat.le_of_ble_eq_true rfl, Nat.le_of_ble_eq_true rfl⟩ (Nat.le_of_ble_eq_true rfl) ⟨Nat.le_of_ble_eq_true rfl, Nat.le_of_ble_eq_true rfl⟩ ?_
          rintro _ h2 ⟨rfl, kB2, f2⟩
          refine g_stk (st' := []) rfl ?_
          have Y1 := SysAt.inB hS hY kB2 f2
          obtain ⟨z0, zA, -, -, -, -, -, -, z8, z9, ⟨zpa, zp⟩, ⟨zxs, zl⟩, -⟩ := id Y1
          have zlj := zA.2.2.2.2.2.2.2.2.1 j (by omega)
          have zoi := zA.2.2.2.2.2.2.2.2.2 i (by omega)
          refine g_aload_n dX9_plan_59 (by rfl) (by first | exact isRf_r | exact isRf_n | exact isRf_o | assumption) ?_
          refine g_getf dX9_plan_60 fX9_43 (by first | assumption | (repeat' (first | assumption | exact hu_same | exact Ne.symm (by assumption) | apply hu_n1))) (by rfl) ?_
          refine g_aload_n dX9_plan_63 (by rfl) (by first | exact isRf_r | exact isRf_n | exact isRf_o | assumption) ?_
          refine g_getf dX9_plan_64 fX9_16 (by first | assumption | (repeat' (first | assumption | exact hu_same | exact Ne.symm (by assumption) | apply hu_n1))) (by rfl) ?_
          refine g_aload dX9_plan_67 (by rfl) (by first | exact isRf_r | exact isRf_n | exact isRf_o | assumption) ?_
          refine g_aload dX9_plan_69 (by rfl) (by first | exact isRf_r | exact isRf_n | exact isRf_o | assumption) ?_
          refine g_cV3 dX9_plan_71 lX9_222 vX4_findPlan (ct_X4_findPlan X (l := j) (hS.pl (o := i) (by omega)) z8 z9 zp kB2 zl zoi hO (by omega) lok (fun _ _ => rfl) (fun _ _ _ => rfl) zlj (fun k i hk hi => ⟨(s8 _ (by omega)).1 _ (by omega), (s8 _ (by omega)).1 _ (by omega), (s8 _ (by omega)).1 _ (by omega)⟩)) (by first | assumption | (repeat' (first | assumption | exact hu_same | exact Ne.symm (by assumption) | apply hu_n1))) rfl ⟨Nat.le_of_ble_eq_true rfl, Nat.le_of_ble_eq_true rfl⟩ (Nat.le_of_ble_eq_true rfl) ⟨Nat.le_of_ble_eq_true rfl, Nat.le_of_ble_eq_true rfl⟩ ?_
          rintro _ h3 ⟨rfl, kB3, ⟨path3, kp3, kpr⟩, ⟨xs3, kL3⟩, f3⟩
          refine g_stk (st' := [.int (plnI (plnF j (od r i) r 0 5))]) rfl ?_
          have Y3 := SysAt.inP hS Y1 kB3 ⟨path3, kp3⟩ ⟨xs3, kL3⟩ f3
          have fin : SysTo X h h3 A B m C r n rows tn tg := ⟨C, Y3, hS, fun q hq => hq, fun q hq => (f3 q hq.2.1 (hq.2.2.2 8 (by omega)) (fun k i hk hi => hq.2.2.2 _ (by omega))).trans (f2 q hq.2.1)⟩
          have x0 := Y3.1
          have x8 := Y3.2.2.2.2.2.2.2.2.1
          generalize eP : plnF j (od r i) r 0 5 = oP
          rw [eP] at kpr
          refine g_istore (L1 := [(0, _), (1, _), (2, _), (3, _), (4, _), (5, _), (6, _)]) dX9_plan_74 (by decide) (by rfl) ?_
          refine g_iload dX9_plan_76 (by rfl) ?_
          refine g_if_lt (tgt := 87) dX9_plan_78 (by decide) (fun c5 => ?_) (fun c5 => ?_)
          · skip
            have hn0 : oP = none := plnI_n (fun d p e => (kpr d p e).2.1) c5
            subst hn0
            refine g_bipush (v := (-4)) dX9_plan_87 (by decide) ?_
            refine g_iret dX9_plan_89 rfl (Nat.le_refl _) (Nat.le_refl _) ?_
            refine ⟨congrArg (fun z => some (Value.int z)) ?_, fin⟩
            unfold Q_plan
            rw [e8, e9, okB_t hj (by omega), okB_t hi (by omega), decide_eq_true hk1, cl_nI (j := j) (by omega), cl_nI (j := i) (by omega), hb, eP]
            first
              | rfl
              | (show _ = cond (decide (k < nI d)) _ _; rw [decide_eq_false hkd]; rfl)
          · skip
            obtain ⟨d, p, rfl⟩ := plnI_s c5
            have hd4 := (kpr d p rfl).2.1
            have hlen := (kpr d p rfl).2.2
            refine g_iload_n dX9_plan_81 (by rfl) ?_
            refine g_iload dX9_plan_82 (by rfl) ?_
            refine g_icmp_lt (tgt := 90) dX9_plan_84 (by decide) (fun c6 => ?_) (fun c6 => ?_)
            · skip
              have hkd : k < nI d := c6
              refine g_iload_n dX9_plan_90 (by rfl) ?_
              refine g_if_ge (tgt := 99) dX9_plan_91 (by decide) (fun c7 => ?_) (fun c7 => ?_)
              · skip
                have hk0 := c7
                obtain ⟨q, hq, rfl⟩ := fnd2 (n := d) (by omega) hk0 hkd
                refine g_aload_n dX9_plan_99 (by rfl) (by first | exact isRf_r | exact isRf_n | exact isRf_o | assumption) ?_
                refine g_getf dX9_plan_100 fX9_43 (by first | assumption | (repeat' (first | assumption | exact hu_same | exact Ne.symm (by assumption) | apply hu_n1))) (by rfl) ?_
                refine g_iload_n dX9_plan_103 (by rfl) ?_
                refine g_cV1x dX9_plan_104 lX9_226 vX4_vatOfDip (ct_X4_vatOfDip X x8 kp3 (by have z := (kpr d p rfl).2.1; omega)) (by first | assumption | (repeat' (first | assumption | exact hu_same | exact Ne.symm (by assumption) | apply hu_n1))) rfl ⟨Nat.le_of_ble_eq_true rfl, Nat.le_of_ble_eq_true rfl⟩ (Nat.le_of_ble_eq_true rfl) ⟨Nat.le_of_ble_eq_true rfl, Nat.le_of_ble_eq_true rfl⟩ ?_
                refine g_iret dX9_plan_107 rfl (Nat.le_refl _) (Nat.le_refl _) ?_
                refine ⟨congrArg (fun z => some (Value.int z)) ?_, fin⟩
                unfold Q_plan
                rw [e8, e9, okB_t hj (by omega), okB_t hi (by omega), decide_eq_true hk1, cl_nI (j := j) (by omega), cl_nI (j := i) (by omega), hb, eP]
                first
                  | (show _ = cond (decide (k < nI d)) (cond (decide (0 ≤ k)) _ _) _; rw [decide_eq_true hkd, decide_eq_false hk0]; rfl)
                  | (show _ = cond (decide (nI q < nI d)) (cond (decide (0 ≤ nI q)) _ _) _; rw [decide_eq_true hkd, decide_eq_true hk0, cl_nI (by omega), hlen q hq]; rfl)
              · skip
                have hk0 := c7
                refine g_iload dX9_plan_94 (by rfl) ?_
                refine g_goto (tgt := 107) dX9_plan_96 (by decide) ?_
                refine g_iret dX9_plan_107 rfl (Nat.le_refl _) (Nat.le_refl _) ?_
                refine ⟨congrArg (fun z => some (Value.int z)) ?_, fin⟩
                unfold Q_plan
                rw [e8, e9, okB_t hj (by omega), okB_t hi (by omega), decide_eq_true hk1, cl_nI (j := j) (by omega), cl_nI (j := i) (by omega), hb, eP]
                first
                  | (show _ = cond (decide (k < nI d)) (cond (decide (0 ≤ k)) _ _) _; rw [decide_eq_true hkd, decide_eq_false hk0]; rfl)
                  | (show _ = cond (decide (nI q < nI d)) (cond (decide (0 ≤ nI q)) _ _) _; rw [decide_eq_true hkd, decide_eq_true hk0, cl_nI (by omega), hlen q hq]; rfl)
            · skip
              have hkd : ¬ k < nI d := c6
              refine g_bipush (v := (-4)) dX9_plan_87 (by decide) ?_
              refine g_iret dX9_plan_89 rfl (Nat.le_refl _) (Nat.le_refl _) ?_
              refine ⟨congrArg (fun z => some (Value.int z)) ?_, fin⟩
              unfold Q_plan
              rw [e8, e9, okB_t hj (by omega), okB_t hi (by omega), decide_eq_true hk1, cl_nI (j := j) (by omega), cl_nI (j := i) (by omega), hb, eP]
              first
                | rfl
                | (show _ = cond (decide (k < nI d)) _ _; rw [decide_eq_false hkd]; rfl)
        · skip
          have hb : sold r j = true := decide_eq_true (bI_d1 _ c4)
          refine g_bipush (v := (-2)) dX9_plan_45 (by decide) ?_
          refine g_iret dX9_plan_47 rfl (Nat.le_refl _) (Nat.le_refl _) ?_
          refine ⟨congrArg (fun z => some (Value.int z)) ?_, ⟨C, hY, hS, fun q hq => hq, fun q _ => rfl⟩⟩
          unfold Q_plan
          rw [e8, e9, okB_t hj (by omega), okB_t hi (by omega), decide_eq_true hk1, cl_nI (j := j) (by omega), cl_nI (j := i) (by omega), hb]
          rfl
      · skip
        have hk1 := c3
        refine g_iconst (v := (-1)) dX9_plan_35 (by decide) ?_
        refine g_iret dX9_plan_36 rfl (Nat.le_refl _) (Nat.le_refl _) ?_
        refine ⟨congrArg (fun z => some (Value.int z)) ?_, ⟨C, hY, hS, fun q hq => hq, fun q _ => rfl⟩⟩
        unfold Q_plan
        first
          | (rw [e8, okB_f (by omega) hvj]; rfl)
          | (rw [e9, okB_f (w := o) (by omega) hvi, Bool.false_and, Bool.and_false]; rfl)
          | (rw [decide_eq_false hk1, Bool.and_false, Bool.and_false]; rfl)
    · skip
      refine g_cV1x dX9_plan_15 lX9_189 vX1_findOrder (ct_findOrderN X (by omega) a0 a3 hvi) (by first | assumption | (repeat' (first | assumption | exact hu_same | exact Ne.symm (by assumption) | apply hu_n1))) rfl ⟨Nat.le_of_ble_eq_true rfl, Nat.le_of_ble_eq_true rfl⟩ (Nat.le_of_ble_eq_true rfl) ⟨Nat.le_of_ble_eq_true rfl, Nat.le_of_ble_eq_true rfl⟩ ?_
      refine g_astore (L1 := [(0, _), (1, _), (2, _), (3, _), (4, _), (5, _)]) dX9_plan_18 (by first | exact isRf_r | exact isRf_n | exact isRf_o | assumption) (by decide) (by rfl) ?_
      refine g_aload dX9_plan_20 (by rfl) (by first | exact isRf_r | exact isRf_n | exact isRf_o | assumption) ?_
      refine g_ifnull (tgt := 35) dX9_plan_22 (by decide) (by first | exact isRf_r | exact isRf_n | exact isRf_o | assumption) (fun c8 => nomatch c8) (fun c8 => ?_)
      refine g_aload dX9_plan_25 (by rfl) (by first | exact isRf_r | exact isRf_n | exact isRf_o | assumption) ?_
      refine g_ifnull (tgt := 35) dX9_plan_27 (by decide) (by first | exact isRf_r | exact isRf_n | exact isRf_o | assumption) (fun c9 => ?_) (fun c9 => absurd rfl c9)
      refine g_iconst (v := (-1)) dX9_plan_35 (by decide) ?_
      refine g_iret dX9_plan_36 rfl (Nat.le_refl _) (Nat.le_refl _) ?_
      refine ⟨congrArg (fun z => some (Value.int z)) ?_, ⟨C, hY, hS, fun q hq => hq, fun q _ => rfl⟩⟩
      unfold Q_plan
      first
        | (rw [e8, okB_f (by omega) hvj]; rfl)
        | (rw [e9, okB_f (w := o) (by omega) hvi, Bool.false_and, Bool.and_false]; rfl)
        | (rw [decide_eq_false hk1, Bool.and_false, Bool.and_false]; rfl)
  · skip
    refine g_cV1x dX9_plan_5 lX9_117 vX1_findLot (ct_findLotN X (by omega) a0 a2 hvj) (by first | assumption | (repeat' (first | assumption | exact hu_same | exact Ne.symm (by assumption) | apply hu_n1))) rfl ⟨Nat.le_of_ble_eq_true rfl, Nat.le_of_ble_eq_true rfl⟩ (Nat.le_of_ble_eq_true rfl) ⟨Nat.le_of_ble_eq_true rfl, Nat.le_of_ble_eq_true rfl⟩ ?_
    refine g_astore (L1 := [(0, _), (1, _), (2, _), (3, _), (4, _)]) dX9_plan_8 (by first | exact isRf_r | exact isRf_n | exact isRf_o | assumption) (by decide) (by rfl) ?_
    refine g_aload_n dX9_plan_10 (by rfl) (by first | exact isRf_r | exact isRf_n | exact isRf_o | assumption) ?_
    refine g_getf dX9_plan_11 fX9_10 (by first | assumption | (repeat' (first | assumption | exact hu_same | exact Ne.symm (by assumption) | apply hu_n1))) (by rfl) ?_
    refine g_iload_n dX9_plan_14 (by rfl) ?_
    by_cases hvi : ∃ j, j < no ∧ o = nI j
    · skip
      obtain ⟨i, hi, rfl⟩ := hvi
      have aoi := ao i (by omega)
      refine g_cV1x dX9_plan_15 lX9_189 vX1_findOrder (ct_findOrder X (by omega) a0 a3 hi (oaR_j (by omega))) (by first | assumption | (repeat' (first | assumption | exact hu_same | exact Ne.symm (by assumption) | apply hu_n1))) rfl ⟨Nat.le_of_ble_eq_true rfl, Nat.le_of_ble_eq_true rfl⟩ (Nat.le_of_ble_eq_true rfl) ⟨Nat.le_of_ble_eq_true rfl, Nat.le_of_ble_eq_true rfl⟩ ?_
      refine g_astore (L1 := [(0, _), (1, _), (2, _), (3, _), (4, _), (5, _)]) dX9_plan_18 (by first | exact isRf_r | exact isRf_n | exact isRf_o | assumption) (by decide) (by rfl) ?_
      refine g_aload dX9_plan_20 (by rfl) (by first | exact isRf_r | exact isRf_n | exact isRf_o | assumption) ?_
      refine g_ifnull (tgt := 35) dX9_plan_22 (by decide) (by first | exact isRf_r | exact isRf_n | exact isRf_o | assumption) (fun c10 => ?_) (fun c10 => absurd rfl c10)
      refine g_iconst (v := (-1)) dX9_plan_35 (by decide) ?_
      refine g_iret dX9_plan_36 rfl (Nat.le_refl _) (Nat.le_refl _) ?_
      refine ⟨congrArg (fun z => some (Value.int z)) ?_, ⟨C, hY, hS, fun q hq => hq, fun q _ => rfl⟩⟩
      unfold Q_plan
      first
        | (rw [e8, okB_f (by omega) hvj]; rfl)
        | (rw [e9, okB_f (w := o) (by omega) hvi, Bool.false_and, Bool.and_false]; rfl)
        | (rw [decide_eq_false hk1, Bool.and_false, Bool.and_false]; rfl)
    · skip
      refine g_cV1x dX9_plan_15 lX9_189 vX1_findOrder (ct_findOrderN X (by omega) a0 a3 hvi) (by first | assumption | (repeat' (first | assumption | exact hu_same | exact Ne.symm (by assumption) | apply hu_n1))) rfl ⟨Nat.le_of_ble_eq_true rfl, Nat.le_of_ble_eq_true rfl⟩ (Nat.le_of_ble_eq_true rfl) ⟨Nat.le_of_ble_eq_true rfl, Nat.le_of_ble_eq_true rfl⟩ ?_
      refine g_astore (L1 := [(0, _), (1, _), (2, _), (3, _), (4, _), (5, _)]) dX9_plan_18 (by first | exact isRf_r | exact isRf_n | exact isRf_o | assumption) (by decide) (by rfl) ?_
      refine g_aload dX9_plan_20 (by rfl) (by first | exact isRf_r | exact isRf_n | exact isRf_o | assumption) ?_
      refine g_ifnull (tgt := 35) dX9_plan_22 (by decide) (by first | exact isRf_r | exact isRf_n | exact isRf_o | assumption) (fun c11 => ?_) (fun c11 => absurd rfl c11)
      refine g_iconst (v := (-1)) dX9_plan_35 (by decide) ?_
      refine g_iret dX9_plan_36 rfl (Nat.le_refl _) (Nat.le_refl _) ?_
      refine ⟨congrArg (fun z => some (Value.int z)) ?_, ⟨C, hY, hS, fun q hq => hq, fun q _ => rfl⟩⟩
      unfold Q_plan
      first
        | (rw [e8, okB_f (by omega) hvj]; rfl)
        | (rw [e9, okB_f (w := o) (by omega) hvi, Bool.false_and, Bool.and_false]; rfl)
        | (rw [decide_eq_false hk1, Bool.and_false, Bool.and_false]; rfl)
