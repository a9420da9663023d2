/-- racks and orders are within their limits -/
def Ok2 (r : Nat → Int32) : Prop := (∀ k, rackN r k ≤ 4) ∧ unsN r ≤ 8
theorem cnt_mono {p q : Nat → Bool} : ∀ {n : Nat}, (∀ j, j < n → p j = true → q j = true) → cntN p n ≤ cntN q n
  | 0, _ => Nat.le_refl _
  | n + 1, h => by
    have ih := cnt_mono (p := p) (q := q) (n := n) (fun j hj => h j (by omega))
    have e := h n (by omega)
    show cond (p n) (cntN p n + 1) (cntN p n) ≤ cond (q n) (cntN q n + 1) (cntN q n)
    cases hp : p n with
    | false =>
      cases q n with
      | false => exact ih
      | true => exact Nat.le_succ_of_le ih
    | true =>
      rw [e hp]
      exact Nat.succ_le_succ ih
theorem cnt_one {p q : Nat → Bool} {l : Nat} : ∀ {n : Nat}, (∀ j, j < n → j ≠ l → p j = true → q j = true) → cntN p n ≤ cntN q n + 1
  | 0, _ => Nat.zero_le _
  | n + 1, h => by
    by_cases e : n = l
    · have ih := cnt_mono (p := p) (q := q) (n := n) (fun j hj => h j (by omega) (by omega))
      show cond (p n) (cntN p n + 1) (cntN p n) ≤ cond (q n) (cntN q n + 1) (cntN q n) + 1
      cases p n <;> cases q n <;> simp only [cond_true, cond_false] <;> omega
    · have ih := cnt_one (p := p) (q := q) (l := l) (n := n) (fun j hj => h j (by omega))
      have e2 := h n (by omega) e
      show cond (p n) (cntN p n + 1) (cntN p n) ≤ cond (q n) (cntN q n + 1) (cntN q n) + 1
      cases hp : p n with
      | false => cases q n <;> simp only [cond_true, cond_false] <;> omega
      | true =>
        rw [e2 hp]
        simp only [cond_true]
        omega
theorem cnt_suc {p : Nat → Bool} {n : Nat} : cntN p (n + 1) ≤ cntN p n + 1 := by
  show cond (p n) (cntN p n + 1) (cntN p n) ≤ _
  cases p n <;> simp only [cond_true, cond_false] <;> omega
theorem cl_le {r : Nat → Int32} (k : Ok r) : cl (r 8) ≤ 20 ∧ cl (r 9) ≤ 60 := by
  obtain ⟨nv, nl, no, hnv, hnl, hno, e7, e8, e9, -⟩ := k
  rw [e8, e9, cl_nI (by omega), cl_nI (by omega)]
  exact ⟨hnl, hno⟩
/-- the numbers that count stay, or fewer hang and wait -/
theorem Ok2.less {r r2 : Nat → Int32} (k : Ok2 r) (o : Ok r) (e8 : r2 8 = r 8) (e9 : r2 9 = r 9) (eh : ∀ l, l < 20 → (hangs r2 l = true → hangs r l = true) ∧ ltx r2 l 0 = ltx r l 0) (eo : ∀ i, i < 60 → od r2 i 4 = 0 → od r i 4 = 0) : Ok2 r2 := by
  obtain ⟨c8, c9⟩ := cl_le o
  refine ⟨fun x => Nat.le_trans ?_ (k.1 x), Nat.le_trans ?_ k.2⟩
  · unfold rackN
    rw [e8]
    refine cnt_mono (fun l hl z => ?_)
    obtain ⟨a, b⟩ := eh l (by omega)
    unfold rackB at z ⊢
    rw [b] at z
    rw [Bool.and_eq_true] at z ⊢
    exact ⟨a z.1, z.2⟩
  · unfold unsN
    rw [e9]
    exact cnt_mono (fun i hi z => decide_eq_true (eo i (by omega) (of_decide_eq_true z)))
theorem Ok2.same {r r2 : Nat → Int32} (k : Ok2 r) (o : Ok r) (e8 : r2 8 = r 8) (e9 : r2 9 = r 9) (eh : ∀ l, l < 20 → r2 (43 + 15 * l + 10) = r (43 + 15 * l + 10) ∧ r2 (43 + 15 * l + 0) = r (43 + 15 * l + 0)) (eo : ∀ i, i < 60 → r2 (343 + 5 * i + 4) = r (343 + 5 * i + 4)) : Ok2 r2 := by
  refine k.less o e8 e9 (fun l hl => ⟨fun z => ?_, (eh l hl).2⟩) (fun i hi z => (eo i hi).symm.trans z)
  unfold hangs at z ⊢
  rw [show ltx r2 l 10 = ltx r l 10 from (eh l hl).1] at z
  exact z
theorem Ok2_weigh {r : Nat → Int32} {w g : Int32} (k : Ok r) (k2 : Ok2 r) : Ok2 (F_weigh r w g).2 := by
  unfold F_weigh
  cases hb : okB (r 7) w && rngB 1 100000 g with
  | false => exact k2
  | true =>
    obtain ⟨j, hj, rfl, hvo⟩ := k.vok (Bool.and_eq_true_iff.mp hb).1
    obtain ⟨⟨d, hd, ed⟩, -⟩ := id hvo
    rw [cl_nI (by omega), ed, cl_nI (by omega)]
    cases decide (r (11 + d) + g ≤ 1000000) with
    | false => exact k2
    | true => exact k2.same k ((upd_n (by omega)).trans (upd_n (by omega))) ((upd_n (by omega)).trans (upd_n (by omega))) (fun l hl => ⟨(upd_n (by omega)).trans (upd_n (by omega)), (upd_n (by omega)).trans (upd_n (by omega))⟩) (fun i hi => (upd_n (by omega)).trans (upd_n (by omega)))
theorem Ok2_drain {r : Nat → Int32} {w : Int32} (k : Ok r) (k2 : Ok2 r) : Ok2 (F_drain r w).2 := by
  unfold F_drain
  cases hb : okB (r 7) w with
  | false => exact k2
  | true =>
    obtain ⟨j, hj, rfl, hvo⟩ := k.vok hb
    obtain ⟨⟨d, hd, ed⟩, -⟩ := id hvo
    rw [cl_nI (by omega), ed, cl_nI (by omega)]
    exact k2.same k ((upd_n (by omega)).trans ((upd_n (by omega)).trans (upd_n (by omega)))) ((upd_n (by omega)).trans ((upd_n (by omega)).trans (upd_n (by omega)))) (fun l hl => ⟨(upd_n (by omega)).trans ((upd_n (by omega)).trans (upd_n (by omega))), (upd_n (by omega)).trans ((upd_n (by omega)).trans (upd_n (by omega)))⟩) (fun i hi => (upd_n (by omega)).trans ((upd_n (by omega)).trans (upd_n (by omega))))
theorem Ok2_set {r : Nat → Int32} {w x : Int32} (k : Ok r) (k2 : Ok2 r) : Ok2 (F_set r w x).2 := by
  unfold F_set
  cases hb : okB 7 w && rngB (leastF (cl w)) (mostF (cl w)) x with
  | false => exact k2
  | true =>
    obtain ⟨j, hj, rfl⟩ := okB_i (n := 7) (by omega) (Bool.and_eq_true_iff.mp hb).1
    rw [cl_nI (by omega)]
    exact k2.same k (upd_n (by omega)) (upd_n (by omega)) (fun l hl => ⟨upd_n (by omega), upd_n (by omega)⟩) (fun i hi => upd_n (by omega))
theorem Ok2_dye {r : Nat → Int32} {l v : Nat} (k : Ok r) (k2 : Ok2 r) (hl : l < 20) (hv : v < 6) (hvo : VOk (vt r v)) : Ok2 (dyeR r l v) := by
  obtain ⟨⟨d, hd, ed⟩, -⟩ := id hvo
  refine k2.same k (dye_lo (by omega) (by omega)) (dye_lo (by omega) (by omega)) (fun m hm => ?_) (fun i hi => dye_od hl hv)
  by_cases e : m = l
  · subst e
    refine ⟨?_, ?_⟩
    · show ltx (dyeR r m v) m 10 = ltx r m 10
      rw [dye_ll (by omega), ed, cl_nI (by omega), soakF_o (by omega) (by omega), soakG_m (by omega) (by omega) (by omega)]
    · show ltx (dyeR r m v) m 0 = ltx r m 0
      rw [dye_ll (by omega), ed, cl_nI (by omega), soakF_o (by omega) (by omega), soakG_m (by omega) (by omega) (by omega)]
  · exact ⟨dye_lt hv (by omega) e, dye_lt hv (by omega) e⟩
theorem Ok2_dip {r : Nat → Int32} {w o : Int32} (k : Ok r) (k2 : Ok2 r) : Ok2 (F_dip r w o).2 := by
  unfold F_dip
  cases hb : okB (r 8) w && okB (r 7) o with
  | false => exact k2
  | true =>
    obtain ⟨j, hj, rfl, hlo⟩ := k.lok (Bool.and_eq_true_iff.mp hb).1
    obtain ⟨i, hi, rfl, hvo⟩ := k.vok (Bool.and_eq_true_iff.mp hb).2
    rw [cl_nI (by omega), cl_nI (by omega)]
    cases sold r j || (hangs r j || decide (vt r i 2 ≤ 0)) with
    | true => exact k2
    | false => exact Ok2_dye k k2 hj hi hvo
theorem rin_o {r : Nat → Int32} {l p : Nat} : ∀ {n : Nat}, n ≤ 4 → l < 20 → (∀ m, m < n → p ≠ 15 + m ∧ p ≠ 43 + 15 * l + (6 + m)) → rinR r l n p = r p
  | 0, _, _, _ => rfl
  | n + 1, hn, hl, h => by
    obtain ⟨a, b⟩ := h n (by omega)
    show upd (upd _ _ _) _ _ p = _
    rw [upd_n b, upd_n a]
    exact rin_o (by omega) hl (fun m hm => h m (by omega))
theorem Ok2_rinse {r : Nat → Int32} {w : Int32} (k : Ok r) (k2 : Ok2 r) : Ok2 (F_rinse r w).2 := by
  unfold F_rinse
  cases hb : okB (r 8) w with
  | false => exact k2
  | true =>
    obtain ⟨j, hj, rfl, hlo⟩ := k.lok hb
    rw [cl_nI (by omega)]
    cases sold r j || hangs r j with
    | true => exact k2
    | false => exact k2.same k (rin_o (by omega) hj (fun m hm => by omega)) (rin_o (by omega) hj (fun m hm => by omega)) (fun l hl => ⟨rin_o (by omega) hj (fun m hm => by omega), rin_o (by omega) hj (fun m hm => by omega)⟩) (fun i hi => rin_o (by omega) hj (fun m hm => by omega))
theorem Ok2_take {r : Nat → Int32} {w : Int32} (k : Ok r) (k2 : Ok2 r) : Ok2 (F_take r w).2 := by
  unfold F_take
  cases hb : okB (r 8) w with
  | false => exact k2
  | true =>
    obtain ⟨j, hj, rfl, hlo⟩ := k.lok hb
    rw [cl_nI (by omega)]
    cases hangs r j with
    | false => exact k2
    | true =>
      show Ok2 (upd r (43 + 15 * j + 10) 0)
      refine k2.less k (upd_n (by omega)) (upd_n (by omega)) (fun l hl => ⟨fun z => ?_, upd_n (by omega)⟩) (fun i hi z => by rw [show od (upd r (43 + 15 * j + 10) 0) i 4 = od r i 4 from upd_n (by omega)] at z; exact z)
      by_cases e : l = j
      · subst e
        unfold hangs at z
        rw [show ltx (upd r (43 + 15 * l + 10) 0) l 10 = 0 from upd_s] at z
        exact absurd z (by decide)
      · unfold hangs at z ⊢
        rw [show ltx (upd r (43 + 15 * j + 10) 0) l 10 = ltx r l 10 from upd_n (by omega)] at z
        exact z
theorem Ok2_sell {r : Nat → Int32} {w o : Int32} (k : Ok r) (k2 : Ok2 r) : Ok2 (F_sell r w o).2 := by
  unfold F_sell
  cases hb : okB (r 8) w && okB (r 9) o with
  | false => exact k2
  | true =>
    obtain ⟨j, hj, rfl, hlo⟩ := k.lok (Bool.and_eq_true_iff.mp hb).1
    obtain ⟨i, no, hi, hno, e9, rfl, hob⟩ := k.ook (Bool.and_eq_true_iff.mp hb).2
    rw [cl_nI (by omega), cl_nI (by omega)]
    cases sold r j || (!hangs r j || (decide (¬ od r i 4 = 0) || !fitB (ltx r j) (od r i) r)) with
    | true => exact k2
    | false =>
      show Ok2 (upd (upd (upd r (43 + 15 * j + 13) (nI i + 1)) (43 + 15 * j + 10) 0) (343 + 5 * i + 4) 1)
      have fp : ∀ p, p ≠ 43 + 15 * j + 13 → p ≠ 43 + 15 * j + 10 → p ≠ 343 + 5 * i + 4 → upd (upd (upd r (43 + 15 * j + 13) (nI i + 1)) (43 + 15 * j + 10) 0) (343 + 5 * i + 4) 1 p = r p := fun p a b c => by rw [upd_n c, upd_n b, upd_n a]
      have f10 : upd (upd (upd r (43 + 15 * j + 13) (nI i + 1)) (43 + 15 * j + 10) 0) (343 + 5 * i + 4) 1 (43 + 15 * j + 10) = 0 := by rw [upd_n (by omega), upd_s]
      have f4 : upd (upd (upd r (43 + 15 * j + 13) (nI i + 1)) (43 + 15 * j + 10) 0) (343 + 5 * i + 4) 1 (343 + 5 * i + 4) = 1 := upd_s
      generalize upd (upd (upd r (43 + 15 * j + 13) (nI i + 1)) (43 + 15 * j + 10) 0) (343 + 5 * i + 4) 1 = R at fp f10 f4 ⊢
      refine k2.less k (fp 8 (by omega) (by omega) (by omega)) (fp 9 (by omega) (by omega) (by omega)) (fun l hl => ⟨fun z => ?_, fp (43 + 15 * l + 0) (by omega) (by omega) (by omega)⟩) (fun m hm z => ?_)
      · by_cases e : l = j
        · subst e
          unfold hangs at z
          rw [show ltx R l 10 = 0 from f10] at z
          exact absurd z (by decide)
        · unfold hangs at z ⊢
          rw [show ltx R l 10 = ltx r l 10 from fp (43 + 15 * l + 10) (by omega) (by omega) (by omega)] at z
          exact z
      · by_cases e : m = i
        · subst e
          rw [show od R m 4 = 1 from f4] at z
          exact absurd z (by decide)
        · rw [show od R m 4 = od r m 4 from fp (343 + 5 * m + 4) (by omega) (by omega) (by omega)] at z
          exact z
theorem Ok2_hang {r : Nat → Int32} {w x : Int32} (k : Ok r) (k2 : Ok2 r) : Ok2 (F_hang r w x).2 := by
  unfold F_hang
  cases hb : okB (r 8) w && rngB 0 1 x with
  | false => exact k2
  | true =>
    obtain ⟨j, hj, rfl, hlo⟩ := k.lok (Bool.and_eq_true_iff.mp hb).1
    rw [cl_nI (by omega)]
    cases hc : sold r j || (hangs r j || decide (¬ ltx r j 0 = x)) with
    | true => exact k2
    | false =>
      cases hd : decide (4 ≤ nI (rackN r x)) with
      | true => exact k2
      | false =>
        show Ok2 (upd r (43 + 15 * j + 10) 1)
        obtain ⟨c8, c9⟩ := cl_le k
        have ex : ltx r j 0 = x := by
          simp only [Bool.or_eq_false_iff, decide_eq_false_iff_not] at hc
          exact Classical.byContradiction (fun z => hc.2.2 z)
        have h4 : rackN r x < 4 := by
          have q := k2.1 x
          have z : rackN r x ≠ 4 := fun y => by
            rw [y] at hd
            exact absurd hd (by decide)
          omega
        refine ⟨fun y => ?_, Nat.le_trans ?_ k2.2⟩
        · unfold rackN
          rw [show upd r (43 + 15 * j + 10) 1 8 = r 8 from upd_n (by omega)]
          by_cases e : y = x
          · rw [e]
            have q := cnt_one (p := rackB (upd r (43 + 15 * j + 10) 1) x) (q := rackB r x) (l := j) (n := cl (r 8)) (fun l hl n z => by
              unfold rackB hangs at z ⊢
              rw [show ltx (upd r (43 + 15 * j + 10) 1) l 10 = ltx r l 10 from upd_n (by omega), show ltx (upd r (43 + 15 * j + 10) 1) l 0 = ltx r l 0 from upd_n (by omega)] at z
              exact z)
            unfold rackN at h4
            omega
          · have q := cnt_mono (p := rackB (upd r (43 + 15 * j + 10) 1) y) (q := rackB r y) (n := cl (r 8)) (fun l hl z => by
              by_cases el : l = j
              · subst el
                unfold rackB at z
                rw [show ltx (upd r (43 + 15 * l + 10) 1) l 0 = ltx r l 0 from upd_n (by omega), ex, decide_eq_false (fun y2 => e y2.symm), Bool.and_false] at z
                cases z
              · unfold rackB hangs at z ⊢
                rw [show ltx (upd r (43 + 15 * j + 10) 1) l 10 = ltx r l 10 from upd_n (by omega), show ltx (upd r (43 + 15 * j + 10) 1) l 0 = ltx r l 0 from upd_n (by omega)] at z
                exact z)
            exact Nat.le_trans q (k2.1 y)
        · unfold unsN
          rw [show upd r (43 + 15 * j + 10) 1 9 = r 9 from upd_n (by omega)]
          exact cnt_mono (fun i hi z => by
            rw [show od (upd r (43 + 15 * j + 10) 1) i 4 = od r i 4 from upd_n (by omega)] at z
            exact z)
theorem Ok2_vat {r : Nat → Int32} {d li : Int32} (k : Ok r) (k2 : Ok2 r) : Ok2 (F_vat r d li).2 := by
  unfold F_vat
  cases hb : rngB 0 3 d && rngB 10 1000 li with
  | false => exact k2
  | true =>
    cases hc : decide (r 7 < 6) with
    | false => exact k2
    | true =>
      obtain ⟨nv, nl, no, hnv, hnl, hno, e7, -⟩ := id k
      have h6 := of_decide_eq_true hc
      rw [e7] at h6
      have h66 : nv < 6 := (nI_ltI (b := 6) (by omega) (by omega)).mp h6
      rw [e7, cl_nI (by omega)]
      show Ok2 (upd (upd (upd r (19 + 4 * nv + 0) d) (19 + 4 * nv + 1) li) 7 (nI nv + 1))
      have fp : ∀ p, p ≠ 7 → (p < 19 ∨ 43 ≤ p) → upd (upd (upd r (19 + 4 * nv + 0) d) (19 + 4 * nv + 1) li) 7 (nI nv + 1) p = r p := fun p a b => by rw [upd_n a, upd_n (by omega), upd_n (by omega)]
      exact k2.same k (fp 8 (by omega) (by omega)) (fp 9 (by omega) (by omega)) (fun l hl => ⟨fp _ (by omega) (by omega), fp _ (by omega) (by omega)⟩) (fun i hi => fp _ (by omega) (by omega))
theorem Ok2_lot {r : Nat → Int32} {c w : Int32} (k : Ok r) (k2 : Ok2 r) : Ok2 (F_lot r c w).2 := by
  unfold F_lot
  cases hb : rngB 0 1 c && rngB 100 5000 w with
  | false => exact k2
  | true =>
    cases hc : decide (r 8 < 20) with
    | false => exact k2
    | true =>
      obtain ⟨nv, nl, no, hnv, hnl, hno, e7, e8, e9, -, -, -, -, hlz, -⟩ := id k
      have h6 := of_decide_eq_true hc
      rw [e8] at h6
      have h66 : nl < 20 := (nI_ltI (b := 20) (by omega) (by omega)).mp h6
      have z10 : r (43 + 15 * nl + 10) = 0 := hlz nl (Nat.le_refl _) h66 10 (by omega)
      rw [e8, cl_nI (by omega)]
      show Ok2 (upd (upd (upd r (43 + 15 * nl + 0) c) (43 + 15 * nl + 1) w) 8 (nI nl + 1))
      have fp : ∀ p, p ≠ 43 + 15 * nl + 0 → p ≠ 43 + 15 * nl + 1 → p ≠ 8 → upd (upd (upd r (43 + 15 * nl + 0) c) (43 + 15 * nl + 1) w) 8 (nI nl + 1) p = r p := fun p a b c2 => by rw [upd_n c2, upd_n b, upd_n a]
      have f8 : upd (upd (upd r (43 + 15 * nl + 0) c) (43 + 15 * nl + 1) w) 8 (nI nl + 1) 8 = nI nl + 1 := upd_s
      generalize upd (upd (upd r (43 + 15 * nl + 0) c) (43 + 15 * nl + 1) w) 8 (nI nl + 1) = R at fp f8 ⊢
      obtain ⟨q1, q2⟩ := k2
      refine ⟨fun x => Nat.le_trans ?_ (q1 x), Nat.le_trans ?_ q2⟩
      · unfold rackN
        rw [f8, e8, nI_1, cl_nI (by omega), cl_nI (by omega)]
        have hz : rackB R x nl = false := by
          unfold rackB hangs
          rw [show ltx R nl 10 = 0 from (fp (43 + 15 * nl + 10) (by omega) (by omega) (by omega)).trans z10]
          rfl
        rw [cnt_f hz]
        exact cnt_mono (fun l hl z => by
          unfold rackB hangs at z ⊢
          rw [show ltx R l 10 = ltx r l 10 from fp (43 + 15 * l + 10) (by omega) (by omega) (by omega), show ltx R l 0 = ltx r l 0 from fp (43 + 15 * l + 0) (by omega) (by omega) (by omega)] at z
          exact z)
      · unfold unsN
        rw [fp 9 (by omega) (by omega) (by omega), e9, cl_nI (by omega)]
        exact cnt_mono (fun i hi z => by
          rw [show od R i 4 = od r i 4 from fp (343 + 5 * i + 4) (by omega) (by omega) (by omega)] at z
          exact z)
theorem Ok2_order {r : Nat → Int32} {a b c d : Int32} (k : Ok r) (k2 : Ok2 r) : Ok2 (F_order r a b c d).2 := by
  unfold F_order
  cases hb : rngB 0 20000 a && (rngB 0 20000 b && (rngB 0 20000 c && rngB 0 20000 d)) with
  | false => exact k2
  | true =>
    cases hc : decide (r 9 < 60) && decide (nI (unsN r) < 8) with
    | false => exact k2
    | true =>
      obtain ⟨nv, nl, no, hnv, hnl, hno, e7, e8, e9, -⟩ := id k
      have h6 := of_decide_eq_true (Bool.and_eq_true_iff.mp hc).1
      have h8 := of_decide_eq_true (Bool.and_eq_true_iff.mp hc).2
      obtain ⟨q1, q2⟩ := k2
      have h88 : unsN r < 8 := (nI_ltI (b := 8) (by omega) (by omega)).mp h8
      rw [e9] at h6
      have hno6 : no < 60 := (nI_ltI (b := 60) (by omega) (by omega)).mp h6
      rw [e9, cl_nI (by omega)]
      show Ok2 (upd (upd (upd (upd (upd r (343 + 5 * no + 0) a) (343 + 5 * no + 1) b) (343 + 5 * no + 2) c) (343 + 5 * no + 3) d) 9 (nI no + 1))
      have fp : ∀ p, p ≠ 9 → (p < 343 + 5 * no ∨ 343 + 5 * no + 3 < p) → upd (upd (upd (upd (upd r (343 + 5 * no + 0) a) (343 + 5 * no + 1) b) (343 + 5 * no + 2) c) (343 + 5 * no + 3) d) 9 (nI no + 1) p = r p := fun p a b => by rw [upd_n a, upd_n (by omega), upd_n (by omega), upd_n (by omega), upd_n (by omega)]
      have f9 : upd (upd (upd (upd (upd r (343 + 5 * no + 0) a) (343 + 5 * no + 1) b) (343 + 5 * no + 2) c) (343 + 5 * no + 3) d) 9 (nI no + 1) 9 = nI no + 1 := upd_s
      generalize upd (upd (upd (upd (upd r (343 + 5 * no + 0) a) (343 + 5 * no + 1) b) (343 + 5 * no + 2) c) (343 + 5 * no + 3) d) 9 (nI no + 1) = R at fp f9 ⊢
      refine ⟨fun x => Nat.le_trans ?_ (q1 x), ?_⟩
      · unfold rackN
        rw [fp 8 (by omega) (by omega), e8, cl_nI (by omega)]
        exact cnt_mono (fun l hl z => by
          unfold rackB hangs at z ⊢
          rw [show ltx R l 10 = ltx r l 10 from fp (43 + 15 * l + 10) (by omega) (by omega), show ltx R l 0 = ltx r l 0 from fp (43 + 15 * l + 0) (by omega) (by omega)] at z
          exact z)
      · unfold unsN at h88 ⊢
        rw [e9, cl_nI (by omega)] at h88
        rw [f9, nI_1, cl_nI (by omega)]
        have q := cnt_one (p := fun o => decide (od R o 4 = 0)) (q := fun o => decide (od r o 4 = 0)) (l := no) (n := no) (fun i hi n z => by
          rw [show od R i 4 = od r i 4 from fp (343 + 5 * i + 4) (by omega) (by omega)] at z
          exact z)
        have q3 := cnt_mono (p := fun o => decide (od R o 4 = 0)) (q := fun o => decide (od r o 4 = 0)) (n := no) (fun i hi z => by
          rw [show od R i 4 = od r i 4 from fp (343 + 5 * i + 4) (by omega) (by omega)] at z
          exact z)
        have q4 := cnt_suc (p := fun o => decide (od R o 4 = 0)) (n := no)
        omega
theorem Ok2_work {kc : Nat} {r : Nat → Int32} {a b : Int32} (k : Ok r) (k2 : Ok2 r) : Ok2 (F_work kc r a b).2 := by
  unfold F_work
  split
  · exact Ok2_dip k k2
  · exact Ok2_drain k k2
  · exact Ok2_hang k k2
  · exact Ok2_rinse k k2
  · exact Ok2_sell k k2
  · exact Ok2_take k k2
  · exact k2
