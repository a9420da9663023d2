theorem sumP_suc {g : Nat → Int32} {n : Nat} : sumP (fun _ => true) g (n + 1) = sumP (fun _ => true) g n + g n := rfl
theorem Snd_lot {r : Nat → Int32} {c w : Int32} (o : Ok r) (k : Snd r) : Snd (F_lot r c w).2 := by
  unfold F_lot
  cases hb : rngB 0 1 c && rngB 100 5000 w with
  | false => exact k
  | true =>
    cases hc : decide (r 8 < 20) with
    | false => exact k
    | true =>
      obtain ⟨nv, nl, no, hnv, hnl, hno, e7, e8, e9, -, -, -, -, hlz, -⟩ := id o
      have h6 := of_decide_eq_true hc
      rw [e8] at h6
      have h66 : nl < 20 := (nI_ltI (b := 20) (by omega) (by omega)).mp h6
      rw [e8, cl_nI (by omega)]
      show Snd (upd (upd (upd r (43 + 15 * nl + 0) c) (43 + 15 * nl + 1) w) 8 (nI nl + 1))
      have fp : ∀ p, p ≠ 43 + 15 * nl + 0 → p ≠ 43 + 15 * nl + 1 → p ≠ 8 → upd (upd (upd r (43 + 15 * nl + 0) c) (43 + 15 * nl + 1) w) 8 (nI nl + 1) p = r p := fun p a b c2 => by rw [upd_n c2, upd_n b, upd_n a]
      have f8 : upd (upd (upd r (43 + 15 * nl + 0) c) (43 + 15 * nl + 1) w) 8 (nI nl + 1) 8 = nI (nl + 1) := upd_s.trans (nI_1 nl)
      generalize upd (upd (upd r (43 + 15 * nl + 0) c) (43 + 15 * nl + 1) w) 8 (nI nl + 1) = R at fp f8 ⊢
      have fz : ∀ i, 2 ≤ i → i < 15 → ltx R nl i = 0 := fun i h1 h2 => (fp _ (by omega) (by omega) (by omega)).trans (hlz nl (Nat.le_refl _) h66 i h2)
      have fl : ∀ l i, l < nl → i < 15 → ltx R l i = ltx r l i := fun l i h1 h2 => fp _ (by omega) (by omega) (by omega)
      have fo : ∀ i, od R i 4 = od r i 4 := fun i => fp _ (by omega) (by omega) (by omega)
      obtain ⟨ka, kd, kc, kl⟩ := k
      have z0 : sold R nl = false := by
        unfold sold
        rw [fz 13 (by omega) (by omega)]
        rfl
      refine ⟨fun d hd => ?_, ?_, ?_, fun l hl => ?_⟩
      · have q := ka d hd
        unfold Acc vsum lsum at q ⊢
        rw [e7, e8, cl_nI (by omega), cl_nI (by omega)] at q
        rw [f8, fp 7 (by omega) (by omega) (by omega), e7, cl_nI (by omega), cl_nI (by omega), sumP_suc, fz (2 + d) (by omega) (by omega), fz (6 + d) (by omega) (by omega), fp (11 + d) (by omega) (by omega) (by omega), fp (15 + d) (by omega) (by omega) (by omega), sumP_ext (p := fun v => decide (vt R v 0 = nI d)) (q := fun v => decide (vt r v 0 = nI d)) (g := fun v => vt R v 2) (f := fun v => vt r v 2) (n := nv) (fun v h => ⟨by rw [show vt R v 0 = vt r v 0 from fp _ (by omega) (by omega) (by omega)], fun _ => fp _ (by omega) (by omega) (by omega)⟩), sumP_ext (p := fun _ => true) (q := fun _ => true) (g := fun l => ltx R l (2 + d) + ltx R l (6 + d)) (f := fun l => ltx r l (2 + d) + ltx r l (6 + d)) (n := nl) (fun l h => ⟨rfl, fun _ => by rw [fl l _ h (by omega), fl l _ h (by omega)]⟩)]
        rw [q]
        grind
      · unfold Dps at kd ⊢
        rw [e8, cl_nI (by omega)] at kd
        rw [f8, cl_nI (by omega), sumP_suc, fz 14 (by omega) (by omega), fp 10 (by omega) (by omega) (by omega), sumP_ext (p := fun _ => true) (q := fun _ => true) (g := fun l => ltx R l 14) (f := fun l => ltx r l 14) (n := nl) (fun l h => ⟨rfl, fun _ => fl l _ h (by omega)⟩), kd]
        exact Int32.add_zero _
      · unfold Cnt unsN at kc ⊢
        rw [e8, e9, cl_nI (by omega), cl_nI (by omega)] at kc
        rw [f8, fp 9 (by omega) (by omega) (by omega), e9, cl_nI (by omega), cl_nI (by omega), cnt_f z0, cnt_ext (p := sold R) (q := sold r) (n := nl) (fun l h => by unfold sold; rw [fl l 13 h (by omega)]), cnt_ext (p := fun i => decide (od R i 4 = 0)) (q := fun i => decide (od r i 4 = 0)) (n := no) (fun i h => by rw [fo i])]
        exact kc
      · rw [f8, cl_nI (by omega)] at hl
        rw [e8, cl_nI (by omega)] at kl
        by_cases e : l = nl
        · subst e
          refine ⟨fun z => absurd (fz 13 (by omega) (by omega)) z, Or.inl (fz 12 (by omega) (by omega))⟩
        · obtain ⟨a, b⟩ := kl l (by omega)
          refine ⟨fun z => ?_, ?_⟩
          · rw [fl l 13 (by omega) (by omega)] at z ⊢
            rw [fl l 10 (by omega) (by omega), fl l 11 (by omega) (by omega), fp 9 (by omega) (by omega) (by omega)]
            obtain ⟨a1, a2, i, a3, a4, a5⟩ := a z
            exact ⟨a1, a2, i, a3, a4, (fo i).trans a5⟩
          · rw [fl l 11 (by omega) (by omega), fl l 12 (by omega) (by omega)]
            exact b
theorem Snd_order {r : Nat → Int32} {a b c d : Int32} (o : Ok r) (k : Snd r) : Snd (F_order r a b c d).2 := by
  unfold F_order
  cases hb : rngB 0 20000 a && (rngB 0 20000 b && (rngB 0 20000 c && rngB 0 20000 d)) with
  | false => exact k
  | true =>
    cases hc : decide (r 9 < 60) && decide (nI (unsN r) < 8) with
    | false => exact k
    | true =>
      obtain ⟨nv, nl, no, hnv, hnl, hno, f7, f8, f9, kset, kvok, kvz, klok, klz, kok, koz, kw⟩ := id o
      have h6 := of_decide_eq_true (Bool.and_eq_true_iff.mp hc).1
      rw [f9] at h6
      have hno6 : no < 60 := (nI_ltI (b := 60) (by omega) (by omega)).mp h6
      rw [f9, cl_nI (by omega)]
      show Snd (upd (upd (upd (upd (upd r (343 + 5 * no + 0) a) (343 + 5 * no + 1) b) (343 + 5 * no + 2) c) (343 + 5 * no + 3) d) 9 (nI no + 1))
      have fp : ∀ p, p ≠ 9 → (p < 343 + 5 * no ∨ 343 + 5 * no + 3 < p) → upd (upd (upd (upd (upd r (343 + 5 * no + 0) a) (343 + 5 * no + 1) b) (343 + 5 * no + 2) c) (343 + 5 * no + 3) d) 9 (nI no + 1) p = r p := fun p h1 h2 => (upd_n h1).trans ((upd_n (by omega)).trans ((upd_n (by omega)).trans ((upd_n (by omega)).trans (upd_n (by omega)))))
      have e9n : (upd (upd (upd (upd (upd r (343 + 5 * no + 0) a) (343 + 5 * no + 1) b) (343 + 5 * no + 2) c) (343 + 5 * no + 3) d) 9 (nI no + 1)) 9 = nI (no + 1) := upd_s.trans (nI_1 no)
      generalize upd (upd (upd (upd (upd r (343 + 5 * no + 0) a) (343 + 5 * no + 1) b) (343 + 5 * no + 2) c) (343 + 5 * no + 3) d) 9 (nI no + 1) = R at fp e9n ⊢
      obtain ⟨ka, kd, kc, kl⟩ := k
      have fo : ∀ i, od R i 4 = od r i 4 := fun i => fp _ (by omega) (by omega)
      have fl : ∀ l i, l < 20 → i < 15 → ltx R l i = ltx r l i := fun l i h1 h2 => fp _ (by omega) (by omega)
      refine ⟨fun d hd => (ka d hd).ext o (fp 7 (by omega) (by omega)) (fp 8 (by omega) (by omega)) (fp _ (by omega) (by omega)) (fp _ (by omega) (by omega)) (fun v hv => ⟨fp _ (by omega) (by omega), fp _ (by omega) (by omega)⟩) (fun l hl => ⟨fl l _ hl (by omega), fl l _ hl (by omega)⟩), kd.ext o (fp 8 (by omega) (by omega)) (fp 10 (by omega) (by omega)) (fun l hl => fl l _ hl (by omega)), ?_, fun l hl => ?_⟩
      · unfold Cnt unsN at kc ⊢
        rw [f8, f9, cl_nI (by omega), cl_nI (by omega)] at kc
        have z4 : decide (od R no 4 = 0) = true := decide_eq_true ((fo no).trans (koz no (Nat.le_refl _) hno6 4 (by omega)))
        rw [fp 8 (by omega) (by omega), f8, e9n, cl_nI (by omega), cl_nI (by omega), cnt_ext (p := sold R) (q := sold r) (n := nl) (fun l h => by unfold sold; rw [fl l 13 (by omega) (by omega)])]
        show _ + cond (decide (od R no 4 = 0)) (_ + 1) _ = _
        rw [z4, cnt_ext (p := fun i => decide (od R i 4 = 0)) (q := fun i => decide (od r i 4 = 0)) (n := no) (fun i h => by rw [fo i])]
        simp only [cond_true]
        omega
      · rw [fp 8 (by omega) (by omega)] at hl
        have l20 := (o.lk hl).1
        obtain ⟨a, b⟩ := kl l hl
        refine ⟨fun z => ?_, ?_⟩
        · rw [fl l 13 (by omega) (by omega)] at z ⊢
          rw [fl l 10 (by omega) (by omega), fl l 11 (by omega) (by omega), e9n, cl_nI (by omega)]
          obtain ⟨a1, a2, i, a3, a4, a5⟩ := a z
          rw [f9, cl_nI (by omega)] at a3
          exact ⟨a1, a2, i, by omega, a4, (fo i).trans a5⟩
        · rw [fl l 11 (by omega) (by omega), fl l 12 (by omega) (by omega)]
          exact b
theorem Snd_sell {r : Nat → Int32} {w x : Int32} (o : Ok r) (k : Snd r) : Snd (F_sell r w x).2 := by
  unfold F_sell
  cases hb : okB (r 8) w && okB (r 9) x with
  | false => exact k
  | true =>
    obtain ⟨j, hj, hj2, rfl, hlo⟩ := o.l (Bool.and_eq_true_iff.mp hb).1
    obtain ⟨i, hi, hi2, rfl, hbz⟩ := o.o (Bool.and_eq_true_iff.mp hb).2
    rw [cl_nI (by omega), cl_nI (by omega)]
    cases hs : sold r j || (!hangs r j || (decide (¬ od r i 4 = 0) || !fitB (ltx r j) (od r i) r)) with
    | true => exact k
    | false =>
      show Snd (upd (upd (upd r (43 + 15 * j + 13) (nI i + 1)) (43 + 15 * j + 10) 0) (343 + 5 * i + 4) 1)
      have fp : ∀ p, p ≠ 43 + 15 * j + 13 → p ≠ 43 + 15 * j + 10 → p ≠ 343 + 5 * i + 4 → upd (upd (upd r (43 + 15 * j + 13) (nI i + 1)) (43 + 15 * j + 10) 0) (343 + 5 * i + 4) 1 p = r p := fun p a b c => by rw [upd_n c, upd_n b, upd_n a]
      have f10 : upd (upd (upd r (43 + 15 * j + 13) (nI i + 1)) (43 + 15 * j + 10) 0) (343 + 5 * i + 4) 1 (43 + 15 * j + 10) = 0 := by rw [upd_n (by omega), upd_s]
      have f13 : upd (upd (upd r (43 + 15 * j + 13) (nI i + 1)) (43 + 15 * j + 10) 0) (343 + 5 * i + 4) 1 (43 + 15 * j + 13) = nI (i + 1) := by rw [upd_n (by omega), upd_n (by omega), upd_s, nI_1]
      have f4 : upd (upd (upd r (43 + 15 * j + 13) (nI i + 1)) (43 + 15 * j + 10) 0) (343 + 5 * i + 4) 1 (343 + 5 * i + 4) = 1 := upd_s
      generalize upd (upd (upd r (43 + 15 * j + 13) (nI i + 1)) (43 + 15 * j + 10) 0) (343 + 5 * i + 4) 1 = R at fp f10 f13 f4 ⊢
      obtain ⟨hs1, hs2⟩ := Bool.or_eq_false_iff.mp hs
      obtain ⟨hs3, hs4⟩ := Bool.or_eq_false_iff.mp (Bool.or_eq_false_iff.mp hs2).2
      have hfit : fit (ltx r j) (od r i) r := by
        have z : fitB (ltx r j) (od r i) r = true := by
          cases h : fitB (ltx r j) (od r i) r with
          | true => rfl
          | false =>
            rw [h] at hs4
            cases hs4
        exact fitB_i.mp z
      have hser : od r i 4 = 0 := Classical.byContradiction (of_decide_eq_false hs3)
      have hun : ltx r j 13 = 0 := by
        unfold sold at hs1
        exact Classical.byContradiction (of_decide_eq_false hs1)
      have n13 : ¬ nI (i + 1) = 0 := by
        have e0 : (0 : Int32) = nI 0 := by decide
        rw [e0]
        intro z
        have := (nI_eq (by omega) (by omega)).mp z
        omega
      obtain ⟨c8, c9⟩ := cl_le o
      obtain ⟨ka, kd, kc, kl⟩ := k
      have fl : ∀ l m, l < 20 → m < 15 → m ≠ 13 → m ≠ 10 → ltx R l m = ltx r l m := fun l m h1 h2 h3 h4 => fp _ (by omega) (by omega) (by omega)
      have fl2 : ∀ l m, l < 20 → m < 15 → l ≠ j → ltx R l m = ltx r l m := fun l m h1 h2 h3 => fp _ (by omega) (by omega) (by omega)
      refine ⟨fun d hd => (ka d hd).ext o (fp 7 (by omega) (by omega) (by omega)) (fp 8 (by omega) (by omega) (by omega)) (fp _ (by omega) (by omega) (by omega)) (fp _ (by omega) (by omega) (by omega)) (fun v hv => ⟨fp _ (by omega) (by omega) (by omega), fp _ (by omega) (by omega) (by omega)⟩) (fun l hl => ⟨fl l _ hl (by omega) (by omega) (by omega), fl l _ hl (by omega) (by omega) (by omega)⟩), kd.ext o (fp 8 (by omega) (by omega) (by omega)) (fp 10 (by omega) (by omega) (by omega)) (fun l hl => fl l _ hl (by omega) (by omega) (by omega)), ?_, fun l hl => ?_⟩
      · unfold Cnt unsN at kc ⊢
        rw [fp 8 (by omega) (by omega) (by omega), fp 9 (by omega) (by omega) (by omega)]
        have u1 := cnt_up (p := sold R) (q := sold r) (j := j) (n := cl (r 8)) hj (by
          unfold sold
          rw [show ltx R j 13 = nI (i + 1) from f13]
          exact decide_eq_true n13) hs1 (fun l h1 h2 => by
          unfold sold
          rw [fl2 l 13 (by omega) (by omega) h2])
        have u2 := cnt_up (p := fun i => decide (od r i 4 = 0)) (q := fun i => decide (od R i 4 = 0)) (j := i) (n := cl (r 9)) hi (decide_eq_true hser) (by
          show decide (od R i 4 = 0) = false
          rw [show od R i 4 = 1 from f4]
          rfl) (fun m h1 h2 => by
          rw [show od R m 4 = od r m 4 from fp _ (by omega) (by omega) (by omega)])
        omega
      · rw [fp 8 (by omega) (by omega) (by omega)] at hl
        have l20 := (o.lk hl).1
        obtain ⟨a, b⟩ := kl l hl
        refine ⟨fun z => ?_, ?_⟩
        · rw [fp 9 (by omega) (by omega) (by omega)]
          by_cases e : l = j
          · subst e
            exact ⟨f10, (fl l 11 (by omega) (by omega) (by omega) (by omega)).trans hfit.1, i, hi, f13, f4⟩
          · rw [fl2 l 13 l20 (by omega) e] at z ⊢
            rw [fl2 l 10 l20 (by omega) e, fl2 l 11 l20 (by omega) e]
            obtain ⟨a1, a2, m, a3, a4, a5⟩ := a z
            refine ⟨a1, a2, m, a3, a4, ?_⟩
            by_cases e2 : m = i
            · subst e2
              exact f4
            · exact (fp (343 + 5 * m + 4) (by omega) (by omega) (by omega)).trans a5
        · rw [fl l 11 l20 (by omega) (by omega) (by omega), fl l 12 l20 (by omega) (by omega) (by omega)]
          exact b
