theorem rin_15 {r : Nat → Int32} {l d : Nat} : ∀ {n : Nat}, n ≤ 4 → l < 20 → d < n → rinR r l n (15 + d) = r (15 + d) + ltx r l (6 + d) ∧ rinR r l n (43 + 15 * l + (6 + d)) = 0
  | 0, _, _, h => absurd h (by omega)
  | n + 1, hn, hl, h => by
    show upd (upd (rinR r l n) (15 + n) (rinR r l n (15 + n) + rinR r l n (43 + 15 * l + (6 + n)))) (43 + 15 * l + (6 + n)) 0 (15 + d) = _ ∧ upd (upd (rinR r l n) (15 + n) (rinR r l n (15 + n) + rinR r l n (43 + 15 * l + (6 + n)))) (43 + 15 * l + (6 + n)) 0 (43 + 15 * l + (6 + d)) = 0
    by_cases e : d = n
    · subst e
      refine ⟨?_, upd_s⟩
      rw [upd_n (by omega), upd_s, rin_o (by omega) hl (fun m hm => by omega), rin_o (by omega) hl (fun m hm => by omega)]
      rfl
    · obtain ⟨a, b⟩ := rin_15 (r := r) (n := n) (by omega) hl (show d < n by omega)
      refine ⟨?_, ?_⟩
      · rw [upd_n (by omega), upd_n (by omega)]
        exact a
      · rw [upd_n (by omega), upd_n (by omega)]
        exact b
theorem lsum_one {r r2 : Nat → Int32} {j d : Nat} (h8 : r2 8 = r 8) (hj : j < cl (r 8)) (h : ∀ l, l < cl (r 8) → l ≠ j → ltx r2 l (2 + d) = ltx r l (2 + d) ∧ ltx r2 l (6 + d) = ltx r l (6 + d)) : lsum r2 d = lsum r d + ((ltx r2 j (2 + d) + ltx r2 j (6 + d)) - (ltx r j (2 + d) + ltx r j (6 + d))) := by
  unfold lsum
  rw [h8, sumP_one (p := fun _ => true) (q := fun _ => true) (g := fun l => ltx r2 l (2 + d) + ltx r2 l (6 + d)) (f := fun l => ltx r l (2 + d) + ltx r l (6 + d)) (n := cl (r 8)) hj (fun l h1 h2 => ⟨rfl, by rw [(h l h1 h2).1, (h l h1 h2).2]⟩)]
  rfl
theorem vsum_ext {r r2 : Nat → Int32} {d : Nat} (h7 : r2 7 = r 7) (h : ∀ v, v < cl (r 7) → vt r2 v 0 = vt r v 0 ∧ vt r2 v 2 = vt r v 2) : vsum r2 d = vsum r d := by
  unfold vsum
  rw [h7]
  exact sumP_ext (fun v hv => ⟨by rw [(h v hv).1], fun _ => (h v hv).2⟩)
theorem Snd_rin {r : Nat → Int32} {j : Nat} (o : Ok r) (k : Snd r) (hj : j < cl (r 8)) : Snd (rinR r j 4) := by
  have j20 := (o.lk hj).1
  have c7 := cl_le7 o
  have c8 := (cl_le o).1
  have fp : ∀ p, (∀ m, m < 4 → p ≠ 15 + m ∧ p ≠ 43 + 15 * j + (6 + m)) → rinR r j 4 p = r p := fun p h => rin_o (by omega) j20 h
  have f15 : ∀ d, d < 4 → rinR r j 4 (15 + d) = r (15 + d) + ltx r j (6 + d) ∧ rinR r j 4 (43 + 15 * j + (6 + d)) = 0 := fun d hd => rin_15 (by omega) j20 hd
  generalize rinR r j 4 = R at fp f15 ⊢
  refine k.of o (fp 8 (fun m hm => by omega)) (fp 9 (fun m hm => by omega)) (fun d hd q => ?_) (fun q => q.ext o (fp 8 (fun m hm => by omega)) (fp 10 (fun m hm => by omega)) (fun l hl => fp _ (fun m hm => by omega))) (fun l hl => fp _ (fun m hm => by omega)) (fun i hi => fp _ (fun m hm => by omega)) (fun l hl => ?_)
  · unfold Acc at q ⊢
    obtain ⟨a, b⟩ := f15 d hd
    rw [vsum_ext (fp 7 (fun m hm => by omega)) (fun v hv => ⟨fp _ (fun m hm => by omega), fp _ (fun m hm => by omega)⟩), lsum_one (fp 8 (fun m hm => by omega)) hj (fun l h1 h2 => ⟨fp _ (fun m hm => by omega), fp _ (fun m hm => by omega)⟩), show ltx R j (2 + d) = ltx r j (2 + d) from fp _ (fun m hm => by omega), show ltx R j (6 + d) = 0 from b, a, fp (11 + d) (fun m hm => by omega)]
    grind
  · rw [show ltx R l 10 = ltx r l 10 from fp _ (fun m hm => by omega), show ltx R l 11 = ltx r l 11 from fp _ (fun m hm => by omega), show ltx R l 12 = ltx r l 12 from fp _ (fun m hm => by omega)]
    exact ⟨fun _ q => q, fun _ q => q, fun q => q⟩
theorem Snd_rinse {r : Nat → Int32} {w : Int32} (o : Ok r) (k : Snd r) : Snd (F_rinse r w).2 := by
  unfold F_rinse
  cases hb : okB (r 8) w with
  | false => exact k
  | true =>
    obtain ⟨j, hj, hj2, rfl, hlo⟩ := o.l hb
    rw [cl_nI (by omega)]
    cases sold r j || hangs r j with
    | true => exact k
    | false => exact Snd_rin o k hj
theorem soakF_dk {x y r : Nat → Int32} {d : Nat} {t : Int32} (hd : d < 4) (h : x 12 = 0 ∨ x 11 = 0) : soakF x y r d t 12 = 0 ∨ soakF x y r d t 11 = 0 := by
  unfold soakF
  by_cases z : savP x r d t (spoV x y r d t)
  · rw [if_pos z]
    exact Or.inr (by rw [upd_n (by omega), upd_s])
  · rw [if_neg z, upd_s, upd_n (by omega), soakG_m (by omega) (by omega) (by omega)]
    unfold spoV
    by_cases s : spoP x y r d t
    · exact Or.inl s.1
    · rw [if_neg s]
      exact h
theorem dye_10 {r : Nat → Int32} {l v : Nat} : dyeR r l v 10 = r 10 + 1 := by
  unfold dyeR
  rw [rowL_out (by omega), rowV_out (by omega), upd_s]
theorem Snd_dye {r : Nat → Int32} {l v : Nat} (o : Ok r) (k : Snd r) (hl : l < cl (r 8)) (hv : v < cl (r 7)) (hs : ltx r l 13 = 0) : Snd (dyeR r l v) := by
  obtain ⟨l20, hlo⟩ := o.lk hl
  obtain ⟨v6, hvo⟩ := o.vk hv
  obtain ⟨⟨d, hd, ed⟩, v1, v2, v3⟩ := id hvo
  have c7 := cl_le7 o
  have c8 := (cl_le o).1
  have ec : cl (vt r v 0) = d := by rw [ed, cl_nI (by omega)]
  have gl := soakG_l (x := ltx r l) (r := r) (t := tkR r l v) hd
  have y2 : vt (dyeR r l v) v 2 = vt r v 2 - tkR r l v := by
    rw [dye_vv v6 (by omega)]
    exact (upd_n (by omega)).trans upd_s
  have y0 : vt (dyeR r l v) v 0 = vt r v 0 := by
    rw [dye_vv v6 (by omega)]
    exact (upd_n (by omega)).trans (upd_n (by omega))
  have y0w : ∀ w, w < 6 → vt (dyeR r l v) w 0 = vt r w 0 := fun w hw => by
    by_cases e : w = v
    · rw [e]
      exact y0
    · exact dye_vt hw (by omega) e
  have x2 : ltx (dyeR r l v) l (2 + d) = ltx r l (2 + d) + (tkR r l v - tkR r l v * r 5 / 100) := by
    rw [dye_ll (by omega), soakF_o (by omega) (by omega), ec, gl.2]
  have x6 : ltx (dyeR r l v) l (6 + d) = ltx r l (6 + d) + tkR r l v * r 5 / 100 := by
    rw [dye_ll (by omega), soakF_o (by omega) (by omega), ec, gl.1]
  have xo : ∀ j, j < 14 → j ≠ 11 → j ≠ 12 → j ≠ 2 + d → j ≠ 6 + d → ltx (dyeR r l v) l j = ltx r l j := fun j h0 h1 h2 h3 h4 => by
    rw [dye_ll (by omega), soakF_o h1 h2, ec, soakG_m h0 h4 h3]
  have x14 : ltx (dyeR r l v) l 14 = ltx r l 14 + 1 := by
    rw [dye_ll (by omega), soakF_o (by omega) (by omega)]
    unfold soakG
    exact upd_s
  have xd : (ltx r l 12 = 0 ∨ ltx r l 11 = 0) → ltx (dyeR r l v) l 12 = 0 ∨ ltx (dyeR r l v) l 11 = 0 := fun q => by
    rw [dye_ll (by omega), dye_ll (by omega), ec]
    exact soakF_dk hd q
  have fl : ∀ m i, m < 20 → i < 15 → m ≠ l → ltx (dyeR r l v) m i = ltx r m i := fun m i h1 h2 h3 => dye_lt v6 h2 h3
  have h10 := dye_10 (r := r) (l := l) (v := v)
  have lo : ∀ p, p < 19 → p ≠ 10 → dyeR r l v p = r p := fun p h1 h2 => dye_lo h1 h2
  have fo : ∀ i, od (dyeR r l v) i 4 = od r i 4 := fun i => dye_od l20 v6
  have fv : ∀ w i, w < 6 → i < 4 → w ≠ v → vt (dyeR r l v) w i = vt r w i := fun w i h1 h2 h3 => dye_vt h1 h2 h3
  generalize dyeR r l v = R at y2 y0 y0w x2 x6 xo x14 xd fl h10 lo fo fv ⊢
  refine k.of o (lo 8 (by omega) (by omega)) (lo 9 (by omega) (by omega)) (fun e he q => ?_) (fun q => ?_) (fun m hm => ?_) (fun i hi => fo i) (fun m hm => ?_)
  · unfold Acc at q ⊢
    rw [vsum_one (lo 7 (by omega) (by omega)) hv (fun w h => y0w w (by omega)) (fun w h h2 => fv w 2 (by omega) (by omega) h2), lsum_one (lo 8 (by omega) (by omega)) hl (fun m h1 h2 => ⟨fl m _ (by omega) (by omega) h2, fl m _ (by omega) (by omega) h2⟩), lo (11 + e) (by omega) (by omega), lo (15 + e) (by omega) (by omega), y2, ed]
    by_cases z : d = e
    · subst z
      rw [x2, x6, decide_eq_true rfl]
      simp only [cond_true]
      generalize tkR r l v * r 5 / 100 = u
      grind
    · have zz : ¬ nI d = nI e := fun y => z ((nI_eq (by omega) (by omega)).mp y)
      rw [decide_eq_false zz, xo (2 + e) (by omega) (by omega) (by omega) (by omega) (by omega), xo (6 + e) (by omega) (by omega) (by omega) (by omega) (by omega)]
      simp only [cond_false]
      grind
  · unfold Dps at q ⊢
    rw [lo 8 (by omega) (by omega), h10, sumP_one (p := fun _ => true) (q := fun _ => true) (g := fun m => ltx R m 14) (f := fun m => ltx r m 14) (n := cl (r 8)) hl (fun m h1 h2 => ⟨rfl, fl m 14 (by omega) (by omega) h2⟩), q, x14]
    simp only [cond_true]
    grind
  · by_cases e : m = l
    · rw [e]
      exact xo 13 (by omega) (by omega) (by omega) (by omega) (by omega)
    · exact fl m 13 hm (by omega) e
  · by_cases e : m = l
    · subst e
      exact ⟨fun z => absurd hs z, fun z => absurd hs z, xd⟩
    · rw [fl m 10 hm (by omega) e, fl m 11 hm (by omega) e, fl m 12 hm (by omega) e]
      exact ⟨fun _ q => q, fun _ q => q, fun q => q⟩
theorem Snd_dip {r : Nat → Int32} {w x : Int32} (o : Ok r) (k : Snd r) : Snd (F_dip r w x).2 := by
  unfold F_dip
  cases hb : okB (r 8) w && okB (r 7) x with
  | false => exact k
  | true =>
    obtain ⟨j, hj, hj2, rfl, hlo⟩ := o.l (Bool.and_eq_true_iff.mp hb).1
    obtain ⟨i, hi, hi2, rfl, hvo⟩ := o.v (Bool.and_eq_true_iff.mp hb).2
    rw [cl_nI (by omega), cl_nI (by omega)]
    cases hs : sold r j || (hangs r j || decide (vt r i 2 ≤ 0)) with
    | true => exact k
    | false =>
      have hs1 := (Bool.or_eq_false_iff.mp hs).1
      unfold sold at hs1
      exact Snd_dye o k hj hi (Classical.byContradiction (of_decide_eq_false hs1))
theorem Snd_work {kc : Nat} {r : Nat → Int32} {a b : Int32} (o : Ok r) (k : Snd r) : Snd (F_work kc r a b).2 := by
  unfold F_work
  split
  · exact Snd_dip o k
  · exact Snd_drain o k
  · exact Snd_hang o k
  · exact Snd_rinse o k
  · exact Snd_sell o k
  · exact Snd_take o k
  · exact k
theorem Snd_0 : Snd row0 := by
  refine ⟨fun d hd => ?_, ?_, ?_, fun l hl => ?_⟩
  · have e : ∀ j, 7 ≤ j → row0 j = 0 := fun j hj => if_neg (by omega)
    unfold Acc vsum lsum
    rw [e 7 (by omega), e 8 (by omega), e (11 + d) (by omega), e (15 + d) (by omega)]
    rfl
  · rfl
  · unfold Cnt unsN
    rw [show row0 8 = nI 0 from rfl, show row0 9 = nI 0 from rfl, cl_nI (by omega)]
    rfl
  · rw [show row0 8 = nI 0 from rfl, cl_nI (by omega)] at hl
    omega
