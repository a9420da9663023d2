theorem dist_c {a b c d : Int32} (h1 : a = c) (h2 : b = d) : dist a b = dist c d := by rw [h1, h2]
theorem shF_ext {x y : Nat → Int32} {d : Nat} (hd : d < 4) (h : ∀ i, i < 10 → y i = x i) : shF y d = shF x d := by
  unfold shF
  rw [h (2 + d) (by omega), h (6 + d) (by omega), h 1 (by omega)]
theorem fit_ext {x y o o2 r r2 : Nat → Int32} (h : ∀ i, i < 10 → y i = x i) (h11 : y 11 = x 11) (ho : ∀ d, d < 4 → o2 d = o d) (h4 : r2 4 = r 4) : fit y o2 r2 ↔ fit x o r := by
  unfold fit
  rw [h11, h4]
  constructor
  · rintro ⟨a, b⟩
    exact ⟨a, fun d hd => by rw [← shF_ext hd h, ← ho d hd]; exact b d hd⟩
  · rintro ⟨a, b⟩
    exact ⟨a, fun d hd => by rw [shF_ext hd h, ho d hd]; exact b d hd⟩
theorem fitB_ext {x y o o2 r r2 : Nat → Int32} (h : ∀ i, i < 10 → y i = x i) (h11 : y 11 = x 11) (ho : ∀ d, d < 4 → o2 d = o d) (h4 : r2 4 = r 4) : fitB y o2 r2 = fitB x o r := by
  have q := fit_ext (r := r) (r2 := r2) h h11 ho h4
  cases hb : fitB x o r with
  | true => exact fitB_i.mpr (q.mpr (fitB_i.mp hb))
  | false =>
    cases hc : fitB y o2 r2 with
    | false => rfl
    | true =>
      rw [fitB_i.mpr (q.mp (fitB_i.mp hc))] at hb
      cases hb
theorem sumI_ext {g f : Nat → Int32} : ∀ {k : Nat}, (∀ j, j < k → g j = f j) → sumI g k = sumI f k
  | 0, _ => rfl
  | k + 1, h => by
    show sumI g k + g k = sumI f k + f k
    rw [sumI_ext (fun j hj => h j (by omega)), h k (by omega)]
theorem depC_ext {x y : Nat → Int32} (h : ∀ i, i < 10 → y i = x i) : depC y = depC x := by
  unfold depC
  rw [sumI_ext (g := fun j => y (2 + j)) (f := fun j => x (2 + j)) (k := 4) (fun j hj => h _ (by omega)), sumI_ext (g := fun j => y (6 + j)) (f := fun j => x (6 + j)) (k := 4) (fun j hj => h _ (by omega)), h 1 (by omega)]
theorem upd_cg {x y : Nat → Int32} {p i : Nat} {a b : Int32} (h : i ≠ p → y i = x i) (e : a = b) : upd y p a i = upd x p b i := by
  by_cases z : i = p
  · rw [z, upd_s, upd_s]
    exact e
  · rw [upd_n z, upd_n z]
    exact h z
theorem soakG_ext {x y r r2 : Nat → Int32} {d i : Nat} {t : Int32} (hd : d < 4) (h : ∀ j, j < 15 → j ≠ 10 → y j = x j) (h5 : r2 5 = r 5) (hi : i < 15) (hn : i ≠ 10) : soakG y r2 d t i = soakG x r d t i := by
  unfold soakG
  rw [h5]
  exact upd_cg (fun _ => upd_cg (fun _ => upd_cg (fun _ => h i hi hn) (by rw [h (6 + d) (by omega) (by omega)])) (by rw [h (2 + d) (by omega) (by omega)])) (by rw [h 14 (by omega) (by omega)])
/-- a dip asks nothing of whether the lot hangs -/
theorem soakF_ext {x y u w r r2 : Nat → Int32} {d i : Nat} {t : Int32} (hd : d < 4) (h : ∀ j, j < 15 → j ≠ 10 → y j = x j) (hu : w 3 = u 3) (hr : ∀ p, p < 7 → r2 p = r p) (hi : i < 15) (hn : i ≠ 10) : soakF y w r2 d t i = soakF x u r d t i := by
  have g : ∀ j, j < 15 → j ≠ 10 → soakG y r2 d t j = soakG x r d t j := fun j a b => soakG_ext hd h (hr 5 (by omega)) a b
  have sp : spoP y w r2 d t ↔ spoP x u r d t := by
    unfold spoP
    rw [h 12 (by omega) (by omega), hr 2 (by omega), hr 3 (by omega), hu, depC_ext (x := soakG x r d t) (y := soakG y r2 d t) (fun j hj => g j (by omega) (by omega))]
  have sv : spoV y w r2 d t = spoV x u r d t := by
    unfold spoV
    by_cases z : spoP x u r d t
    · rw [if_pos z, if_pos (sp.mpr z)]
    · rw [if_neg z, if_neg (fun q => z (sp.mp q)), h 11 (by omega) (by omega)]
  have sa : savP y r2 d t (spoV y w r2 d t) ↔ savP x r d t (spoV x u r d t) := by
    unfold savP
    rw [sv, hr 6 (by omega), shF_ext (x := soakG x r d t) (y := soakG y r2 d t) (by omega) (fun j hj => g j (by omega) (by omega))]
  unfold soakF
  by_cases z : savP x r d t (spoV x u r d t)
  · rw [if_pos z, if_pos (sa.mpr z)]
    exact upd_cg (fun _ => upd_cg (fun _ => g i hi hn) rfl) rfl
  · rw [if_neg z, if_neg (fun q => z (sa.mp q))]
    exact upd_cg (fun _ => g i hi hn) sv
/-- alike for plans of the lot l: settings, vats, and the lot but for whether it hangs -/
def Pq (l : Nat) (r r2 : Nat → Int32) : Prop := (∀ p, p < 8 → r2 p = r p) ∧ (∀ v i, v < 6 → i < 4 → vt r2 v i = vt r v i) ∧ ∀ j, j < 15 → j ≠ 10 → ltx r2 l j = ltx r l j
theorem takF_ext {r0 g li : Int32} {x y : Nat → Int32} (h0 : y 0 = x 0) (h1 : y 1 = x 1) : takF r0 y g li = takF r0 x g li := by
  unfold takF
  rw [h0, h1]
theorem Pq.tk {l v : Nat} {r r2 : Nat → Int32} (k : Pq l r r2) (hv : v < 6) : tkR r2 l v = tkR r l v := by
  obtain ⟨a, b, c⟩ := k
  unfold tkR
  rw [a 0 (by omega), b v 2 hv (by omega), b v 1 hv (by omega)]
  exact takF_ext (c 0 (by omega) (by omega)) (c 1 (by omega) (by omega))
theorem Pq.dye {l v : Nat} {r r2 : Nat → Int32} (k : Pq l r r2) (hv : v < 6) (hd : cl (vt r v 0) < 4) : Pq l (dyeR r l v) (dyeR r2 l v) := by
  have kt := k.tk hv
  obtain ⟨a, b, c⟩ := k
  refine ⟨fun p hp => ?_, fun w i hw hi => ?_, fun j hj hn => ?_⟩
  · rw [dye_lo (by omega) (by omega), dye_lo (by omega) (by omega)]
    exact a p hp
  · by_cases e : w = v
    · subst e
      rw [dye_vv hw hi, dye_vv hw hi, kt]
      unfold soakY
      exact upd_cg (fun _ => upd_cg (fun _ => b w i hw hi) (by rw [b w 2 hw (by omega)])) (by rw [b w 3 hw (by omega), c 1 (by omega) (by omega), a 1 (by omega)])
    · rw [dye_vt hw hi e, dye_vt hw hi e]
      exact b w i hw hi
  · rw [dye_ll hj, dye_ll hj, kt, b v 0 hv (by omega)]
    exact soakF_ext hd c (b v 3 hv (by omega)) (fun p hp => a p (by omega)) hj hn
theorem fstV_ext {P Q : Nat → Option (List Nat)} : ∀ {c v : Nat}, (∀ u, v ≤ u → u < v + c → P u = Q u) → fstV P v c = fstV Q v c
  | 0, _, _ => rfl
  | c + 1, v, h => by
    have ih := fstV_ext (P := P) (Q := Q) (c := c) (v := v + 1) (fun u a b => h u (by omega) (by omega))
    have e := h v (Nat.le_refl _) (by omega)
    cases hq : Q v with
    | some p => rw [fst_s hq, fst_s (e.trans hq)]
    | none => rw [fst_n hq, fst_n (e.trans hq), ih]
theorem Ok.dy {r : Nat → Int32} (o : Ok r) {v : Nat} (hv : v < cl (r 7)) : cl (vt r v 0) < 4 := by
  obtain ⟨⟨d, hd, e⟩, -⟩ := (o.vk hv).2
  rw [e, cl_nI (by omega)]
  exact hd
theorem rch_ext {l : Nat} {x x2 : Nat → Int32} (hx : ∀ d, d < 4 → x2 d = x d) : ∀ {k : Nat} {r r2 : Nat → Int32}, Ok r → l < cl (r 8) → Pq l r r2 → rch l x2 k r2 = rch l x k r
  | 0, r, r2, o, hl, q => by
    obtain ⟨a, b, c⟩ := q
    show cond (fitB (ltx r2 l) x2 r2) (some []) none = cond (fitB (ltx r l) x r) (some []) none
    rw [fitB_ext (x := ltx r l) (y := ltx r2 l) (o := x) (o2 := x2) (r := r) (r2 := r2) (fun i hi => c i (by omega) (by omega)) (c 11 (by omega) (by omega)) hx (a 4 (by omega))]
  | k + 1, r, r2, o, hl, q => by
    have c7 := cl_le7 o
    show fstV (fun v => cond (decide (0 < vt r2 v 2)) (rch l x2 k (dyeR r2 l v)) none) 0 (cl (r2 7)) = fstV (fun v => cond (decide (0 < vt r v 2)) (rch l x k (dyeR r l v)) none) 0 (cl (r 7))
    rw [q.1 7 (by omega)]
    refine fstV_ext (fun v _ hv => ?_)
    have hv7 : v < cl (r 7) := by omega
    show cond (decide (0 < vt r2 v 2)) (rch l x2 k (dyeR r2 l v)) none = cond (decide (0 < vt r v 2)) (rch l x k (dyeR r l v)) none
    rw [q.2.1 v 2 (by omega) (by omega), rch_ext hx (k := k) (Ok_dye o (o.lk hl).1 (by omega) (o.lk hl).2 (o.vk hv7).2) (by rw [dye_lo (by omega) (by omega)]; exact hl) (q.dye (by omega) (o.dy hv7))]
theorem plnF_ext {l : Nat} {x x2 r r2 : Nat → Int32} (hx : ∀ d, d < 4 → x2 d = x d) (o : Ok r) (hl : l < cl (r 8)) (q : Pq l r r2) : ∀ {c d : Nat}, plnF l x2 r2 d c = plnF l x r d c
  | 0, d => by rw [plnF, plnF]
  | c + 1, d => by
    have e := rch_ext (x := x) (x2 := x2) hx (k := d) o hl q
    have ih := plnF_ext hx o hl q (c := c) (d := d + 1)
    cases h : rch l x d r with
    | some p => rw [pln_s h, pln_s (e.trans h)]
    | none => rw [pln_n h, pln_n (e.trans h), ih]
theorem pln_some {l : Nat} {x r : Nat → Int32} : ∀ {c d k : Nat} {p : List Nat}, plnF l x r d c = some (k, p) → d ≤ k ∧ k < d + c ∧ rch l x k r = some p ∧ ∀ j, d ≤ j → j < k → rch l x j r = none
  | 0, d, k, p, h => by
    rw [plnF] at h
    cases h
  | c + 1, d, k, p, h => by
    cases e : rch l x d r with
    | some q =>
      rw [pln_s e] at h
      cases h
      exact ⟨Nat.le_refl _, by omega, e, fun j a b => absurd b (by omega)⟩
    | none =>
      rw [pln_n e] at h
      obtain ⟨a, b, g, f⟩ := pln_some h
      refine ⟨by omega, by omega, g, fun j a1 b1 => ?_⟩
      by_cases z : j = d
      · rw [z]
        exact e
      · exact f j (by omega) b1
/-- the row behind the first k dips into the vats f 0, f 1 ..; none where one has no dye -/
noncomputable def goF (l : Nat) (f : Nat → Nat) (r : Nat → Int32) : Nat → Option (Nat → Int32)
  | 0 => some r
  | k + 1 => match goF l f r k with
    | none => none
    | some r2 => cond (decide (0 < vt r2 (f k) 2)) (some (dyeR r2 l (f k))) none
theorem goF_n {l k : Nat} {f : Nat → Nat} {r : Nat → Int32} (h : goF l f r k = none) : goF l f r (k + 1) = none := by rw [goF, h]
theorem goF_1 {l k : Nat} {f : Nat → Nat} {r r2 : Nat → Int32} (h : goF l f r k = some r2) : goF l f r (k + 1) = cond (decide (0 < vt r2 (f k) 2)) (some (dyeR r2 l (f k))) none := by rw [goF, h]
theorem goF_s {l : Nat} {f : Nat → Nat} {r : Nat → Int32} : ∀ {k : Nat}, goF l f r (k + 1) = cond (decide (0 < vt r (f 0) 2)) (goF l (fun i => f (i + 1)) (dyeR r l (f 0)) k) none
  | 0 => rfl
  | k + 1 => by
    have ih := goF_s (l := l) (f := f) (r := r) (k := k)
    show (match goF l f r (k + 1) with
      | none => none
      | some r2 => cond (decide (0 < vt r2 (f (k + 1)) 2)) (some (dyeR r2 l (f (k + 1)))) none) = _
    rw [ih]
    cases decide (0 < vt r (f 0) 2) with
    | false => rfl
    | true => rfl
theorem goF_ext {l : Nat} {f g : Nat → Nat} {r : Nat → Int32} : ∀ {k : Nat}, (∀ i, i < k → f i = g i) → goF l f r k = goF l g r k
  | 0, _ => rfl
  | k + 1, h => by
    show (match goF l f r k with
      | none => none
      | some r2 => cond (decide (0 < vt r2 (f k) 2)) (some (dyeR r2 l (f k))) none) = match goF l g r k with
      | none => none
      | some r2 => cond (decide (0 < vt r2 (g k) 2)) (some (dyeR r2 l (g k))) none
    rw [goF_ext (k := k) (fun i hi => h i (by omega)), h k (by omega)]
theorem goF_le {l : Nat} {f : Nat → Nat} {r : Nat → Int32} : ∀ {d : Nat} {r2 : Nat → Int32}, goF l f r d = some r2 → ∀ k, k ≤ d → ∃ r3, goF l f r k = some r3
  | 0, r2, h, k, hk => ⟨r2, by rw [show k = 0 by omega]; exact h⟩
  | d + 1, r2, h, k, hk => by
    by_cases e : k = d + 1
    · rw [e]
      exact ⟨r2, h⟩
    · cases z : goF l f r d with
      | none =>
        rw [goF_n z] at h
        cases h
      | some r3 => exact goF_le z k (by omega)
theorem goF_go {l k : Nat} {f : Nat → Nat} {r r2 r3 : Nat → Int32} (h : goF l f r k = some r2) (h2 : goF l f r (k + 1) = some r3) : 0 < vt r2 (f k) 2 ∧ r3 = dyeR r2 l (f k) := by
  rw [goF_1 h] at h2
  cases z : decide (0 < vt r2 (f k) 2) with
  | true =>
    rw [z] at h2
    exact ⟨of_decide_eq_true z, (Option.some.inj h2).symm⟩
  | false =>
    rw [z] at h2
    cases h2
theorem fstV_n {P : Nat → Option (List Nat)} : ∀ {c v : Nat}, fstV P v c = none → ∀ u, v ≤ u → u < v + c → P u = none
  | 0, v, _, u, h1, h2 => absurd h2 (by omega)
  | c + 1, v, h, u, h1, h2 => by
    cases hp : P v with
    | some p =>
      rw [fst_s hp] at h
      cases h
    | none =>
      rw [fst_n hp] at h
      by_cases e : u = v
      · rw [e]
        exact hp
      · exact fstV_n h u (by omega) (by omega)
theorem fstV_s {P : Nat → Option (List Nat)} : ∀ {c v : Nat} {q : List Nat}, fstV P v c = some q → ∃ u p, v ≤ u ∧ u < v + c ∧ P u = some p ∧ q = u :: p
  | 0, v, q, h => by cases h
  | c + 1, v, q, h => by
    cases hp : P v with
    | some p =>
      rw [fst_s hp] at h
      cases h
      exact ⟨v, p, Nat.le_refl _, by omega, hp, rfl⟩
    | none =>
      rw [fst_n hp] at h
      obtain ⟨u, p, h1, h2, h3, h4⟩ := fstV_s h
      exact ⟨u, p, by omega, by omega, h3, h4⟩
/-- where no row of k dips reaches it, none does -/
theorem rch_no {l : Nat} {x : Nat → Int32} : ∀ {k : Nat} {r : Nat → Int32} {f : Nat → Nat} {r2 : Nat → Int32}, rch l x k r = none → (∀ i, i < k → f i < cl (r 7)) → goF l f r k = some r2 → fitB (ltx r2 l) x r2 = false
  | 0, r, f, r2, h, _, g => by
    have e : r = r2 := Option.some.inj g
    subst e
    cases z : fitB (ltx r l) x r with
    | false => rfl
    | true =>
      rw [show rch l x 0 r = cond (fitB (ltx r l) x r) (some []) none from rfl, z] at h
      cases h
  | k + 1, r, f, r2, h, hf, g => by
    rw [goF_s] at g
    have h2 : fstV (fun v => cond (decide (0 < vt r v 2)) (rch l x k (dyeR r l v)) none) 0 (cl (r 7)) = none := h
    have h3 := fstV_n h2 (f 0) (Nat.zero_le _) (by have := hf 0 (by omega); omega)
    cases z : decide (0 < vt r (f 0) 2) with
    | false =>
      rw [z] at g
      cases g
    | true =>
      rw [z] at g
      have h4 : cond (decide (0 < vt r (f 0) 2)) (rch l x k (dyeR r l (f 0))) none = none := h3
      rw [z] at h4
      exact rch_no (k := k) h4 (fun i hi => by rw [dye_lo (by omega) (by omega)]; exact hf (i + 1) (by omega)) g
/-- what is found reaches it -/
theorem rch_yes {l : Nat} {x : Nat → Int32} : ∀ {k : Nat} {r : Nat → Int32} {p : List Nat}, rch l x k r = some p → (∀ i, i < k → p.getD i 0 < cl (r 7)) ∧ ∃ r2, goF l (fun i => p.getD i 0) r k = some r2 ∧ fitB (ltx r2 l) x r2 = true
  | 0, r, p, h => by
    refine ⟨fun i hi => absurd hi (by omega), r, rfl, ?_⟩
    cases z : fitB (ltx r l) x r with
    | true => rfl
    | false =>
      rw [show rch l x 0 r = cond (fitB (ltx r l) x r) (some []) none from rfl, z] at h
      cases h
  | k + 1, r, p, h => by
    have h2 : fstV (fun v => cond (decide (0 < vt r v 2)) (rch l x k (dyeR r l v)) none) 0 (cl (r 7)) = some p := h
    obtain ⟨u, q, -, hu, hq, e⟩ := fstV_s h2
    have hq2 : cond (decide (0 < vt r u 2)) (rch l x k (dyeR r l u)) none = some q := hq
    cases z : decide (0 < vt r u 2) with
    | false =>
      rw [z] at hq2
      cases hq2
    | true =>
      rw [z] at hq2
      obtain ⟨a, r2, b, c⟩ := rch_yes (k := k) hq2
      subst e
      refine ⟨fun i hi => ?_, r2, ?_, c⟩
      · cases i with
        | zero => show u < _; omega
        | succ i =>
          have w := a i (by omega)
          rw [dye_lo (by omega) (by omega)] at w
          exact w
      · rw [goF_s]
        show cond (decide (0 < vt r u 2)) (goF l (fun i => q.getD i 0) (dyeR r l u) k) none = some r2
        rw [z]
        exact b
