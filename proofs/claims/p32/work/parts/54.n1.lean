theorem sumP_ext {p q : Nat → Bool} {g f : Nat → Int32} : ∀ {n : Nat}, (∀ i, i < n → p i = q i ∧ (p i = true → g i = f i)) → sumP p g n = sumP q f n
  | 0, _ => rfl
  | n + 1, h => by
    have ih := sumP_ext (n := n) (fun i hi => h i (by omega))
    obtain ⟨a, b⟩ := h n (by omega)
    show cond (p n) _ _ = cond (q n) _ _
    rw [ih, ← a]
    cases hp : p n with
    | false => rfl
    | true =>
      show sumP q f n + g n = sumP q f n + f n
      rw [b hp]
theorem sumP_one {p q : Nat → Bool} {g f : Nat → Int32} {j : Nat} : ∀ {n : Nat}, j < n → (∀ i, i < n → i ≠ j → p i = q i ∧ g i = f i) → sumP p g n = sumP q f n + (cond (p j) (g j) 0 - cond (q j) (f j) 0)
  | 0, h, _ => absurd h (by omega)
  | n + 1, hj, h => by
    show cond (p n) _ _ = cond (q n) _ _ + _
    by_cases e : j = n
    · subst e
      have ih := sumP_ext (p := p) (q := q) (g := g) (f := f) (n := j) (fun i hi => ⟨(h i (by omega) (by omega)).1, fun _ => (h i (by omega) (by omega)).2⟩)
      rw [ih]
      generalize sumP q f j = S
      generalize g j = x
      generalize f j = y
      cases p j <;> cases q j <;> simp only [cond_true, cond_false] <;> grind
    · have ih := sumP_one (n := n) (by omega) (fun i hi => h i (by omega))
      obtain ⟨a, b⟩ := h n (by omega) (fun z => e z.symm)
      rw [ih, a, b]
      generalize sumP q f n = S
      generalize cond (p j) (g j) 0 - cond (q j) (f j) 0 = x
      generalize f n = y
      cases q n <;> simp only [cond_true, cond_false] <;> grind
theorem cnt_up {p q : Nat → Bool} {j : Nat} : ∀ {n : Nat}, j < n → p j = true → q j = false → (∀ i, i < n → i ≠ j → p i = q i) → cntN p n = cntN q n + 1
  | 0, h, _, _, _ => absurd h (by omega)
  | n + 1, hj, h1, h2, h => by
    show cond (p n) (cntN p n + 1) (cntN p n) = cond (q n) (cntN q n + 1) (cntN q n) + 1
    by_cases e : j = n
    · subst e
      rw [h1, h2, cnt_ext (p := p) (q := q) (n := j) (fun i hi => h i (by omega) (by omega))]
      rfl
    · have ih := cnt_up (n := n) (by omega) h1 h2 (fun i hi => h i (by omega))
      rw [h n (by omega) (fun z => e z.symm), ih]
      cases q n <;> rfl
theorem cnt_not {p : Nat → Bool} : ∀ {n : Nat}, cntN p n + cntN (fun i => !p i) n = n
  | 0 => rfl
  | n + 1 => by
    have ih := cnt_not (p := p) (n := n)
    show cond (p n) (cntN p n + 1) (cntN p n) + cond (!p n) (cntN (fun i => !p i) n + 1) (cntN (fun i => !p i) n) = n + 1
    cases p n <;> simp only [Bool.not_true, Bool.not_false, cond_true, cond_false] <;> omega
theorem cl_le7 {r : Nat → Int32} (k : Ok r) : cl (r 7) ≤ 6 := by
  obtain ⟨nv, nl, no, hnv, hnl, hno, e7, e8, e9, -⟩ := k
  rw [e7, cl_nI (by omega)]
  exact hnv
theorem Ok.v {r : Nat → Int32} (k : Ok r) {w : Int32} (h : okB (r 7) w = true) : ∃ j, j < cl (r 7) ∧ j < 6 ∧ w = nI j ∧ VOk (vt r j) := by
  obtain ⟨nv, nl, no, hnv, hnl, hno, f7, f8, f9, kset, kvok, -⟩ := k
  rw [f7] at h ⊢
  obtain ⟨j, hj, e⟩ := okB_i (by omega) h
  rw [cl_nI (by omega)]
  exact ⟨j, hj, by omega, e, kvok j hj⟩
theorem Ok.l {r : Nat → Int32} (k : Ok r) {w : Int32} (h : okB (r 8) w = true) : ∃ j, j < cl (r 8) ∧ j < 20 ∧ w = nI j ∧ LOk (ltx r j) := by
  obtain ⟨nv, nl, no, hnv, hnl, hno, f7, f8, f9, kset, kvok, kvz, klok, -⟩ := k
  rw [f8] at h ⊢
  obtain ⟨j, hj, e⟩ := okB_i (by omega) h
  rw [cl_nI (by omega)]
  exact ⟨j, hj, by omega, e, klok j hj⟩
theorem Ok.o {r : Nat → Int32} (k : Ok r) {w : Int32} (h : okB (r 9) w = true) : ∃ j, j < cl (r 9) ∧ j < 60 ∧ w = nI j ∧ bz (od r j 4) := by
  obtain ⟨nv, nl, no, hnv, hnl, hno, f7, f8, f9, kset, kvok, kvz, klok, klz, kok, -⟩ := k
  rw [f9] at h ⊢
  obtain ⟨j, hj, e⟩ := okB_i (by omega) h
  rw [cl_nI (by omega)]
  exact ⟨j, hj, by omega, e, kok j hj⟩
theorem Ok.vk {r : Nat → Int32} (k : Ok r) {j : Nat} (h : j < cl (r 7)) : j < 6 ∧ VOk (vt r j) := by
  obtain ⟨nv, nl, no, hnv, hnl, hno, f7, f8, f9, kset, kvok, -⟩ := k
  rw [f7, cl_nI (by omega)] at h
  exact ⟨by omega, kvok j h⟩
theorem Ok.lk {r : Nat → Int32} (k : Ok r) {j : Nat} (h : j < cl (r 8)) : j < 20 ∧ LOk (ltx r j) := by
  obtain ⟨nv, nl, no, hnv, hnl, hno, f7, f8, f9, kset, kvok, kvz, klok, -⟩ := k
  rw [f8, cl_nI (by omega)] at h
  exact ⟨by omega, klok j h⟩
theorem Ok.okk {r : Nat → Int32} (k : Ok r) {j : Nat} (h : j < cl (r 9)) : j < 60 ∧ bz (od r j 4) := by
  obtain ⟨nv, nl, no, hnv, hnl, hno, f7, f8, f9, kset, kvok, kvz, klok, klz, kok, -⟩ := k
  rw [f9, cl_nI (by omega)] at h
  exact ⟨by omega, kok j h⟩
theorem Ok.e7 {r : Nat → Int32} (k : Ok r) : r 7 = nI (cl (r 7)) := by
  obtain ⟨nv, nl, no, hnv, hnl, hno, f7, -⟩ := k
  rw [f7, cl_nI (by omega)]
theorem Ok.e8 {r : Nat → Int32} (k : Ok r) : r 8 = nI (cl (r 8)) := by
  obtain ⟨nv, nl, no, hnv, hnl, hno, f7, f8, -⟩ := k
  rw [f8, cl_nI (by omega)]
theorem Ok.e9 {r : Nat → Int32} (k : Ok r) : r 9 = nI (cl (r 9)) := by
  obtain ⟨nv, nl, no, hnv, hnl, hno, f7, f8, f9, -⟩ := k
  rw [f9, cl_nI (by omega)]
/-- all grains that the vats hold of a dye; all that the lots hold -/
def vsum (r : Nat → Int32) (d : Nat) : Int32 := sumP (fun v => decide (vt r v 0 = nI d)) (fun v => vt r v 2) (cl (r 7))
def lsum (r : Nat → Int32) (d : Nat) : Int32 := sumP (fun _ => true) (fun l => ltx r l (2 + d) + ltx r l (6 + d)) (cl (r 8))
def Acc (r : Nat → Int32) (d : Nat) : Prop := r (11 + d) = vsum r d + lsum r d + r (15 + d)
def Dps (r : Nat → Int32) : Prop := sumP (fun _ => true) (fun l => ltx r l 14) (cl (r 8)) = r 10
def Cnt (r : Nat → Int32) : Prop := cntN (sold r) (cl (r 8)) + unsN r = cl (r 9)
def LSt (r : Nat → Int32) (l : Nat) : Prop := (¬ ltx r l 13 = 0 → ltx r l 10 = 0 ∧ ltx r l 11 = 0 ∧ ∃ o, o < cl (r 9) ∧ ltx r l 13 = nI (o + 1) ∧ od r o 4 = 1) ∧ (ltx r l 12 = 0 ∨ ltx r l 11 = 0)
def Snd (r : Nat → Int32) : Prop := (∀ d, d < 4 → Acc r d) ∧ Dps r ∧ Cnt r ∧ ∀ l, l < cl (r 8) → LSt r l
theorem Acc.ext {r r2 : Nat → Int32} {d : Nat} (k : Acc r d) (o : Ok r) (e7 : r2 7 = r 7) (e8 : r2 8 = r 8) (e11 : r2 (11 + d) = r (11 + d)) (e15 : r2 (15 + d) = r (15 + d)) (hv : ∀ v, v < 6 → vt r2 v 0 = vt r v 0 ∧ vt r2 v 2 = vt r v 2) (hl : ∀ l, l < 20 → ltx r2 l (2 + d) = ltx r l (2 + d) ∧ ltx r2 l (6 + d) = ltx r l (6 + d)) : Acc r2 d := by
  have c7 := cl_le7 o
  have c8 := (cl_le o).1
  unfold Acc vsum lsum
  rw [e7, e8, e11, e15, sumP_ext (p := fun v => decide (vt r2 v 0 = nI d)) (q := fun v => decide (vt r v 0 = nI d)) (g := fun v => vt r2 v 2) (f := fun v => vt r v 2) (n := cl (r 7)) (fun v h => ⟨by rw [(hv v (by omega)).1], fun _ => (hv v (by omega)).2⟩), sumP_ext (p := fun _ => true) (q := fun _ => true) (g := fun l => ltx r2 l (2 + d) + ltx r2 l (6 + d)) (f := fun l => ltx r l (2 + d) + ltx r l (6 + d)) (n := cl (r 8)) (fun l h => ⟨rfl, fun _ => by rw [(hl l (by omega)).1, (hl l (by omega)).2]⟩)]
  exact k
theorem Dps.ext {r r2 : Nat → Int32} (k : Dps r) (o : Ok r) (e8 : r2 8 = r 8) (e10 : r2 10 = r 10) (hl : ∀ l, l < 20 → ltx r2 l 14 = ltx r l 14) : Dps r2 := by
  have c8 := (cl_le o).1
  unfold Dps
  rw [e8, e10, sumP_ext (p := fun _ => true) (q := fun _ => true) (g := fun l => ltx r2 l 14) (f := fun l => ltx r l 14) (n := cl (r 8)) (fun l h => ⟨rfl, fun _ => hl l (by omega)⟩)]
  exact k
theorem Snd.of {r r2 : Nat → Int32} (k : Snd r) (o : Ok r) (e8 : r2 8 = r 8) (e9 : r2 9 = r 9) (ha : ∀ d, d < 4 → Acc r d → Acc r2 d) (hd : Dps r → Dps r2) (h13 : ∀ l, l < 20 → ltx r2 l 13 = ltx r l 13) (h4 : ∀ i, i < 60 → od r2 i 4 = od r i 4) (hl : ∀ l, l < 20 → (¬ ltx r l 13 = 0 → ltx r l 10 = 0 → ltx r2 l 10 = 0) ∧ (¬ ltx r l 13 = 0 → ltx r l 11 = 0 → ltx r2 l 11 = 0) ∧ ((ltx r l 12 = 0 ∨ ltx r l 11 = 0) → (ltx r2 l 12 = 0 ∨ ltx r2 l 11 = 0))) : Snd r2 := by
  obtain ⟨c8, c9⟩ := cl_le o
  obtain ⟨ka, kd, kc, kl⟩ := k
  refine ⟨fun d h => ha d h (ka d h), hd kd, ?_, fun l h => ?_⟩
  · unfold Cnt unsN
    rw [e8, e9, cnt_ext (p := sold r2) (q := sold r) (n := cl (r 8)) (fun l h => by unfold sold; rw [h13 l (by omega)]), cnt_ext (p := fun i => decide (od r2 i 4 = 0)) (q := fun i => decide (od r i 4 = 0)) (n := cl (r 9)) (fun i h => by rw [h4 i (by omega)])]
    exact kc
  · rw [e8] at h
    obtain ⟨a, b⟩ := kl l h
    obtain ⟨x, y, z⟩ := hl l (by omega)
    refine ⟨fun q => ?_, z b⟩
    rw [h13 l (by omega)] at q
    obtain ⟨a1, a2, i, a3, a4, a5⟩ := a q
    exact ⟨x q a1, y q a2, i, by rw [e9]; exact a3, by rw [h13 l (by omega)]; exact a4, by rw [h4 i (by omega)]; exact a5⟩
