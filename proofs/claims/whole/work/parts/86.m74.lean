/-- the row behind the first k dips into the vats f 0, f 1 ..; none where one has no dye -/
noncomputable def goF (l : Nat) (f : Nat → Nat) (r : Nat → Int32) : Nat → Option (Nat → Int32)
  | 0 => some r
  | k + 1 => match goF l f r k with
    | none => none
    | some r2 => cond (decide (0 < vt r2 (f k) 2)) (some (dyeR r2 l (f k))) none
noncomputable def fitF (l : Nat) (x : Nat → Int32) (f : Nat → Nat) (r : Nat → Int32) (k : Nat) : Bool := match goF l f r k with
  | none => false
  | some r2 => fitB (ltx r2 l) x r2
theorem goF_ext {l : Nat} {f g : Nat → Nat} {r : Nat → Int32} : ∀ {k : Nat}, (∀ i, i < k → f i = g i) → goF l f r k = goF l g r k
  | 0, _ => rfl
  | k + 1, h => by
    show (match goF l f r k with
      | none => none
      | some r2 => cond (decide (0 < vt r2 (f k) 2)) (some (dyeR r2 l (f k))) none) = match goF l g r k with
      | none => none
      | some r2 => cond (decide (0 < vt r2 (g k) 2)) (some (dyeR r2 l (g k))) none
    rw [goF_ext (k := k) (fun i hi => h i (by omega)), h k (by omega)]
theorem goF_s {l : Nat} {f : Nat → Nat} {r : Nat → Int32} : ∀ {k : Nat}, goF l f r (k + 1) = cond (decide (0 < vt r (f 0) 2)) (goF l (fun i => f (i + 1)) (dyeR r l (f 0)) k) none
  | 0 => rfl
  | k + 1 => by
    have ih := goF_s (l := l) (f := f) (r := r) (k := k)
    show (match goF l f r (k + 1) with
      | none => none
      | some r2 => cond (decide (0 < vt r2 (f (k + 1)) 2)) (some (dyeR r2 l (f (k + 1)))) none) = _
    rw [ih]
    cases decide (0 < vt r (f 0) 2) with
    | false => rfl
    | true => rfl
/-- the digits of a number -/
def dgf (nv c N i : Nat) : Nat := N / nv ^ (c - 1 - i) % nv
theorem dgf_0 {nv k v N : Nat} (hv : v < nv) (hN : N < nv ^ k) : dgf nv (k + 1) (N + v * nv ^ k) 0 = v := by
  unfold dgf
  rw [show k + 1 - 1 - 0 = k by omega, Nat.add_mul_div_right _ _ (by omega), Nat.div_eq_of_lt hN, Nat.zero_add, Nat.mod_eq_of_lt hv]
theorem dgf_s {nv k v N i : Nat} (hv : v < nv) (hi : i < k) : dgf nv (k + 1) (N + v * nv ^ k) (i + 1) = dgf nv k N i := by
  unfold dgf
  rw [show k + 1 - 1 - (i + 1) = k - 1 - i by omega]
  have e : v * nv ^ k = (v * nv ^ i * nv) * nv ^ (k - 1 - i) := by
    have q : k = i + 1 + (k - 1 - i) := by omega
    calc v * nv ^ k = v * nv ^ (i + 1 + (k - 1 - i)) := by rw [← q]
      _ = (v * nv ^ i * nv) * nv ^ (k - 1 - i) := by rw [Nat.pow_add, Nat.pow_succ, ← Nat.mul_assoc, ← Nat.mul_assoc]
  have hp : 0 < nv ^ (k - 1 - i) := Nat.pow_pos (by omega)
  rw [e, Nat.add_mul_div_right _ _ hp, Nat.add_mul_mod_self_right]
theorem num_split {nv k N : Nat} (h : N < nv ^ (k + 1)) : N / nv ^ k < nv ∧ N % nv ^ k < nv ^ k ∧ N = N % nv ^ k + N / nv ^ k * nv ^ k := by
  have hp : 0 < nv ^ k := by
    rcases Nat.eq_zero_or_pos (nv ^ k) with z | z
    · rw [Nat.pow_succ, z] at h
      omega
    · exact z
  refine ⟨Nat.div_lt_of_lt_mul (by rw [Nat.pow_succ] at h; exact h), Nat.mod_lt _ hp, ?_⟩
  have z := Nat.div_add_mod N (nv ^ k)
  rw [Nat.mul_comm] at z
  omega
theorem fitF_s {l : Nat} {x r : Nat → Int32} {nv k N v : Nat} (hv : v < nv) (hN : N < nv ^ k) : fitF l x (dgf nv (k + 1) (N + v * nv ^ k)) r (k + 1) = (decide (0 < vt r v 2) && fitF l x (dgf nv k N) (dyeR r l v) k) := by
  unfold fitF
  rw [goF_s, dgf_0 hv hN, goF_ext (f := fun i => dgf nv (k + 1) (N + v * nv ^ k) (i + 1)) (g := dgf nv k N) (fun i hi => dgf_s hv hi)]
  cases decide (0 < vt r v 2) <;> rfl
theorem fstV_n {P : Nat → Option (List Nat)} : ∀ {c v : Nat}, fstV P v c = none → ∀ u, v ≤ u → u < v + c → P u = none
  | 0, v, _, u, h1, h2 => absurd h2 (by omega)
  | c + 1, v, h, u, h1, h2 => by
    cases hp : P v with
    | some p =>
      rw [fst_s hp] at h
      cases h
    | none =>
      rw [fst_n hp] at h
      by_cases e : u = v
      · rw [e]
        exact hp
      · exact fstV_n h u (by omega) (by omega)
theorem fstV_s {P : Nat → Option (List Nat)} : ∀ {c v : Nat} {q : List Nat}, fstV P v c = some q → ∃ u p, v ≤ u ∧ u < v + c ∧ P u = some p ∧ q = u :: p ∧ ∀ w, v ≤ w → w < u → P w = none
  | 0, v, q, h => by cases h
  | c + 1, v, q, h => by
    cases hp : P v with
    | some p =>
      rw [fst_s hp] at h
      cases h
      exact ⟨v, p, Nat.le_refl _, by omega, hp, rfl, fun w h1 h2 => absurd h2 (by omega)⟩
    | none =>
      rw [fst_n hp] at h
      obtain ⟨u, p, h1, h2, h3, h4, h5⟩ := fstV_s h
      refine ⟨u, p, by omega, by omega, h3, h4, fun w a b => ?_⟩
      by_cases e : w = v
      · rw [e]
        exact hp
      · exact h5 w (by omega) b
theorem blk_lt {a b v w n : Nat} (ha : a < n) (h : a + v * n < b + w * n) (hb : b < n) : v < w ∨ (v = w ∧ a < b) := by
  rcases Nat.lt_or_ge v w with z | z
  · exact Or.inl z
  · have q : w * n ≤ v * n := Nat.mul_le_mul_right n z
    rcases Nat.eq_or_lt_of_le z with e | e
    · exact Or.inr ⟨e.symm, by rw [e] at h; omega⟩
    · have q2 : (w + 1) * n ≤ v * n := Nat.mul_le_mul_right n e
      rw [Nat.add_mul, Nat.one_mul] at q2
      omega
theorem rch_e {l nv : Nat} {x : Nat → Int32} : ∀ (k : Nat) (r : Nat → Int32), cl (r 7) = nv → (rch l x k r = none → ∀ N, N < nv ^ k → fitF l x (dgf nv k N) r k = false) ∧ ∀ p, rch l x k r = some p → ∃ N, N < nv ^ k ∧ fitF l x (dgf nv k N) r k = true ∧ (∀ N2, N2 < N → fitF l x (dgf nv k N2) r k = false) ∧ ∀ i, i < k → p.getD i 0 = dgf nv k N i := by
  intro k
  induction k with
  | zero =>
    intro r _
    have e : rch l x 0 r = cond (fitB (ltx r l) x r) (some []) none := rfl
    have f : ∀ N, fitF l x (dgf nv 0 N) r 0 = fitB (ltx r l) x r := fun _ => rfl
    rw [e]
    cases hb : fitB (ltx r l) x r with
    | false => exact ⟨fun _ N _ => (f N).trans hb, fun p h => by cases h⟩
    | true => exact ⟨fun h => (by cases h), fun p h => ⟨0, (by rw [Nat.pow_zero]; exact Nat.one_pos), (f 0).trans hb, fun N h => absurd h (by omega), fun i h => absurd h (by omega)⟩⟩
  | succ k ih =>
    intro r hr
    have e : rch l x (k + 1) r = fstV (fun v => cond (decide (0 < vt r v 2)) (rch l x k (dyeR r l v)) none) 0 nv := by
      rw [← hr]
      rfl
    have h7 : ∀ v, cl (dyeR r l v 7) = nv := fun v => by
      rw [dye_lo (by omega) (by omega)]
      exact hr
    have off : ∀ v N, v < nv → N < nv ^ k → cond (decide (0 < vt r v 2)) (rch l x k (dyeR r l v)) none = none → fitF l x (dgf nv (k + 1) (N + v * nv ^ k)) r (k + 1) = false := by
      intro v N hv hN h
      rw [fitF_s hv hN]
      cases hd : decide (0 < vt r v 2) with
      | false => rfl
      | true =>
        rw [hd] at h
        exact (ih (dyeR r l v) (h7 v)).1 h N hN
    rw [e]
    refine ⟨fun h N hN => ?_, fun p h => ?_⟩
    · obtain ⟨a, b, c⟩ := num_split hN
      rw [c]
      exact off _ _ a b (fstV_n h (N / nv ^ k) (Nat.zero_le _) (by rw [Nat.zero_add]; exact a))
    · obtain ⟨u, q, h1, h2, h3, h4, h5⟩ := fstV_s h
      have hu : u < nv := by omega
      have h3b : cond (decide (0 < vt r u 2)) (rch l x k (dyeR r l u)) none = some q := h3
      cases hd : decide (0 < vt r u 2) with
      | false =>
        rw [hd] at h3b
        cases h3b
      | true =>
        rw [hd] at h3b
        obtain ⟨N, g1, g2, g3, g4⟩ := (ih (dyeR r l u) (h7 u)).2 q h3b
        refine ⟨N + u * nv ^ k, ?_, ?_, ?_, ?_⟩
        · rw [Nat.pow_succ]
          have z : (u + 1) * nv ^ k ≤ nv * nv ^ k := Nat.mul_le_mul_right _ hu
          rw [Nat.add_mul, Nat.one_mul] at z
          rw [Nat.mul_comm (nv ^ k)]
          omega
        · rw [fitF_s hu g1, hd, g2]
          rfl
        · intro N2 hN2
          have hlt : N2 < nv ^ (k + 1) := by
            rw [Nat.pow_succ]
            have z : (u + 1) * nv ^ k ≤ nv * nv ^ k := Nat.mul_le_mul_right _ hu
            rw [Nat.add_mul, Nat.one_mul] at z
            rw [Nat.mul_comm (nv ^ k)]
            omega
          obtain ⟨a, b, c⟩ := num_split hlt
          rw [c] at hN2 ⊢
          rcases blk_lt b hN2 g1 with z | ⟨z, z2⟩
          · exact off _ _ a b (h5 _ (Nat.zero_le _) z)
          · rw [z, fitF_s hu b, hd, g3 _ z2]
            rfl
        · intro i hi
          subst h4
          cases i with
          | zero => exact (dgf_0 hu g1).symm
          | succ i =>
            rw [dgf_s hu (by omega)]
            exact g4 i (by omega)
