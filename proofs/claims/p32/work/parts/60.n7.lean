section
variable {r : Nat → Int32}
theorem avB_i (o : Ok r) {i k : Nat} : avB r k i = true ↔ i ≠ k ∧ ((strF (vt r k)).toInt < (strF (vt r i)).toInt ∨ ((strF (vt r i)).toInt = (strF (vt r k)).toInt ∧ ((vt r i 3).toInt < (vt r k 3).toInt ∨ ((vt r i 3).toInt = (vt r k 3).toInt ∧ i < k)))) := by
  unfold avB
  by_cases e : i = k
  · rw [decide_eq_true e]
    exact ⟨fun h => (by cases h), fun h => absurd e h.1⟩
  · rw [decide_eq_false e]
    simp only [cond_false]
    have q : ∀ x y : Int32, x = y ↔ x.toInt = y.toInt := fun x y => Int32.toInt_inj.symm
    by_cases z : i < k
    · rw [decide_eq_true z]
      simp only [cond_true]
      rw [aheadB_i]
      unfold ahead
      rw [i_lt, i_le, Ne, q]
      omega
    · rw [decide_eq_false z]
      simp only [cond_false]
      have w : (!aheadB (vt r k) (vt r i)) = true ↔ ¬ ahead (vt r k) (vt r i) := by
        rw [← aheadB_i]
        cases aheadB (vt r k) (vt r i) <;> simp
      rw [w]
      unfold ahead
      rw [i_lt, i_le, Ne, q]
      omega
noncomputable def rnk (r : Nat → Int32) (i : Nat) : Nat := cntN (avB r i) (cl (r 7))
theorem cnt_lt {p q : Nat → Bool} {i m : Nat} (hi : i < m) (h1 : p i = false) (h2 : q i = true) (h : ∀ j, j < m → p j = true → q j = true) : cntN p m < cntN q m := by
  have u := cnt_up (p := q) (q := fun j => !decide (j = i) && q j) (j := i) (n := m) hi h2 (by simp) (fun j _ hn => by simp [hn])
  have v := cnt_mono (p := p) (q := fun j => !decide (j = i) && q j) (n := m) (fun j hj hp => by
    have ne : j ≠ i := fun e => by rw [e, h1] at hp; cases hp
    simp [ne, h j hj hp])
  omega
theorem rnk_lt (o : Ok r) {i : Nat} (hi : i < cl (r 7)) : rnk r i < cl (r 7) := by
  have a := cnt_lt (p := avB r i) (q := fun _ => true) hi (by
    cases h : avB r i i with
    | false => rfl
    | true => exact absurd rfl ((avB_i o).mp h).1) rfl (fun _ _ _ => rfl)
  have b := cnt_le (p := fun _ => true) (cl (r 7))
  unfold rnk
  omega
theorem rnk_mono (o : Ok r) {i k : Nat} (hi : i < cl (r 7)) (h : avB r k i = true) : rnk r i < rnk r k := by
  refine cnt_lt hi ?_ h (fun j _ hj => ?_)
  · cases h : avB r i i with
    | false => rfl
    | true => exact absurd rfl ((avB_i o).mp h).1
  · rw [avB_i o] at h hj ⊢
    refine ⟨fun e => ?_, ?_⟩
    · subst e
      omega
    · omega
theorem avB_tri (o : Ok r) {i k : Nat} (h : i ≠ k) : avB r k i = true ∨ avB r i k = true := by
  rw [avB_i o, avB_i o]
  omega
theorem rnk_inj (o : Ok r) {i k : Nat} (hi : i < cl (r 7)) (hk : k < cl (r 7)) (h : rnk r i = rnk r k) : i = k := by
  refine Classical.byContradiction (fun z => ?_)
  rcases avB_tri o z with y | y
  · have := rnk_mono o hi y
    omega
  · have := rnk_mono o hk y
    omega
/-- the vat of a rank comes ahead of that of the next one -/
theorem rnk_av (o : Ok r) {i k : Nat} (hi : i < cl (r 7)) (hk : k < cl (r 7)) (h : rnk r i < rnk r k) : avB r k i = true := by
  have ne : i ≠ k := fun e => by rw [e] at h; omega
  rcases avB_tri o ne with y | y
  · exact y
  · have := rnk_mono o hk y
    omega
theorem pig : ∀ (m : Nat) (f : Nat → Nat), (∀ i, i < m → f i < m) → (∀ i j, i < m → j < m → f i = f j → i = j) → ∀ k, k < m → ∃ i, i < m ∧ f i = k
  | 0, _, _, _, k, h => absurd h (by omega)
  | m + 1, f, h1, h2, k, hk => by
    have ih := pig m (fun i => if f i = m then f m else f i) (fun i hi => by
      show (if f i = m then f m else f i) < m
      by_cases e : f i = m
      · rw [if_pos e]
        have a := h1 m (by omega)
        have b : f m ≠ m := fun z => by
          have := h2 i m (by omega) (by omega) (e.trans z.symm)
          omega
        omega
      · rw [if_neg e]
        have a := h1 i (by omega)
        omega) (fun i j hi hj e => by
      have e2 : (if f i = m then f m else f i) = (if f j = m then f m else f j) := e
      by_cases a : f i = m
      · by_cases b : f j = m
        · exact h2 i j (by omega) (by omega) (a.trans b.symm)
        · rw [if_pos a, if_neg b] at e2
          have := h2 m j (by omega) (by omega) e2
          omega
      · by_cases b : f j = m
        · rw [if_neg a, if_pos b] at e2
          have := h2 i m (by omega) (by omega) e2
          omega
        · rw [if_neg a, if_neg b] at e2
          exact h2 i j (by omega) (by omega) e2)
    by_cases e : k = f m
    · exact ⟨m, by omega, e.symm⟩
    · by_cases e2 : k = m
      · have a := h1 m (by omega)
        obtain ⟨i, hi, q⟩ := ih (f m) (by omega)
        have q2 : (if f i = m then f m else f i) = f m := q
        by_cases z : f i = m
        · exact ⟨i, by omega, z.trans e2.symm⟩
        · rw [if_neg z] at q2
          have := h2 i m (by omega) (by omega) q2
          omega
      · obtain ⟨i, hi, q⟩ := ih k (by omega)
        have q2 : (if f i = m then f m else f i) = k := q
        by_cases z : f i = m
        · rw [if_pos z] at q2
          exact absurd q2.symm e
        · rw [if_neg z] at q2
          exact ⟨i, by omega, q2⟩
theorem rnk_sur (o : Ok r) {k : Nat} (hk : k < cl (r 7)) : ∃ i, i < cl (r 7) ∧ rnk r i = k := pig (cl (r 7)) (rnk r) (fun i hi => rnk_lt o hi) (fun i j hi hj => rnk_inj o hi hj) k hk
theorem fstI_n {p : Nat → Bool} : ∀ {c v : Nat}, (∀ j, v ≤ j → j < v + c → p j = false) → fstI p v c = -4
  | 0, _, _ => rfl
  | c + 1, v, h => by
    show cond (p v) (nI v) (fstI p (v + 1) c) = -4
    rw [h v (Nat.le_refl _) (by omega)]
    exact fstI_n (fun j h1 h2 => h j (by omega) (by omega))
theorem fstI_s {p : Nat → Bool} : ∀ {c v : Nat}, (∃ j, v ≤ j ∧ j < v + c ∧ p j = true) → ∃ j, v ≤ j ∧ j < v + c ∧ p j = true ∧ fstI p v c = nI j
  | 0, _, h => by
    obtain ⟨j, a, b, -⟩ := h
    omega
  | c + 1, v, h => by
    show ∃ j, _ ∧ _ ∧ _ ∧ cond (p v) (nI v) (fstI p (v + 1) c) = nI j
    cases hp : p v with
    | true => exact ⟨v, Nat.le_refl _, by omega, hp, rfl⟩
    | false =>
      obtain ⟨j, a, b, d⟩ := h
      have ne : j ≠ v := fun e => by rw [e, hp] at d; cases d
      obtain ⟨i, h1, h2, h3, h4⟩ := fstI_s (p := p) (c := c) (v := v + 1) ⟨j, by omega, by omega, d⟩
      exact ⟨i, by omega, by omega, h3, h4⟩
theorem qva_at (o : Ok r) {k : Nat} (hk : k < cl (r 7)) : ∃ i, i < cl (r 7) ∧ rnk r i = k ∧ Q_vatAt r (nI k) = nI i := by
  have c7 := cl_le7 o
  obtain ⟨i, h1, h2⟩ := rnk_sur o hk
  obtain ⟨j, a, b, d, e⟩ := fstI_s (p := fun v => decide (nI (cntN (avB r v) (cl (r 7))) = nI k)) (c := cl (r 7)) (v := 0) ⟨i, Nat.zero_le _, by omega, decide_eq_true (congrArg nI h2)⟩
  have hj : j < cl (r 7) := by omega
  have rl := rnk_lt o hj
  have q : nI (rnk r j) = nI k := of_decide_eq_true d
  refine ⟨j, hj, (nI_eq (by omega) (by omega)).mp q, ?_⟩
  unfold Q_vatAt
  rw [decide_eq_true (nI_pos' (by omega))]
  exact e
theorem qva_end (o : Ok r) : Q_vatAt r (nI (cl (r 7))) = -4 := by
  have c7 := cl_le7 o
  unfold Q_vatAt
  rw [decide_eq_true (nI_pos' (by omega))]
  refine fstI_n (fun j _ hj => decide_eq_false (fun z => ?_))
  have rl := rnk_lt o (show j < cl (r 7) by omega)
  have q : nI (rnk r j) = nI (cl (r 7)) := z
  have := (nI_eq (by omega) (by omega)).mp q
  omega
theorem qv_all (o : Ok r) {i : Nat} (hi : i < cl (r 7)) : Q_vatOf r (nI i) 0 = vt r i 0 ∧ Q_vatOf r (nI i) 1 = vt r i 1 ∧ Q_vatOf r (nI i) 2 = vt r i 2 ∧ Q_vatOf r (nI i) 3 = vt r i 3 ∧ Q_vatOf r (nI i) 4 = bI (decide (r 2 < vt r i 3)) := by
  have c7 := cl_le7 o
  unfold Q_vatOf
  rw [okB_v o hi, cl_nI (by omega)]
  exact ⟨rfl, rfl, rfl, rfl, rfl⟩
theorem fv_d (o : Ok r) {k : Nat} (hk : k < cl (r 7)) : ¬ Q_vatOf r (Q_vatAt r (nI k)) 1 = 0 := by
  obtain ⟨i, hi, -, e⟩ := qva_at o hk
  rw [e, (qv_all o hi).2.1]
  have p := (o.vk hi).2.pos
  intro z
  rw [z, z_toInt] at p
  omega
theorem fv_0 (o : Ok r) {k : Nat} (hk : k < cl (r 7)) : ¬ Q_vatAt r (nI k) < 0 := by
  have c7 := cl_le7 o
  obtain ⟨i, hi, -, e⟩ := qva_at o hk
  rw [e]
  exact n_neg (by rw [nI_toInt (by omega)]; omega)
/-- the next one: none, or one behind it -/
theorem fv_n (o : Ok r) {k : Nat} (hk : k < cl (r 7)) : Q_vatAt r (nI (k + 1)) = -4 ∨ (k + 1 < cl (r 7) ∧ (Q_vatOf r (Q_vatAt r (nI (k + 1))) 2 / Q_vatOf r (Q_vatAt r (nI (k + 1))) 1 < Q_vatOf r (Q_vatAt r (nI k)) 2 / Q_vatOf r (Q_vatAt r (nI k)) 1 ∨ (Q_vatOf r (Q_vatAt r (nI k)) 2 / Q_vatOf r (Q_vatAt r (nI k)) 1 = Q_vatOf r (Q_vatAt r (nI (k + 1))) 2 / Q_vatOf r (Q_vatAt r (nI (k + 1))) 1 ∧ (Q_vatOf r (Q_vatAt r (nI k)) 3 < Q_vatOf r (Q_vatAt r (nI (k + 1))) 3 ∨ (Q_vatOf r (Q_vatAt r (nI k)) 3 = Q_vatOf r (Q_vatAt r (nI (k + 1))) 3 ∧ Q_vatAt r (nI k) < Q_vatAt r (nI (k + 1))))))) := by
  have c7 := cl_le7 o
  by_cases h : k + 1 < cl (r 7)
  · refine Or.inr ⟨h, ?_⟩
    obtain ⟨i, hi, ri, ei⟩ := qva_at o hk
    obtain ⟨j, hj, rj, ej⟩ := qva_at o h
    have a := rnk_av o hi hj (by omega)
    obtain ⟨-, p1, p2, p3, -⟩ := qv_all o hi
    obtain ⟨-, q1, q2, q3, -⟩ := qv_all o hj
    rw [ei, ej, p1, p2, p3, q1, q2, q3]
    rw [avB_i o] at a
    have q : ∀ x y : Int32, x = y ↔ x.toInt = y.toInt := fun x y => Int32.toInt_inj.symm
    unfold strF at a
    rw [i_lt, i_lt, nI_ltI (by omega) (by omega), q, q]
    omega
  · have e : k + 1 = cl (r 7) := by omega
    rw [e]
    exact Or.inl (qva_end o)
theorem fv_4 {n tn : Nat} (o : Ok r) {k : Nat} (hk : k < cl (r 7)) : Q_vatOf r (Q_vatAt r (nI k)) 4 = bI (decide (¬ Q_vatOf r (Q_vatAt r (nI k)) 3 ≤ Q_count r n tn 22)) := by
  obtain ⟨i, hi, -, e⟩ := qva_at o hk
  obtain ⟨-, -, -, p3, p4⟩ := qv_all o hi
  rw [e, p3, p4, qc_22]
  congr 1
  refine decide_eq_decide.mpr ?_
  rw [i_lt, i_le]
  omega
/-- the vats seen so far as bits -/
def setN (f : Nat → Nat) : Nat → Nat
  | 0 => 0
  | k + 1 => setN f k ||| 2 ^ f k
theorem setN_bit {f : Nat → Nat} {b : Nat} : ∀ {k : Nat}, (setN f k).testBit b = true ↔ ∃ i, i < k ∧ f i = b
  | 0 => by
    show (0 : Nat).testBit b = true ↔ _
    rw [Nat.zero_testBit]
    exact ⟨fun h => (by cases h), fun ⟨i, h, _⟩ => absurd h (by omega)⟩
  | k + 1 => by
    show (setN f k ||| 2 ^ f k).testBit b = true ↔ _
    rw [Nat.testBit_or, Bool.or_eq_true, setN_bit, Nat.testBit_two_pow, decide_eq_true_iff]
    constructor
    · rintro (⟨i, h1, h2⟩ | h)
      · exact ⟨i, by omega, h2⟩
      · exact ⟨k, by omega, h⟩
    · rintro ⟨i, h1, h2⟩
      by_cases e : i = k
      · exact Or.inr (by rw [← e]; exact h2)
      · exact Or.inl ⟨i, by omega, h2⟩
theorem setN_all {f : Nat → Nat} {m : Nat} (h1 : ∀ i, i < m → f i < m) (h2 : ∀ b, b < m → ∃ i, i < m ∧ f i = b) : setN f m = 2 ^ m - 1 := by
  refine Nat.eq_of_testBit_eq (fun b => ?_)
  rw [Nat.testBit_two_pow_sub_one]
  by_cases h : b < m
  · rw [decide_eq_true h, setN_bit]
    exact h2 b h
  · rw [decide_eq_false h]
    cases z : (setN f m).testBit b with
    | false => rfl
    | true =>
      obtain ⟨i, a, e⟩ := setN_bit.mp z
      have := h1 i a
      omega
theorem setN_lt {f : Nat → Nat} : ∀ {k : Nat}, (∀ i, i < k → f i < 6) → setN f k < 64
  | 0, _ => (by decide : (0 : Nat) < 64)
  | k + 1, h => by
    have ih := setN_lt (f := f) (k := k) (fun i hi => h i (by omega))
    have a := h k (by omega)
    show setN f k ||| 2 ^ f k < 2 ^ 6
    refine Nat.or_lt_two_pow ih ?_
    exact Nat.pow_lt_pow_right (by omega) a
/-- which vat has a rank -/
noncomputable def vaN (r : Nat → Int32) (k : Nat) : Nat := cl (Q_vatAt r (nI k))
theorem vaN_i (o : Ok r) {k : Nat} (hk : k < cl (r 7)) : vaN r k < cl (r 7) ∧ rnk r (vaN r k) = k ∧ Q_vatAt r (nI k) = nI (vaN r k) := by
  have c7 := cl_le7 o
  obtain ⟨i, h1, h2, h3⟩ := qva_at o hk
  unfold vaN
  rw [h3, cl_nI (by omega)]
  exact ⟨h1, h2, rfl⟩
theorem i_or {a b : Nat} (ha : a < 64) (hb : b < 6) : nI a ||| ((1 : Int32) <<< (nI b &&& 31)) = nI (a ||| 2 ^ b) := by
  have z : ∀ a, a < 64 → ∀ b, b < 6 → nI a ||| ((1 : Int32) <<< (nI b &&& 31)) = nI (a ||| 2 ^ b) := by decide +kernel
  exact z a ha b hb
theorem fv_or (o : Ok r) {k : Nat} (hk : k < cl (r 7)) : nI (setN (vaN r) k) ||| ((1 : Int32) <<< (Q_vatAt r (nI k) &&& 31)) = nI (setN (vaN r) (k + 1)) := by
  have c7 := cl_le7 o
  obtain ⟨a, -, e⟩ := vaN_i o hk
  rw [e, i_or (setN_lt (fun i hi => by have := (vaN_i o (show i < cl (r 7) by omega)).1; omega)) (by omega)]
  rfl
theorem fv_all {n tn : Nat} (o : Ok r) : nI (setN (vaN r) (cl (r 7))) = ((1 : Int32) <<< (Q_count r n tn 0 &&& 31)) - 1 := by
  have c7 := cl_le7 o
  rw [setN_all (fun i hi => (vaN_i o hi).1) (fun b hb => ⟨rnk r b, rnk_lt o hb, rnk_inj o (vaN_i o (rnk_lt o hb)).1 hb (vaN_i o (rnk_lt o hb)).2.1⟩), qc_0, o.e7]
  have z : ∀ m, m < 7 → nI (2 ^ m - 1) = ((1 : Int32) <<< (nI m &&& 31)) - 1 := by decide +kernel
  have e7 : cl (r 7) < 7 := by omega
  rw [cl_nI (by omega)]
  exact z _ e7
theorem fe_1 {n tn : Nat} (o : Ok r) : Q_vatAt r (Q_count r n tn 0) = -4 := by
  rw [qc_0, o.e7]
  exact qva_end o
theorem okB_e {x : Int32} {m : Nat} (hx : x = nI m) (hm : m ≤ 1000) : okB x x = false := by
  rw [hx]
  refine okB_f hm (fun ⟨j, h, e⟩ => ?_)
  have := (nI_eq (by omega) (by omega)).mp e
  omega
theorem fe_2 {n tn : Nat} (o : Ok r) : Q_vatOf r (Q_count r n tn 0) 0 = -1 := by
  unfold Q_vatOf
  rw [qc_0, okB_e o.e7 (by have := cl_le7 o; omega)]
  rfl
theorem fe_3 {n tn : Nat} (o : Ok r) : Q_lotOf r (Q_count r n tn 1) 0 = -1 := by
  unfold Q_lotOf
  rw [qc_1, okB_e o.e8 (by have := (cl_le o).1; omega)]
  rfl
theorem fe_4 {n tn : Nat} (o : Ok r) : Q_orderOf r (Q_count r n tn 7) 0 = -1 := by
  unfold Q_orderOf
  rw [qc_7, okB_e o.e9 (by have := (cl_le o).2; omega)]
  rfl
end
