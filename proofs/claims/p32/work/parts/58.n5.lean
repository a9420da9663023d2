section
variable {r : Nat → Int32} {n tn : Nat}
theorem qc_0 : Q_count r n tn 0 = r 7 := rfl
theorem qc_1 : Q_count r n tn 1 = r 8 := rfl
theorem qc_2 : Q_count r n tn 2 = nI (cntN (fun l => !sold r l) (cl (r 8))) := by
  show nI (cntN (fun l => cntW 2 (ltx r l)) (cl (r 8))) = _
  congr 1
  refine cnt_ext (fun l hl => ?_)
  show decide (ltx r l 13 = 0) = !decide (¬ ltx r l 13 = 0)
  by_cases h : ltx r l 13 = 0
  · rw [decide_eq_true h, decide_eq_false (fun z => z h)]
    rfl
  · rw [decide_eq_false h, decide_eq_true h]
    rfl
theorem qc_3 : Q_count r n tn 3 = nI (cntN (hangs r) (cl (r 8))) := rfl
theorem qc_4 : Q_count r n tn 4 = nI (cntN (fun l => cntW 4 (ltx r l)) (cl (r 8))) := rfl
theorem qc_5 : Q_count r n tn 5 = nI (cntN (fun l => cntW 5 (ltx r l)) (cl (r 8))) := rfl
theorem qc_6 : Q_count r n tn 6 = nI (cntN (sold r) (cl (r 8))) := rfl
theorem qc_7 : Q_count r n tn 7 = r 9 := rfl
theorem qc_8 : Q_count r n tn 8 = nI (unsN r) := rfl
theorem qc_9 : Q_count r n tn 9 = r 10 := rfl
theorem qc_10 : Q_count r n tn 10 = nI n := rfl
theorem qc_22 : Q_count r n tn 22 = r 2 := rfl
theorem ni_nlt {a b : Nat} {x : Int32} (hx : x = nI a) (h : a ≤ b) (hb : b < 2 ^ 31) : ¬ nI b < x := by
  rw [hx, nI_ltI hb (by omega)]
  omega
theorem fs_1 (h : n ≤ 4) : ¬ 4 < Q_count r n tn 10 := ni_nlt (b := 4) qc_10 h (by omega)
theorem fs_2 (o : Ok r) : Q_count r n tn 2 + Q_count r n tn 6 = Q_count r n tn 1 := by
  rw [qc_2, qc_6, qc_1, nI_add, Nat.add_comm, cnt_not]
  exact o.e8.symm
theorem rack_bz {r : Nat → Int32} (o : Ok r) : cntN (hangs r) (cl (r 8)) = rackN r 0 + rackN r 1 := by
  have h : ∀ m, m ≤ cl (r 8) → cntN (hangs r) m = cntN (rackB r 0) m + cntN (rackB r 1) m := by
    intro m
    induction m with
    | zero => intro _; rfl
    | succ m ih =>
      intro hm
      have q := ih (by omega)
      obtain ⟨-, b0, -⟩ := o.lk (show m < cl (r 8) by omega)
      show cond (hangs r m) (cntN (hangs r) m + 1) (cntN (hangs r) m) = cond (rackB r 0 m) (cntN (rackB r 0) m + 1) (cntN (rackB r 0) m) + cond (rackB r 1 m) (cntN (rackB r 1) m + 1) (cntN (rackB r 1) m)
      unfold rackB at q ⊢
      cases hangs r m with
      | false =>
        simp only [Bool.false_and, cond_false]
        exact q
      | true =>
        simp only [Bool.true_and]
        rcases b0 with e | e
        · rw [e, decide_eq_true (show (0 : Int32) = 0 from rfl), decide_eq_false (show ¬ (0 : Int32) = 1 by decide)]
          simp only [cond_true, cond_false]
          omega
        · rw [e, decide_eq_false (show ¬ (1 : Int32) = 0 by decide), decide_eq_true (show (1 : Int32) = 1 from rfl)]
          simp only [cond_true, cond_false]
          omega
  exact h _ (Nat.le_refl _)
theorem fs_3 (o : Ok r) (o2 : Ok2 r) : ¬ 8 < Q_count r n tn 3 := by
  have a := o2.1 0
  have b := o2.1 1
  exact ni_nlt (b := 8) qc_3 (by rw [rack_bz o]; omega) (by omega)
theorem fs_4 (o2 : Ok2 r) : ¬ 8 < Q_count r n tn 8 := ni_nlt (b := 8) qc_8 o2.2 (by omega)
theorem fs_5 (o : Ok r) (s : Snd r) : Q_count r n tn 6 = Q_count r n tn 7 - Q_count r n tn 8 := by
  obtain ⟨-, -, kc, -⟩ := s
  unfold Cnt at kc
  rw [qc_6, qc_7, qc_8, o.e9, ← kc, ← nI_add]
  generalize nI (cntN (sold r) (cl (r 8))) = a
  generalize nI (unsN r) = b
  grind
/-- the lots that are sold and those in the house hold what all hold -/
theorem lsum_split {d : Nat} : ∀ {m : Nat}, sumP (fun _ => true) (fun l => ltx r l (2 + d) + ltx r l (6 + d)) m = sumP (fun l => !sold r l) (fun l => ltx r l (2 + d)) m + sumP (fun l => !sold r l) (fun l => ltx r l (6 + d)) m + sumP (fun l => sold r l) (fun l => ltx r l (2 + d) + ltx r l (6 + d)) m
  | 0 => rfl
  | m + 1 => by
    have ih := lsum_split (d := d) (m := m)
    show sumP (fun _ => true) (fun l => ltx r l (2 + d) + ltx r l (6 + d)) m + (ltx r m (2 + d) + ltx r m (6 + d)) = cond (!sold r m) (sumP (fun l => !sold r l) (fun l => ltx r l (2 + d)) m + ltx r m (2 + d)) (sumP (fun l => !sold r l) (fun l => ltx r l (2 + d)) m) + cond (!sold r m) (sumP (fun l => !sold r l) (fun l => ltx r l (6 + d)) m + ltx r m (6 + d)) (sumP (fun l => !sold r l) (fun l => ltx r l (6 + d)) m) + cond (sold r m) (sumP (fun l => sold r l) (fun l => ltx r l (2 + d) + ltx r l (6 + d)) m + (ltx r m (2 + d) + ltx r m (6 + d))) (sumP (fun l => sold r l) (fun l => ltx r l (2 + d) + ltx r l (6 + d)) m)
    rw [ih]
    generalize sumP (fun l => !sold r l) (fun l => ltx r l (2 + d)) m = a
    generalize sumP (fun l => !sold r l) (fun l => ltx r l (6 + d)) m = b
    generalize sumP (fun l => sold r l) (fun l => ltx r l (2 + d) + ltx r l (6 + d)) m = c
    generalize ltx r m (2 + d) = x
    generalize ltx r m (6 + d) = y
    cases sold r m <;> simp only [Bool.not_true, Bool.not_false, cond_true, cond_false] <;> grind
theorem qa_all {d : Nat} (hd : d < 4) : Q_account r (nI d) 0 = r (11 + d) ∧ Q_account r (nI d) 1 = vsum r d ∧ Q_account r (nI d) 2 = sumP (fun l => !sold r l) (fun l => ltx r l (2 + d)) (cl (r 8)) ∧ Q_account r (nI d) 3 = sumP (fun l => !sold r l) (fun l => ltx r l (6 + d)) (cl (r 8)) ∧ Q_account r (nI d) 4 = sumP (fun l => sold r l) (fun l => ltx r l (2 + d) + ltx r l (6 + d)) (cl (r 8)) ∧ Q_account r (nI d) 5 = r (15 + d) := by
  rcases (show d = 0 ∨ d = 1 ∨ d = 2 ∨ d = 3 by omega) with rfl | rfl | rfl | rfl <;> exact ⟨rfl, rfl, rfl, rfl, rfl, rfl⟩
theorem fs_6 {d : Nat} (s : Snd r) (hd : d < 4) : Q_account r (nI d) 0 = Q_account r (nI d) 1 + Q_account r (nI d) 2 + Q_account r (nI d) 3 + Q_account r (nI d) 4 + Q_account r (nI d) 5 := by
  obtain ⟨a0, a1, a2, a3, a4, a5⟩ := qa_all (r := r) hd
  have q := s.1 d hd
  unfold Acc lsum at q
  rw [lsum_split] at q
  rw [a0, a1, a2, a3, a4, a5, q]
  generalize vsum r d = v
  generalize sumP (fun l => !sold r l) (fun l => ltx r l (2 + d)) (cl (r 8)) = a
  generalize sumP (fun l => !sold r l) (fun l => ltx r l (6 + d)) (cl (r 8)) = b
  generalize sumP (fun l => sold r l) (fun l => ltx r l (2 + d) + ltx r l (6 + d)) (cl (r 8)) = c
  grind
theorem fs_7 {d : Nat} (o : Ok r) (hd : d < 4) : ¬ 1000000 < Q_account r (nI d) 0 := by
  rw [(qa_all hd).1]
  obtain ⟨-, q, -⟩ := o.wok d hd
  have y3 : (1000000 : Int32).toInt = 1000000 := by decide
  rw [i_lt, y3]
  omega
theorem alk_le {d : Nat} : ∀ {m : Nat}, ∃ j, alkF r d m = nI j ∧ j ≤ cntN (fun l => !sold r l) (cl (r 8))
  | 0 => ⟨0, rfl, Nat.zero_le _⟩
  | m + 1 => by
    obtain ⟨j, e, h⟩ := alk_le (d := d) (m := m)
    show ∃ j, cond (sold r m) (alkF r d m) (cond (decide (farN r d m ≤ alkF r d m)) (alkF r d m) (farN r d m)) = nI j ∧ _
    cases sold r m with
    | true => exact ⟨j, e, h⟩
    | false =>
      cases decide (farN r d m ≤ alkF r d m) with
      | true => exact ⟨j, e, h⟩
      | false => exact ⟨_, rfl, cnt_mono (fun l _ z => (Bool.and_eq_true_iff.mp z).1)⟩
theorem unsold_le (o : Ok r) : cntN (fun l => !sold r l) (cl (r 8)) ≤ 20 := Nat.le_trans (cnt_le _) (cl_le o).1
theorem qk_all {d : Nat} (hd : d < 4) : Q_alike r (nI d) = alkF r d (cl (r 8)) := by
  rcases (show d = 0 ∨ d = 1 ∨ d = 2 ∨ d = 3 by omega) with rfl | rfl | rfl | rfl <;> rfl
theorem fs_8 {d : Nat} (o : Ok r) (hd : d < 4) : ¬ Q_count r n tn 2 < Q_alike r (nI d) := by
  obtain ⟨j, e, h⟩ := alk_le (r := r) (d := d) (m := cl (r 8))
  have u := unsold_le o
  rw [qk_all hd, qc_2, e, nI_ltI (by omega) (by omega)]
  omega
theorem SOk.b4 {r : Nat → Int32} (k : SOk r) : 0 ≤ (r 4).toInt := by
  obtain ⟨h1, h2⟩ := k 4 (by omega)
  have e1 : (leastF 4).toInt = 0 := by decide
  simp only [i_le, e1] at h1
  exact h1
theorem cnt_pos {p : Nat → Bool} {j : Nat} : ∀ {m : Nat}, j < m → p j = true → 0 < cntN p m
  | 0, h, _ => absurd h (by omega)
  | m + 1, h, hp => by
    show 0 < cond (p m) (cntN p m + 1) (cntN p m)
    by_cases e : j = m
    · rw [← e, hp]
      exact Nat.succ_pos _
    · have ih := cnt_pos (m := m) (by omega) hp
      cases p m with
      | true => exact Nat.succ_pos _
      | false => exact ih
theorem cnt_zero {p : Nat → Bool} : ∀ {m : Nat}, (∀ j, j < m → p j = false) → cntN p m = 0
  | 0, _ => rfl
  | m + 1, h => by
    show cond (p m) _ _ = 0
    rw [h m (by omega)]
    exact cnt_zero (fun j hj => h j (by omega))
theorem cnt_ex {p : Nat → Bool} : ∀ {m : Nat}, 0 < cntN p m → ∃ j, j < m ∧ p j = true
  | 0, h => absurd h (Nat.lt_irrefl 0)
  | m + 1, h => by
    cases hp : p m with
    | true => exact ⟨m, by omega, hp⟩
    | false =>
      rw [cnt_f hp] at h
      obtain ⟨j, a, b⟩ := cnt_ex h
      exact ⟨j, by omega, b⟩
theorem alk_pos {d l : Nat} (o : Ok r) (hl : l < cl (r 8)) (hs : sold r l = false) : ∀ {m : Nat}, l < m → 0 < alkF r d m
  | 0, h => absurd h (by omega)
  | m + 1, h => by
    have u := unsold_le o
    show 0 < cond (sold r m) (alkF r d m) (cond (decide (farN r d m ≤ alkF r d m)) (alkF r d m) (farN r d m))
    by_cases e : l = m
    · subst e
      have hf : 0 < farN r d l := by
        unfold farN
        have p := cnt_pos (p := fun l2 => !sold r l2 && (!decide (shF (ltx r l2) d - shF (ltx r l) d < 0) && decide (shF (ltx r l2) d - shF (ltx r l) d ≤ r 4))) hl (by
          show (!sold r l && (!decide (shF (ltx r l) d - shF (ltx r l) d < 0) && decide (shF (ltx r l) d - shF (ltx r l) d ≤ r 4))) = true
          have b4 := o.set.b4
          rw [hs, show shF (ltx r l) d - shF (ltx r l) d = 0 by grind, decide_eq_false (show ¬ (0 : Int32) < 0 by decide), decide_eq_true (show 0 ≤ r 4 by rw [i_le, z_toInt]; exact b4)]
          rfl)
        have q := cnt_le (p := fun l2 => !sold r l2 && (!decide (shF (ltx r l2) d - shF (ltx r l) d < 0) && decide (shF (ltx r l2) d - shF (ltx r l) d ≤ r 4))) (cl (r 8))
        have c8 := (cl_le o).1
        rw [i_lt, z_toInt, nI_toInt (by omega)]
        omega
      rw [hs]
      cases hc : decide (farN r d l ≤ alkF r d l) with
      | true =>
        have z := of_decide_eq_true hc
        show 0 < alkF r d l
        rw [i_lt] at hf ⊢
        rw [i_le] at z
        omega
      | false => exact hf
    · have ih := alk_pos (d := d) o hl hs (m := m) (by omega)
      cases sold r m with
      | true => exact ih
      | false =>
        cases hc : decide (farN r d m ≤ alkF r d m) with
        | true => exact ih
        | false =>
          have z := of_decide_eq_false hc
          show 0 < farN r d m
          rw [i_lt] at ih ⊢
          rw [i_le] at z
          omega
theorem alk_none {d : Nat} (hs : ∀ l, l < cl (r 8) → sold r l = true) : ∀ {m : Nat}, m ≤ cl (r 8) → alkF r d m = 0
  | 0, _ => rfl
  | m + 1, h => by
    show cond (sold r m) _ _ = 0
    rw [hs m (by omega)]
    exact alk_none hs (by omega)
theorem nI_z {a : Nat} (h : a < 2 ^ 31) : nI a = 0 ↔ a = 0 := nI_eq (b := 0) h (by omega)
theorem fs_9 {d : Nat} (o : Ok r) (hd : d < 4) : bI (decide (Q_count r n tn 2 = 0)) = bI (decide (Q_alike r (nI d) = 0)) := by
  have u := unsold_le o
  congr 1
  refine decide_eq_decide.mpr ?_
  rw [qk_all hd, qc_2, nI_z (by omega)]
  constructor
  · intro z
    refine alk_none (fun l hl => ?_) (Nat.le_refl _)
    cases hs : sold r l with
    | true => rfl
    | false =>
      have p := cnt_pos (p := fun l => !sold r l) hl (by rw [hs]; rfl)
      omega
  · intro z
    rcases Nat.eq_zero_or_pos (cntN (fun l => !sold r l) (cl (r 8))) with q | q
    · exact q
    · obtain ⟨l, hl, hs⟩ := cnt_ex q
      have p := alk_pos (d := d) o hl (by cases h : sold r l; rfl; rw [h] at hs; cases hs) hl
      rw [z] at p
      exact absurd p (by decide)
theorem msum_d {d : Nat} (o : Ok r) (hd : d < 4) : ∀ {m : Nat}, m ≤ cl (r 8) → D64 1002 (1045 + 2 * m) (msum r d m)
  | 0, _ => Or.inl rfl
  | m + 1, h => by
    have ih := msum_d o hd (m := m) (by omega)
    obtain ⟨m20, lok⟩ := o.lk (show m < cl (r 8) by omega)
    have c8 := (cl_le o).1
    have hF := flS_f o (show m < cl (r 8) by omega) c8 lok hd
    cases hs : sold r m with
    | true =>
      rw [msum_t hs]
      exact ih.mono (by omega)
    | false =>
      rw [msum_f hs]
      exact add_f (hi := 1045 + 2 * m) ih (dbl_f hF (by omega) (by omega)) (by omega) (by omega) (by omega)
theorem bitI_ge {lo hi : Nat} {x : UInt32} (k : F32 lo hi x) (h : hi ≤ 254) : 0 ≤ (bitI x).toInt := by
  rcases k with rfl | ⟨E, T, e1, e2, e3, rfl⟩
  · rw [bitI_0, z_toInt]
    omega
  · rw [bitI_n (by omega) e3, nI_toInt]
    · omega
    · have p : (2 : Nat) ^ 23 = 8388608 := by decide
      have q : (2 : Nat) ^ 31 = 2147483648 := by decide
      rw [p] at e3
      rw [p, q]
      omega
theorem qm_all {d : Nat} (hd : d < 4) : Q_meanBits r (nI d) = cond (decide (unsoldN r (cl (r 8)) = 0)) (-4) (bitI (meanF r d (cl (r 8)))) := by
  rcases (show d = 0 ∨ d = 1 ∨ d = 2 ∨ d = 3 by omega) with rfl | rfl | rfl | rfl <;> rfl
theorem fs_10 {d : Nat} (o : Ok r) (hd : d < 4) : bI (decide (Q_count r n tn 2 = 0)) = bI (decide (Q_meanBits r (nI d) = -4)) := by
  have u := unsold_le o
  have c8 := (cl_le o).1
  congr 1
  refine decide_eq_decide.mpr ?_
  rw [qm_all hd, qc_2, nI_z (by omega)]
  show unsoldN r (cl (r 8)) = 0 ↔ _
  by_cases z : unsoldN r (cl (r 8)) = 0
  · rw [decide_eq_true z]
    exact ⟨fun _ => rfl, fun _ => z⟩
  · rw [decide_eq_false z]
    refine ⟨fun y => absurd y z, fun y => ?_⟩
    exfalso
    have hu : unsoldN r (cl (r 8)) ≤ 20 := u
    have f := flt_f (mean_f (n := unsoldN r (cl (r 8))) (msum_d o hd (Nat.le_refl _)) (by omega) (by omega) (by omega))
    have g := bitI_ge f (by omega)
    have y2 : bitI (meanF r d (cl (r 8))) = -4 := y
    unfold meanF at y2
    rw [y2] at g
    exact absurd g (by decide)
end
