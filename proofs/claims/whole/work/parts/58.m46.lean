/-- the states that the model keeps are these rows -/
def Kept (g : Nat → Int32) (n : Nat) (rows : Nat → Nat → Int32) : Prop := ∀ k j, k < n → j < 643 → g (643 * k + j) = rows k j
theorem put1_in {g r : Nat → Int32} {m j : Nat} (hj : j < 643) : put1 g r m 643 (643 * m + j) = r j := by
  unfold put1
  rw [if_pos (by omega), show 643 * m + j - 643 * m = j by omega]
theorem put1_out {g r : Nat → Int32} {m k j : Nat} (hk : k < m) (hj : j < 643) : put1 g r m 643 (643 * k + j) = g (643 * k + j) := by
  unfold put1
  rw [if_neg (by omega)]
theorem Kept.lo {g r : Nat → Int32} {n : Nat} {rows : Nat → Nat → Int32} (k : Kept g n rows) (hn : n < 4) : Kept (put1 g (nr 643 r) n 643) (hstN n) (hstR n r rows) := by
  intro i j hi hj
  unfold hstN at hi
  unfold hstR
  rw [if_pos hn] at hi ⊢
  by_cases e : i = n
  · subst e
    rw [put1_in hj, nr_lt hj]
    simp
  · rw [put1_out (by omega) hj, k i j (by omega) hj]
    simp only [if_neg e]
theorem Kept.hi {g r : Nat → Int32} {rows : Nat → Nat → Int32} (k : Kept g 4 rows) : Kept (put1 (shf g 2572) (nr 643 r) 3 643) (hstN 4) (hstR 4 r rows) := by
  intro i j hi hj
  unfold hstN at hi
  unfold hstR
  rw [if_neg (by omega)] at hi ⊢
  by_cases e : i = 3
  · rw [e, put1_in hj, nr_lt hj]
    simp
  · rw [put1_out (by omega) hj]
    simp only [if_neg e]
    unfold shf
    rw [if_pos (by omega), show 643 * i + j + 643 = 643 * (i + 1) + j by omega]
    exact k (i + 1) j (by omega) hj
