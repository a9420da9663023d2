/-- the text of n signs at g is L -/
def Tx (n : Nat) (g : Nat → Int32) (L : List Nat) : Prop := n = L.length ∧ ∀ p, p < L.length → g p = nI (L.getD p 0)
/-- the digits of a number below 20 -/
def Dg (x : Nat) : List Nat := if 9 < x then [48 + x / 10, 48 + x % 10] else [48 + x]
theorem Dg_1 {x : Nat} (h : ¬ 9 < x) : Dg x = [48 + x] := if_neg h
theorem Dg_2 {x : Nat} (h : 9 < x) : Dg x = [48 + x / 10, 48 + x % 10] := if_pos h
theorem Dg_len (x : Nat) : 1 ≤ (Dg x).length ∧ (Dg x).length ≤ 2 := by
  by_cases h : 9 < x
  · rw [Dg_2 h]
    exact ⟨Nat.le_succ 1, Nat.le_refl 2⟩
  · rw [Dg_1 h]
    exact ⟨Nat.le_refl 1, Nat.le_succ 1⟩
theorem Tx_0 {g : Nat → Int32} : Tx 0 g [] := ⟨rfl, fun p h => absurd h (Nat.not_lt_zero p)⟩
section
variable {n : Nat} {g : Nat → Int32} {L : List Nat}
theorem Tx.sg (t : Tx n g L) (p : Nat) : sg n g p = nI (L.getD p 0) := by
  obtain ⟨e, h⟩ := t
  by_cases z : p < n
  · rw [sg_in z]
    exact h p (by omega)
  · rw [sg_out z, List.getD_eq_getElem?_getD, List.getElem?_eq_none (by omega)]
    rfl
theorem Tx.ty (t : Tx n g L) (hl : L.length < 60) {c : Nat} (h1 : 32 ≤ c) (h2 : c ≤ 126) : F_type n (nI c) = nI (L.length + 1) ∧ Tx (typN n (nI c)) (typG n g (nI c)) (L ++ [c]) := by
  obtain ⟨e, h⟩ := t
  have e1 : (32 : Int32).toInt = 32 := by decide
  have e2 : (126 : Int32).toInt = 126 := by decide
  have hr : rngB 32 126 (nI c) = true := rngB_t (by rw [i_le, nI_toInt (by omega), e1]; omega) (by rw [i_le, nI_toInt (by omega), e2]; omega)
  have hn : decide (n < 60) = true := decide_eq_true (by omega)
  have hk : typOk n (nI c) = true := by
    unfold typOk
    rw [hr, hn]
    rfl
  refine ⟨?_, ?_, fun p hp => ?_⟩
  · unfold F_type
    rw [hr, hn, e]
    rfl
  · unfold typN
    rw [hk, List.length_append, e]
    rfl
  · unfold typG
    rw [hk]
    rw [List.length_append] at hp
    have hp2 : p < L.length + 1 := hp
    show upd g n (nI c) p = _
    by_cases z : p = n
    · rw [z, upd_s, List.getD_eq_getElem?_getD, List.getElem?_append_right (by omega), e, Nat.sub_self]
      rfl
    · rw [upd_n z, h p (by omega), List.getD_eq_getElem?_getD, List.getD_eq_getElem?_getD, List.getElem?_append_left (by omega)]
theorem tx_dz (t : Tx n g L) (p : Nat) {c : Nat} (e : L.getD p 0 = c) (hc : dg (nI c) = -1) : dg (sg n g p) = -1 := by
  rw [t.sg p, e]
  exact hc
theorem dg_d {x : Nat} (h : x < 10) : dg (nI (48 + x)) = nI x ∧ (0 : Int32) ≤ nI x := by
  have z : ∀ x, x < 10 → dg (nI (48 + x)) = nI x ∧ (0 : Int32) ≤ nI x := by decide +kernel
  exact z x h
theorem rdN_a {p x : Nat} (hx : x < 10) (h0 : sg n g p = nI (48 + x)) (h1 : dg (sg n g (p + 1)) = -1) : rdN n g p = (nI x, p + 1) := by
  unfold rdN
  rw [h0, h1, (dg_d hx).1, decide_eq_true (dg_d hx).2, decide_eq_false (show ¬ (0 : Int32) ≤ -1 by decide)]
  rfl
theorem rdN_b {p x : Nat} (hx : x < 20) (h0 : sg n g p = nI (48 + x / 10)) (h1 : sg n g (p + 1) = nI (48 + x % 10)) : rdN n g p = (nI x, p + 2) := by
  unfold rdN
  have a := dg_d (show x / 10 < 10 by omega)
  have b := dg_d (show x % 10 < 10 by omega)
  have z : ∀ x, x < 20 → nI (x / 10) * 10 + nI (x % 10) = nI x := by decide +kernel
  rw [h0, h1, a.1, b.1, decide_eq_true a.2, decide_eq_true b.2, z x hx]
  rfl
/-- a number of the text, with something that is no digit behind it -/
theorem rdN_l {p x : Nat} (hx : x < 20) (h0 : ∀ i, i < (Dg x).length → sg n g (p + i) = nI ((Dg x).getD i 0)) (h1 : dg (sg n g (p + (Dg x).length)) = -1) : rdN n g p = (nI x, p + (Dg x).length) := by
  by_cases h : 9 < x
  · rw [Dg_2 h] at h0 h1 ⊢
    exact rdN_b hx (h0 0 (by decide : 0 < 2)) (h0 1 (by decide : 1 < 2))
  · rw [Dg_1 h] at h0 h1 ⊢
    exact rdN_a (by omega) (h0 0 (by decide : 0 < 1)) h1
theorem rdW_1 {p q c x : Nat} (hc : c = 114 ∨ c = 101 ∨ c = 116) (hx : x < 1000) (h0 : sg n g p = nI c) (h1 : rdN n g (p + 1) = (nI x, q)) (h2 : sg n g q = nI 59) : rdW n g p = some (nI c, nI x, 0, q + 1) := by
  unfold rdW
  rw [h0, h1]
  have z : decide (0 ≤ nI x) = true := decide_eq_true (nI_pos' (by omega))
  show cond (twoB (nI c)) _ (cond (oneB (nI c)) (cond (decide (0 ≤ nI x) && decide (sg n g q = 59)) (some (nI c, nI x, 0, q + 1)) none) none) = _
  rw [h2, z]
  rcases hc with rfl | rfl | rfl <;> rfl
theorem rdW_0 {p q c : Nat} {y : Int32} (hc : c = 114 ∨ c = 101 ∨ c = 116) (h0 : sg n g p = nI c) (h1 : rdN n g (p + 1) = (y, q)) (h2 : ¬ 0 ≤ y ∨ sg n g q = 0) : rdW n g p = none := by
  unfold rdW
  rw [h0, h1]
  show cond (twoB (nI c)) _ (cond (oneB (nI c)) (cond (decide (0 ≤ y) && decide (sg n g q = 59)) (some (nI c, y, 0, q + 1)) none) none) = _
  rcases h2 with h2 | h2
  · rw [decide_eq_false h2]
    rcases hc with rfl | rfl | rfl <;> rfl
  · rw [h2, decide_eq_false (show ¬ (0 : Int32) = 59 by decide), Bool.and_false]
    rcases hc with rfl | rfl | rfl <;> rfl
theorem rdW_2 {p q q2 x y : Nat} (hx : x < 1000) (hy : y < 1000) (h0 : sg n g p = nI 100) (h1 : rdN n g (p + 1) = (nI x, q)) (h2 : sg n g q = nI 44) (h3 : rdN n g (q + 1) = (nI y, q2)) (h4 : sg n g q2 = nI 59) : rdW n g p = some (nI 100, nI x, nI y, q2 + 1) := by
  unfold rdW
  have z : decide (0 ≤ nI x) = true := decide_eq_true (nI_pos' (by omega))
  have z2 : decide (0 ≤ nI y) = true := decide_eq_true (nI_pos' (by omega))
  rw [h0, h1]
  show cond (twoB (nI 100)) (cond (decide (0 ≤ nI x) && decide (sg n g q = 44)) (cond (decide (0 ≤ (rdN n g (q + 1)).1) && decide (sg n g (rdN n g (q + 1)).2 = 59)) (some (nI 100, nI x, (rdN n g (q + 1)).1, (rdN n g (q + 1)).2 + 1)) none) none) _ = _
  rw [h3]
  show cond (twoB (nI 100)) (cond (decide (0 ≤ nI x) && decide (sg n g q = 44)) (cond (decide (0 ≤ nI y) && decide (sg n g q2 = 59)) (some (nI 100, nI x, nI y, q2 + 1)) none) none) _ = _
  rw [h2, h4, z, z2]
  rfl
end
/-- the texts of the law -/
def L1 (l v : Nat) : List Nat := [114] ++ Dg l ++ [59, 101, 48 + v, 59]
def L2 (l v : Nat) : List Nat := L1 l v ++ ([100] ++ Dg l ++ [44, 48 + v, 59])
def L4 (l : Nat) : List Nat := [114] ++ Dg l ++ [59]
def L5 (l : Nat) : List Nat := [114] ++ Dg l ++ [59, 116]
section
variable {n l v : Nat} {g : Nat → Int32}
theorem rd_1 (t : Tx n g (L1 l v)) (hl : l < 20) (hv : v < 10) : n = 5 + (Dg l).length ∧ rdW n g 0 = some (nI 114, nI l, 0, 2 + (Dg l).length) ∧ rdW n g (2 + (Dg l).length) = some (nI 101, nI v, 0, 5 + (Dg l).length) := by
  by_cases h : 9 < l
  · unfold L1 at t
    rw [Dg_2 h] at t ⊢
    exact ⟨t.1, rdW_1 (Or.inl rfl) (by omega) (t.sg 0) (rdN_b hl (t.sg 1) (t.sg 2)) (t.sg 3), rdW_1 (Or.inr (Or.inl rfl)) (by omega) (t.sg 4) (rdN_a hv (t.sg 5) (tx_dz t (c := 59) 6 rfl (by decide))) (t.sg 6)⟩
  · unfold L1 at t
    rw [Dg_1 h] at t ⊢
    exact ⟨t.1, rdW_1 (Or.inl rfl) (by omega) (t.sg 0) (rdN_a (by omega) (t.sg 1) (tx_dz t (c := 59) 2 rfl (by decide))) (t.sg 2), rdW_1 (Or.inr (Or.inl rfl)) (by omega) (t.sg 3) (rdN_a hv (t.sg 4) (tx_dz t (c := 59) 5 rfl (by decide))) (t.sg 5)⟩
theorem rd_2 (t : Tx n g (L2 l v)) (hl : l < 20) (hv : v < 10) : n = 9 + 2 * (Dg l).length ∧ rdW n g 0 = some (nI 114, nI l, 0, 2 + (Dg l).length) ∧ rdW n g (2 + (Dg l).length) = some (nI 101, nI v, 0, 5 + (Dg l).length) ∧ rdW n g (5 + (Dg l).length) = some (nI 100, nI l, nI v, 9 + 2 * (Dg l).length) := by
  by_cases h : 9 < l
  · unfold L2 L1 at t
    rw [Dg_2 h] at t ⊢
    exact ⟨t.1, rdW_1 (Or.inl rfl) (by omega) (t.sg 0) (rdN_b hl (t.sg 1) (t.sg 2)) (t.sg 3), rdW_1 (Or.inr (Or.inl rfl)) (by omega) (t.sg 4) (rdN_a hv (t.sg 5) (tx_dz t (c := 59) 6 rfl (by decide))) (t.sg 6), rdW_2 (by omega) (by omega) (t.sg 7) (rdN_b hl (t.sg 8) (t.sg 9)) (t.sg 10) (rdN_a hv (t.sg 11) (tx_dz t (c := 59) 12 rfl (by decide))) (t.sg 12)⟩
  · unfold L2 L1 at t
    rw [Dg_1 h] at t ⊢
    exact ⟨t.1, rdW_1 (Or.inl rfl) (by omega) (t.sg 0) (rdN_a (by omega) (t.sg 1) (tx_dz t (c := 59) 2 rfl (by decide))) (t.sg 2), rdW_1 (Or.inr (Or.inl rfl)) (by omega) (t.sg 3) (rdN_a hv (t.sg 4) (tx_dz t (c := 59) 5 rfl (by decide))) (t.sg 5), rdW_2 (by omega) (by omega) (t.sg 6) (rdN_a (by omega) (t.sg 7) (tx_dz t (c := 44) 8 rfl (by decide))) (t.sg 8) (rdN_a hv (t.sg 9) (tx_dz t (c := 59) 10 rfl (by decide))) (t.sg 10)⟩
theorem rd_3 (t : Tx n g ([114] ++ Dg l)) (hl : l < 20) : 0 < n ∧ rdW n g 0 = none := by
  by_cases h : 9 < l
  · rw [Dg_2 h] at t
    exact ⟨by rw [t.1]; exact Nat.succ_pos _, rdW_0 (Or.inl rfl) (t.sg 0) (rdN_b hl (t.sg 1) (t.sg 2)) (Or.inr (t.sg 3))⟩
  · rw [Dg_1 h] at t
    exact ⟨by rw [t.1]; exact Nat.succ_pos _, rdW_0 (Or.inl rfl) (t.sg 0) (rdN_a (by omega) (t.sg 1) (tx_dz t (c := 0) 2 rfl (by decide))) (Or.inr (t.sg 2))⟩
theorem rdN_z {n p : Nat} {g : Nat → Int32} (h : dg (sg n g p) = -1) : rdN n g p = (-1, p) := by
  unfold rdN
  rw [h]
  rfl
theorem rd_5 (t : Tx n g (L5 l)) (hl : l < 20) : n = 3 + (Dg l).length ∧ rdW n g 0 = some (nI 114, nI l, 0, 2 + (Dg l).length) ∧ rdW n g (2 + (Dg l).length) = none := by
  by_cases h : 9 < l
  · unfold L5 at t
    rw [Dg_2 h] at t ⊢
    exact ⟨t.1, rdW_1 (Or.inl rfl) (by omega) (t.sg 0) (rdN_b hl (t.sg 1) (t.sg 2)) (t.sg 3), rdW_0 (Or.inr (Or.inr rfl)) (t.sg 4) (rdN_z (tx_dz t (c := 0) 5 rfl (by decide))) (Or.inl (by decide))⟩
  · unfold L5 at t
    rw [Dg_1 h] at t ⊢
    exact ⟨t.1, rdW_1 (Or.inl rfl) (by omega) (t.sg 0) (rdN_a (by omega) (t.sg 1) (tx_dz t (c := 59) 2 rfl (by decide))) (t.sg 2), rdW_0 (Or.inr (Or.inr rfl)) (t.sg 3) (rdN_z (tx_dz t (c := 0) 4 rfl (by decide))) (Or.inl (by decide))⟩
end
