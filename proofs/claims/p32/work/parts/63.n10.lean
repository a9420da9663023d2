theorem Ct.mono {X : Cx} {Y : Mt} {k mc ms : Nat} {av : List Value} {h : Hp} {P P2 : Option Value → Hp → Prop} (c : Ct X Y k mc ms av h P) (i : ∀ v h1, P v h1 → P2 v h1) : Ct X Y k mc ms av h P2 := by
  intro p e ha hf hc s m args below hfr hS hP hK
  obtain ⟨n, o, h1, h2, h3, ⟨⟨v, h', e1, q, hR⟩, hF⟩, hL⟩ := c p e ha hf hc s m args below hfr hS hP hK
  exact ⟨n, o, h1, h2, h3, ⟨⟨v, h', e1, i v h' q, hR⟩, hF⟩, hL⟩
theorem sysN_le {x : Int32} {n : Nat} (h : n ≤ 4) : sysN x n ≤ 4 := by
  unfold sysN hstN
  split
  · exact h
  · split <;> omega
theorem sysR_ok {x : Int32} {n : Nat} {r : Nat → Int32} {rows : Nat → Nat → Int32} (h : n ≤ 4) (o : Ok r) (rs : ∀ k, k < n → Ok (rows k)) : ∀ k, k < sysN x n → Ok (sysR x n r rows k) := by
  intro k hk
  unfold sysN hstN at hk
  unfold sysR hstR
  by_cases hx : x < 0
  · rw [if_pos hx] at hk ⊢
    exact rs k hk
  · rw [if_neg hx] at hk ⊢
    by_cases h4 : n < 4
    · rw [if_pos h4] at hk ⊢
      show Ok (if k = n then r else rows k)
      by_cases e : k = n
      · rw [if_pos e]
        exact o
      · rw [if_neg e]
        exact rs k (by omega)
    · rw [if_neg h4] at hk ⊢
      show Ok (if k = 3 then r else rows (k + 1))
      by_cases e : k = 3
      · rw [if_pos e]
        exact o
      · rw [if_neg e]
        exact rs (k + 1) (by omega)
theorem SysTo.self {X : Cx} {h : Hp} {A B m : Nat → Nat} {C : Nat → Nat → Nat} {r : Nat → Int32} {n tn : Nat} {rows : Nat → Nat → Int32} {tg : Nat → Int32} (hS : SepS A B m C) (k : SysAt X h A B m C r n rows tn tg) : SysTo X h h A B m C r n rows tn tg := ⟨C, k, hS, fun _ z => z, fun _ _ => rfl⟩
theorem Ok2_0 : Ok2 row0 := by
  refine ⟨fun k => ?_, ?_⟩
  · unfold rackN
    rw [show row0 8 = nI 0 from rfl, cl_nI (by omega)]
    exact Nat.zero_le _
  · unfold unsN
    rw [show row0 9 = nI 0 from rfl, cl_nI (by omega)]
    exact Nat.zero_le _
theorem TOk_type {n : Nat} {g : Nat → Int32} {c : Int32} (k : TOk n g) : TOk (typN n c) (typG n g c) := by
  unfold typN typG
  cases ht : typOk n c with
  | false => exact k
  | true =>
    unfold typOk at ht
    rw [Bool.and_eq_true] at ht
    have hlt := of_decide_eq_true ht.2
    obtain ⟨j, hj, e⟩ := ch_of ht.1
    refine ⟨hlt, fun p hp => ?_⟩
    show ∃ j, j < 127 ∧ upd g n c p = nI j
    have hp2 : p < n + 1 := hp
    by_cases q : p = n
    · rw [q, upd_s]
      exact ⟨j, hj, e⟩
    · rw [upd_n q]
      exact k.2 p (by omega)
theorem TOk_n0 {g : Nat → Int32} : TOk 0 g := ⟨by omega, fun p hp => absurd hp (by omega)⟩
/-- the object in the course of a method of the law, begun at h0 with the houses C0 -/
def Run (X : Cx) (h0 : Hp) (A B m : Nat → Nat) (C0 : Nat → Nat → Nat) (h : Hp) (C : Nat → Nat → Nat) (r : Nat → Int32) (n : Nat) (rows : Nat → Nat → Int32) (tn : Nat) (tg : Nat → Int32) : Prop :=
  SepS A B m C ∧ SysAt X h A B m C r n rows tn tg ∧ n ≤ 4 ∧ Ok r ∧ Ok2 r ∧ Snd r ∧ TOk tn tg ∧ (∀ k, k < n → Ok (rows k)) ∧ ∀ q, outS A B m C0 q → outS A B m C q ∧ h q = h0 q
def Sz (r : Nat → Int32) : Prop := 2 ≤ cl (r 7) ∧ 2 ≤ cl (r 8) ∧ 2 ≤ cl (r 9)
/-- what a method of the law leaves: the answer true and a sound house -/
def LEnd (X : Cx) (h0 : Hp) (A B m : Nat → Nat) (C0 : Nat → Nat → Nat) : Option Value → Hp → Prop := fun u h => u = some (.int 1) ∧ ∃ C r n rows tn tg, Run X h0 A B m C0 h C r n rows tn tg ∧ Sz r
section
variable {X : Cx} {h0 h h1 : Hp} {A B m : Nat → Nat} {C0 C : Nat → Nat → Nat} {r r2 : Nat → Int32} {n n2 tn tn2 : Nat} {rows rows2 : Nat → Nat → Int32} {tg tg2 : Nat → Int32}
theorem Run.to (R : Run X h0 A B m C0 h C r n rows tn tg) (S : SysTo X h h1 A B m C r2 n2 rows2 tn2 tg2) (hn : n2 ≤ 4) (o : Ok r2) (o2 : Ok2 r2) (s : Snd r2) (t : TOk tn2 tg2) (rs : ∀ k, k < n2 → Ok (rows2 k)) : ∃ C2, Run X h0 A B m C0 h1 C2 r2 n2 rows2 tn2 tg2 := by
  obtain ⟨-, -, -, -, -, -, -, -, f⟩ := R
  obtain ⟨C2, k2, s2, g, f2⟩ := S
  refine ⟨C2, s2, k2, hn, o, o2, s, t, rs, fun q hq => ?_⟩
  obtain ⟨a, b⟩ := f q hq
  exact ⟨g q a, (f2 q a).trans b⟩
theorem Run.same (R : Run X h0 A B m C0 h C r n rows tn tg) (S : SysTo X h h1 A B m C r n rows tn tg) : ∃ C2, Run X h0 A B m C0 h1 C2 r n rows tn tg := by
  obtain ⟨-, -, hn, o, o2, s, t, rs, -⟩ := id R
  exact R.to S hn o o2 s t rs
theorem Run.deed (R : Run X h0 A B m C0 h C r n rows tn tg) {F : Int32 × (Nat → Int32)} (S : SysTo X h h1 A B m C F.2 (sysN F.1 n) (sysR F.1 n r rows) tn tg) (o : Ok F.2) (o2 : Ok2 F.2) (s : Snd F.2) : ∃ C2, Run X h0 A B m C0 h1 C2 F.2 (sysN F.1 n) (sysR F.1 n r rows) tn tg := by
  obtain ⟨-, -, hn, p, -, -, t, rs, -⟩ := id R
  exact R.to S (sysN_le hn) o o2 s t (sysR_ok hn p rs)
theorem Run.text (R : Run X h0 A B m C0 h C r n rows tn tg) (S : SysTo X h h1 A B m C r n rows tn2 tg2) (t : TOk tn2 tg2) : ∃ C2, Run X h0 A B m C0 h1 C2 r n rows tn2 tg2 := by
  obtain ⟨-, -, hn, o, o2, s, -, rs, -⟩ := id R
  exact R.to S hn o o2 s t rs
theorem Run.begin (hS : SepS A B m C) (k : SysAt X h A B m C r n rows tn tg) (hn : n ≤ 4) (o : Ok r) (o2 : Ok2 r) (s : Snd r) (t : TOk tn tg) (rs : ∀ k, k < n → Ok (rows k)) : Run X h A B m C h C r n rows tn tg := ⟨hS, k, hn, o, o2, s, t, rs, fun _ z => ⟨z, rfl⟩⟩
/-- begun at h0, then again at h -/
theorem Run.chain (R : Run X h0 A B m C0 h C r n rows tn tg) {C2 : Nat → Nat → Nat} (R2 : Run X h A B m C h1 C2 r2 n2 rows2 tn2 tg2) : Run X h0 A B m C0 h1 C2 r2 n2 rows2 tn2 tg2 := by
  obtain ⟨-, -, -, -, -, -, -, -, f⟩ := R
  obtain ⟨a, b, c, d, e, g, i, j, f2⟩ := R2
  refine ⟨a, b, c, d, e, g, i, j, fun q hq => ?_⟩
  obtain ⟨x, y⟩ := f q hq
  obtain ⟨z, w⟩ := f2 q x
  exact ⟨z, w.trans y⟩
theorem Run.anew (R : Run X h0 A B m C0 h C r n rows tn tg) : Run X h A B m C h C r n rows tn tg := by
  obtain ⟨a, b, c, d, e, g, i, j, -⟩ := R
  exact ⟨a, b, c, d, e, g, i, j, fun _ z => ⟨z, rfl⟩⟩
/-- the state that a deed which was done has noted is the last one -/
theorem hst_last (hn : n ≤ 4) : ∃ k, hstN n = k + 1 ∧ k + 1 ≤ 4 ∧ hstR n r rows k = r := by
  unfold hstN hstR
  by_cases h4 : n < 4
  · rw [if_pos h4]
    exact ⟨n, rfl, by omega, by rw [if_pos h4]; exact if_pos rfl⟩
  · rw [if_neg h4]
    exact ⟨3, rfl, by omega, by rw [if_neg h4]; exact if_pos rfl⟩
/-- undo behind a deed that was done: the row ahead of it comes back -/
theorem ct_undoD {x : Int32} (hx : ¬ x < 0) (hn : n ≤ 4) (o : Ok r) (o2 : Ok2 r) (s : Snd r) (R : Run X h0 A B m C0 h C r2 (sysN x n) (sysR x n r rows) tn tg) : Ct X mX9_undo 5 0 0 [.ref (m 0)] h (fun u h1 => ∃ k, u = some (.int (nI k)) ∧ k < 4 ∧ ∃ C2 n2 rows2, Run X h0 A B m C0 h1 C2 r n2 rows2 tn tg) := by
  obtain ⟨k, e1, e2, e3⟩ := hst_last (r := r) (rows := rows) hn
  obtain ⟨a, b, c, d, e, g, i, j, f⟩ := id R
  have q1 : sysN x n = k + 1 := (if_neg hx).trans e1
  have q2 : sysR x n r rows = hstR n r rows := if_neg hx
  rw [q1, q2] at b
  rw [q1, q2] at j
  refine Ct.mono (ct_undoS X a e2 j b) ?_
  rintro u h1 ⟨rfl, S⟩
  rw [e3] at S
  refine ⟨k, rfl, by omega, ?_⟩
  obtain ⟨C2, R2⟩ := R.to S (by omega) o o2 s i (fun y hy => j y (by omega))
  exact ⟨C2, _, _, R2⟩
end
