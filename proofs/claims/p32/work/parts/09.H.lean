section GH0
theorem inX_0 : ∀ w ∈ u_ws RX0 TX0 2, w ∈ lw_tbl := by decide +kernel
theorem inX_1 : ∀ w ∈ u_ws RX1 TX1 10, w ∈ lw_tbl := by decide +kernel
theorem inX_2 : ∀ w ∈ u_ws RX2 TX2 9, w ∈ lw_tbl := by decide +kernel
theorem inX_3 : ∀ w ∈ u_ws RX3 TX3 2, w ∈ lw_tbl := by decide +kernel
theorem inX_4 : ∀ w ∈ u_ws RX4 TX4 2, w ∈ lw_tbl := by decide +kernel
theorem inX_5 : ∀ w ∈ u_ws RX5 TX5 8, w ∈ lw_tbl := by decide +kernel
theorem inX_6 : ∀ w ∈ u_ws RX6 TX6 1, w ∈ lw_tbl := by decide +kernel
theorem inX_7 : ∀ w ∈ u_ws RX7 TX7 2, w ∈ lw_tbl := by decide +kernel
theorem inX_8 : ∀ w ∈ u_ws RX8 TX8 4, w ∈ lw_tbl := by decide +kernel
theorem inX_9 : ∀ w ∈ u_ws RX9 TX9 6, w ∈ lw_tbl := by decide +kernel
theorem inA_l {ws : List Cond} (h : ∀ w ∈ ws, w ∈ lw_tbl) (g : ws.all goodWord = true) : ∀ w ∈ ws, w ∈ wsA := fun w hw => inA (h w hw) (List.all_eq_true.mp g w hw)
def ClsF (q : vw_C) : Prop := (∀ w ∈ u_ws q.1 q.2.1 q.2.2, w ∈ wsA) ∧ (∃ ty : Nat → FieldType, ∀ k, k < q.2.2 → parseFieldDescriptor (q.2.1 k).2.2.1 = some (ty k)) ∧ ∀ a, a < q.2.2 → ∀ b, b < q.2.2 → a ≠ b → (q.2.1 a).2.1 ≠ (q.2.1 b).2.1
theorem clsF : ∀ (ci : Nat) (q : vw_C), vwCl[ci]? = some q → ClsF q
  | 0, q, h => by cases h; exact ⟨inA_l inX_0 (by decide +kernel), ⟨_, tyX0_ok⟩, nmX0⟩
  | 1, q, h => by cases h; exact ⟨inA_l inX_1 (by decide +kernel), ⟨_, tyX1_ok⟩, nmX1⟩
  | 2, q, h => by cases h; exact ⟨inA_l inX_2 (by decide +kernel), ⟨_, tyX2_ok⟩, nmX2⟩
  | 3, q, h => by cases h; exact ⟨inA_l inX_3 (by decide +kernel), ⟨_, tyX3_ok⟩, nmX3⟩
  | 4, q, h => by cases h; exact ⟨inA_l inX_4 (by decide +kernel), ⟨_, tyX4_ok⟩, nmX4⟩
  | 5, q, h => by cases h; exact ⟨inA_l inX_5 (by decide +kernel), ⟨_, tyX5_ok⟩, nmX5⟩
  | 6, q, h => by cases h; exact ⟨inA_l inX_6 (by decide +kernel), ⟨_, tyX6_ok⟩, nmX6⟩
  | 7, q, h => by cases h; exact ⟨inA_l inX_7 (by decide +kernel), ⟨_, tyX7_ok⟩, nmX7⟩
  | 8, q, h => by cases h; exact ⟨inA_l inX_8 (by decide +kernel), ⟨_, tyX8_ok⟩, nmX8⟩
  | 9, q, h => by cases h; exact ⟨inA_l inX_9 (by decide +kernel), ⟨_, tyX9_ok⟩, nmX9⟩
  | k + 10, q, h => by simp at h
theorem Rep.get {X : Cx} {U : State} {H : Heap} {h : Hp} {a : Nat} {e : va_E} (hR : Rep X U H h) (ha : h a = some e) (hs : ∀ n f, e ≠ sI n f) : ∃ (ws : va_W) (k : Nat), va_P X.2.1 vwCl ws H ∧ va_D (AA X) ws ∧ (∀ (a : Nat) (e : va_E), h a = some e → ((∃ k : Nat, ws[k]? = some (a, e)) ∧ ∀ n f, e ≠ sI n f) ∨ ∃ n f, e = sI n f ∧ va_T .int a n (fun j => .int (f j)) (AA X) U H) ∧ ws[k]? = some (a, e) := by
  obtain ⟨ws, h1, h2, h3⟩ := hR
  rcases h3 a e ha with ⟨⟨k, hk⟩, -⟩ | ⟨n, f, q, -⟩
  · exact ⟨ws, k, h1, h2, h3, hk⟩
  · exact absurd q (hs n f)
theorem Rep.gets {X : Cx} {U : State} {H : Heap} {h : Hp} {a n : Nat} {f : Nat → Int32} (hR : Rep X U H h) (ha : h a = some (sI n f)) : va_T .int a n (fun j => .int (f j)) (AA X) U H := by
  obtain ⟨ws, h1, h2, h3⟩ := hR
  rcases h3 a _ ha with ⟨-, z⟩ | ⟨n0, f0, q, t⟩
  · exact absurd rfl (z n f)
  · simp only [sI, Sum.inl.injEq, Prod.mk.injEq, true_and] at q
    obtain ⟨rfl, q⟩ := q
    simp only [Sum.inr.injEq, Sum.inl.injEq] at q
    have e : f0 = f := funext fun j => by
      have z := congrArg Int64.toInt32 (congrFun q j)
      simpa using z.symm
    rw [← e]
    exact t
theorem st_kept {X : Cx} {s : State} {H H1 : Heap} {l l1 : List Loc} {a n : Nat} {f : Nat → Value} (hz : X.2.2.2.1 ≤ s.heap.size) (hS : va_S (AA X) s.heap H l) (hS1 : va_S (AA X) s.heap H1 l1) (t : va_T .int a n f (AA X) s H) : va_T .int a n f (AA X) s H1 :=
  t.kept (fun q _ h2 => by
    have h3 : q < s.heap.size := by
      rcases Nat.lt_or_ge q X.2.2.2.1 with z | z
      · omega
      · exact absurd z h2
    exact (hS1.2.1 q h3 h2).trans (hS.2.1 q h3 h2).symm)
theorem Rep.set {X : Cx} {s : State} {H H1 : Heap} {h : Hp} {ws : va_W} {k a : Nat} {e e1 : va_E} {l l1 : List Loc} (h3 : ∀ (a : Nat) (e : va_E), h a = some e → ((∃ k : Nat, ws[k]? = some (a, e)) ∧ ∀ n f, e ≠ sI n f) ∨ ∃ n f, e = sI n f ∧ va_T .int a n (fun j => .int (f j)) (AA X) s H) (hk : ws[k]? = some (a, e)) (he : ∀ n f, e1 ≠ sI n f) (hz : X.2.2.2.1 ≤ s.heap.size) (hS : va_S (AA X) s.heap H l) (hS1 : va_S (AA X) s.heap H1 l1) (hP : va_P X.2.1 vwCl (ws.set k (a, e1)) H1) (hD : va_D (AA X) (ws.set k (a, e1))) : Rep X s H1 (hu h a e1) := by
  refine ⟨_, hP, hD, fun b x q => ?_⟩
  have hlt : k < ws.length := (List.getElem?_eq_some_iff.mp hk).1
  by_cases hb : b = a
  · subst hb
    rw [hu_same] at q
    cases q
    exact Or.inl ⟨⟨k, List.getElem?_set_self hlt⟩, he⟩
  · rw [hu_ne hb] at q
    rcases h3 b x q with ⟨⟨j, hj⟩, hx⟩ | ⟨n, f, e1, e2⟩
    · refine Or.inl ⟨⟨j, ?_⟩, hx⟩
      rw [List.getElem?_set_ne]
      · exact hj
      · intro z
        subst z
        rw [hk] at hj
        cases hj
        exact hb rfl
    · exact Or.inr ⟨n, f, e1, st_kept hz hS hS1 e2⟩
theorem Rep.add {X : Cx} {s : State} {H H1 : Heap} {h : Hp} {ws : va_W} {a : Nat} {e1 : va_E} {l l1 : List Loc} (h3 : ∀ (a : Nat) (e : va_E), h a = some e → ((∃ k : Nat, ws[k]? = some (a, e)) ∧ ∀ n f, e ≠ sI n f) ∨ ∃ n f, e = sI n f ∧ va_T .int a n (fun j => .int (f j)) (AA X) s H) (he : ∀ n f, e1 ≠ sI n f) (hz : X.2.2.2.1 ≤ s.heap.size) (hS : va_S (AA X) s.heap H l) (hS1 : va_S (AA X) s.heap H1 l1) (hP : va_P X.2.1 vwCl (ws ++ [(a, e1)]) H1) (hD : va_D (AA X) (ws ++ [(a, e1)])) : Rep X s H1 (hu h a e1) ∧ h a = none := by
  have hl : (ws ++ [(a, e1)])[ws.length]? = some (a, e1) := by simp
  refine ⟨⟨_, hP, hD, fun b x q => ?_⟩, ?_⟩
  · by_cases hb : b = a
    · subst hb
      rw [hu_same] at q
      cases q
      exact Or.inl ⟨⟨ws.length, hl⟩, he⟩
    · rw [hu_ne hb] at q
      rcases h3 b x q with ⟨⟨j, hj⟩, hx⟩ | ⟨n, f, e1, e2⟩
      · exact Or.inl ⟨⟨j, by rw [List.getElem?_append_left (List.getElem?_eq_some_iff.mp hj).1]; exact hj⟩, hx⟩
      · exact Or.inr ⟨n, f, e1, st_kept hz hS hS1 e2⟩
  · cases hx : h a with
    | none => rfl
    | some x =>
      exfalso
      rcases h3 a x hx with ⟨⟨j, hj⟩, -⟩ | ⟨n, f, e2, e3⟩
      · have hj2 := (List.getElem?_eq_some_iff.mp hj).1
        have hj3 : (ws ++ [(a, e1)])[j]? = some (a, x) := by rw [List.getElem?_append_left hj2]; exact hj
        have z := hD.1 j ws.length _ _ hj3 hl rfl
        omega
      · obtain ⟨cell, -, -, -, -, -, -, z⟩ := e3
        exact z (hD.2 ws.length _ hl)
theorem oI_s {X : Cx} {m : Nat} {g : Nat → Int32} : ∀ n f, oI X m g ≠ sI n f := fun n f q => by simp [oI, sI] at q
theorem oC_s {X : Cx} {m : Nat} {g : Nat → Int32} : ∀ n f, oC X m g ≠ sI n f := fun n f q => by simp [oC, sI] at q
theorem oR_s {X : Cx} {k m : Nat} {g : Nat → Option Nat} : ∀ n f, oR X k m g ≠ sI n f := fun n f q => by simp [oR, sI] at q
theorem ob_s {ci : Nat} {fs : List Value} : ∀ n f, ob ci fs ≠ sI n f := fun n f q => by simp [ob, sI] at q
theorem in_tys0 {X : Cx} : (tysOf X)[0]? = some (X.2.2.1 0, .int) := rfl
end GH0
