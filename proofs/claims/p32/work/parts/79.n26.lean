theorem kZ_0 : Cond.laysStatic "DarkVats$Settings" "LEAST" "[I" ∈ lw_tbl := List.mem_of_getElem? (i := 710) (by decide +kernel)
theorem kZ_1 : Cond.laysStatic "DarkVats$Settings" "MOST" "[I" ∈ lw_tbl := List.mem_of_getElem? (i := 713) (by decide +kernel)
theorem kZ_2 : Cond.laysStatic "DarkVats$Settings" "FIRST" "[I" ∈ lw_tbl := List.mem_of_getElem? (i := 48) (by decide +kernel)
/-- a static array of seven numbers, as the Statement gives it -/
theorem st_arr {args : Array Value} {s : State} {nmf : String} {v : Nat → Int32} {A : Nat → Prop} (harr : (Cond.arrayOf (.static "DarkVats$Settings" nmf "[I") .int).before args s = true) (hlen : (Cond.eq (.length (.static "DarkVats$Settings" nmf "[I")) (.int 7)).before args s = true) (hel : ∀ j : Nat, j < 7 → (Cond.eq (.elem (.static "DarkVats$Settings" nmf "[I") (.int (Int32.ofNat j))) (.int (v j))).before args s = true) (hl : (Cond.laysStatic "DarkVats$Settings" nmf "[I").before args s = true) (hini : (Cond.initialized "DarkVats$Settings").before args s = true) (hA : ∀ a : Nat, a < s.heap.size → ¬ A a) : ∃ t : Nat, (Term.static "DarkVats$Settings" nmf "[I").eval args s none [] s = some (.ref t) ∧ va_Z "DarkVats$Settings" nmf "[I" (.ref t) A s s.heap ∧ va_T .int t 7 (fun j => .int (v j)) A s s.heap := by
  obtain ⟨t, ht, hT⟩ := va_Tof (N := 7) (f := fun j => .int (v j)) (by omega) harr (va_eqt hlen) (fun j hj => va_eqt (hel j hj)) hA
  exact ⟨t, ht, va_Zof hl hini ht hA, hT⟩
theorem ne_st {args : Array Value} {s : State} {t1 t2 : Term} {b t : Nat} (h : (Cond.not (Cond.eq t1 t2)).before args s = true) (e1 : t1.eval args s none [] s = some (.ref b)) (e2 : t2.eval args s none [] s = some (.ref t)) : b ≠ t := by
  intro e
  subst e
  simp [Cond.before, Cond.holds, Cond.value, e1, e2] at h
theorem va_T_ne {t u : Nat} {f g : Nat → Value} {A : Nat → Prop} {U : State} {H : Heap} (h1 : va_T .int t 7 f A U H) (h2 : va_T .int u 7 g A U H) (n : f 0 ≠ g 0) : t ≠ u := by
  intro e
  subst e
  obtain ⟨c1, a1, -, -, -, -, a6, -⟩ := h1
  obtain ⟨c2, b1, -, -, -, -, b6, -⟩ := h2
  cases a1.symm.trans b1
  exact n (Option.some.inj ((a6 0 (by omega)).symm.trans (b6 0 (by omega))))
theorem cls_all {s : State} {args : Array Value} (hts : ∀ w ∈ lw_tbl, w.before args s = true) : ∀ c : Nat, ∃ (cC : ClassId) (iS : Nat → Nat), ∀ q : vw_C, vwCl[c]? = some q → u_Kn s q.1 q.2.1 q.2.2 cC iS
  | 0 => by
    obtain ⟨a, b, k⟩ := u_known (C := RX0) (T := TX0) (N := 2) (n := 2) hts inX_0 (hts _ kX0_w)
    exact ⟨a, b, fun q hq => by cases hq; exact k⟩
  | 1 => by
    obtain ⟨a, b, k⟩ := u_known (C := RX1) (T := TX1) (N := 10) (n := 10) hts inX_1 (hts _ kX1_w)
    exact ⟨a, b, fun q hq => by cases hq; exact k⟩
  | 2 => by
    obtain ⟨a, b, k⟩ := u_known (C := RX2) (T := TX2) (N := 9) (n := 9) hts inX_2 (hts _ kX2_w)
    exact ⟨a, b, fun q hq => by cases hq; exact k⟩
  | 3 => by
    obtain ⟨a, b, k⟩ := u_known (C := RX3) (T := TX3) (N := 2) (n := 2) hts inX_3 (hts _ kX3_w)
    exact ⟨a, b, fun q hq => by cases hq; exact k⟩
  | 4 => by
    obtain ⟨a, b, k⟩ := u_known (C := RX4) (T := TX4) (N := 2) (n := 2) hts inX_4 (hts _ kX4_w)
    exact ⟨a, b, fun q hq => by cases hq; exact k⟩
  | 5 => by
    obtain ⟨a, b, k⟩ := u_known (C := RX5) (T := TX5) (N := 8) (n := 8) hts inX_5 (hts _ kX5_w)
    exact ⟨a, b, fun q hq => by cases hq; exact k⟩
  | 6 => by
    obtain ⟨a, b, k⟩ := u_known (C := RX6) (T := TX6) (N := 1) (n := 1) hts inX_6 (hts _ kX6_w)
    exact ⟨a, b, fun q hq => by cases hq; exact k⟩
  | 7 => by
    obtain ⟨a, b, k⟩ := u_known (C := RX7) (T := TX7) (N := 2) (n := 2) hts inX_7 (hts _ kX7_w)
    exact ⟨a, b, fun q hq => by cases hq; exact k⟩
  | 8 => by
    obtain ⟨a, b, k⟩ := u_known (C := RX8) (T := TX8) (N := 4) (n := 4) hts inX_8 (hts _ kX8_w)
    exact ⟨a, b, fun q hq => by cases hq; exact k⟩
  | 9 => by
    obtain ⟨a, b, k⟩ := u_known (C := RX9) (T := TX9) (N := 6) (n := 6) hts inX_9 (hts _ kX9_w)
    exact ⟨a, b, fun q hq => by cases hq; exact k⟩
  | k + 10 => by
    obtain ⟨a, b, -⟩ := u_known (C := RX9) (T := TX9) (N := 6) (n := 6) hts inX_9 (hts _ kX9_w)
    exact ⟨a, b, fun q hq => by simp at hq⟩
theorem arr_p {s : State} {args : Array Value} {ty : FieldType} (h : (Cond.arrayClass ty).before args s = true) : ∃ cA : ClassId, ArrOfT s cA ty ∧ s.vm.findClass ("[" ++ ty.toString) = some cA := by
  obtain ⟨cA, kA, comp, h1, h2, h3⟩ := Cond.arrayClass_spec h
  exact ⟨cA, fun n z => ⟨fun k h => (by cases h), kA, h2, comp, h3⟩, h1⟩
theorem arr_o {s : State} {args : Array Value} {C : String} (h : (Cond.arrayOver (.object C)).before args s = true) : ∃ cA : ClassId, ArrOfT s cA (.object C) ∧ va_RA s cA (.object C) := by
  obtain ⟨comp, c, k, h1, h2, h3, h4, h5⟩ := Cond.arrayOver_spec h
  exact ⟨c, fun n z => ⟨fun k h => (by cases h), k, h3, comp, h4⟩, k, comp, h3, h4, h1, h5⟩
set_option maxHeartbeats 4000000 in
theorem law_Kk {s : State} {b L : Nat} {xs : Nat → Int32} (l : Launch) (hts : ∀ w ∈ lw_tbl, w.before #[Value.ref b] s = true) (hX : va_X b L xs s s.heap) (hbl : b < s.heap.size) (hgv : (Jvm.Cond.and given_1 narrow_1).before #[Value.ref b] s = true) : ∃ (X : Cx) (h : Hp), X.1 = l ∧ X.2.2.2.1 = s.heap.size ∧ Kk X s s.heap ∧ Rep X s s.heap h ∧ h b = some (sI L xs) ∧ StatAt X h := by
  have hs := flat_of_before _ hgv
  have hA : ∀ a : Nat, a < s.heap.size → ¬ s.heap.size ≤ a := fun a h z => by omega
  have hini := hts _ kX6_n
  obtain ⟨t0, v0, z0, T0⟩ := st_arr (v := leastF) (A := fun q => s.heap.size ≤ q) (hs _ (by decide +kernel)) (hs _ (by decide +kernel)) (fun j hj => by
    rcases (show j = 0 ∨ j = 1 ∨ j = 2 ∨ j = 3 ∨ j = 4 ∨ j = 5 ∨ j = 6 by omega) with rfl | rfl | rfl | rfl | rfl | rfl | rfl <;> exact hs _ (by decide +kernel)) (hts _ kZ_0) hini hA
  obtain ⟨t1, v1, z1, T1⟩ := st_arr (v := mostF) (A := fun q => s.heap.size ≤ q) (hs _ (by decide +kernel)) (hs _ (by decide +kernel)) (fun j hj => by
    rcases (show j = 0 ∨ j = 1 ∨ j = 2 ∨ j = 3 ∨ j = 4 ∨ j = 5 ∨ j = 6 by omega) with rfl | rfl | rfl | rfl | rfl | rfl | rfl <;> exact hs _ (by decide +kernel)) (hts _ kZ_1) hini hA
  obtain ⟨t2, v2, z2, T2⟩ := st_arr (v := firstF) (A := fun q => s.heap.size ≤ q) (hs _ (by decide +kernel)) (hs _ (by decide +kernel)) (fun j hj => by
    rcases (show j = 0 ∨ j = 1 ∨ j = 2 ∨ j = 3 ∨ j = 4 ∨ j = 5 ∨ j = 6 by omega) with rfl | rfl | rfl | rfl | rfl | rfl | rfl <;> exact hs _ (by decide +kernel)) (hts _ kZ_2) hini hA
  have ea : (Term.arg 0).eval #[Value.ref b] s none [] s = some (.ref b) := rfl
  have nb0 : b ≠ t0 := ne_st (hs (Cond.not (Cond.eq (.arg 0) (.static "DarkVats$Settings" "LEAST" "[I"))) (by decide +kernel)) ea v0
  have nb1 : b ≠ t1 := ne_st (hs (Cond.not (Cond.eq (.arg 0) (.static "DarkVats$Settings" "MOST" "[I"))) (by decide +kernel)) ea v1
  have nb2 : b ≠ t2 := ne_st (hs (Cond.not (Cond.eq (.arg 0) (.static "DarkVats$Settings" "FIRST" "[I"))) (by decide +kernel)) ea v2
  have n01 : t0 ≠ t1 := va_T_ne T0 T1 (by decide)
  have n02 : t0 ≠ t2 := va_T_ne T0 T2 (by decide)
  have n12 : t1 ≠ t2 := va_T_ne T1 T2 (by decide)
  obtain ⟨c0, a0, r0⟩ := arr_p (hts _ kA_53)
  obtain ⟨c1, a1, r1⟩ := arr_p (hts _ kA_223)
  obtain ⟨c2, a2, r2⟩ := arr_o (hts _ kO_36)
  obtain ⟨c3, a3, r3⟩ := arr_o (hts _ kO_38)
  obtain ⟨c4, a4, r4⟩ := arr_o (hts _ kO_40)
  obtain ⟨c5, a5, r5⟩ := arr_o (hts _ kO_198)
  have hcl := cls_all hts
  let X : Cx := (l, (fun c => (hcl c).choose, fun c => (hcl c).choose_spec.choose), fun k => [c0, c1, c2, c3, c4, c5].getD k 0, s.heap.size, fun k => [t0, t1, t2].getD k 0)
  refine ⟨X, fun q => if q = b then some (sI L xs) else if q = t0 then some (sI 7 leastF) else if q = t1 then some (sI 7 mostF) else if q = t2 then some (sI 7 firstF) else none, rfl, rfl, ?_, ?_, if_pos rfl, ?_, ?_, ?_⟩
  · refine ⟨⟨fun c q hq => (hcl c).choose_spec.choose_spec q hq, fun k q hk => ?_⟩, z0, z1, z2, hts _ kO_36, hts _ kO_38, hts _ kO_40, hts _ kO_198, fun a i x g hw => va_Nw.of rfl (hts _ hw)⟩
    rcases k with _ | _ | _ | _ | _ | _ | k
    · cases hk; exact ⟨a0, r0⟩
    · cases hk; exact ⟨a1, r1⟩
    · cases hk; exact ⟨a2, r2⟩
    · cases hk; exact ⟨a3, r3⟩
    · cases hk; exact ⟨a4, r4⟩
    · cases hk; exact ⟨a5, r5⟩
    · simp at hk
  · refine ⟨[], fun k q h => by simp at h, ⟨fun i j p q h => by simp at h, fun k q h => by simp at h⟩, fun a e he => Or.inr ?_⟩
    have he : (if a = b then some (sI L xs) else if a = t0 then some (sI 7 leastF) else if a = t1 then some (sI 7 mostF) else if a = t2 then some (sI 7 firstF) else none) = some e := he
    by_cases eb : a = b
    · rw [if_pos eb] at he
      cases he
      obtain ⟨scr, x1, x2, x3, x4, x5⟩ := hX
      exact ⟨L, xs, rfl, scr, by rw [eb]; exact x1, x2, x3, Nat.le_of_eq x4.symm, congrArg Nat.toInt32 x4, x5, by rw [eb]; exact hA b hbl⟩
    · rw [if_neg eb] at he
      by_cases e0 : a = t0
      · rw [if_pos e0] at he
        cases he
        exact ⟨7, leastF, rfl, by rw [e0]; exact T0⟩
      · rw [if_neg e0] at he
        by_cases e1 : a = t1
        · rw [if_pos e1] at he
          cases he
          exact ⟨7, mostF, rfl, by rw [e1]; exact T1⟩
        · rw [if_neg e1] at he
          by_cases e2 : a = t2
          · rw [if_pos e2] at he
            cases he
            exact ⟨7, firstF, rfl, by rw [e2]; exact T2⟩
          · rw [if_neg e2] at he
            cases he
  · show (if t0 = b then some (sI L xs) else if t0 = t0 then some (sI 7 leastF) else if t0 = t1 then some (sI 7 mostF) else if t0 = t2 then some (sI 7 firstF) else none) = some (sI 7 leastF)
    rw [if_neg (Ne.symm nb0), if_pos rfl]
  · show (if t1 = b then some (sI L xs) else if t1 = t0 then some (sI 7 leastF) else if t1 = t1 then some (sI 7 mostF) else if t1 = t2 then some (sI 7 firstF) else none) = some (sI 7 mostF)
    rw [if_neg (Ne.symm nb1), if_neg (Ne.symm n01), if_pos rfl]
  · show (if t2 = b then some (sI L xs) else if t2 = t0 then some (sI 7 leastF) else if t2 = t1 then some (sI 7 mostF) else if t2 = t2 then some (sI 7 firstF) else none) = some (sI 7 firstF)
    rw [if_neg (Ne.symm nb2), if_neg (Ne.symm n02), if_neg (Ne.symm n12), if_pos rfl]
