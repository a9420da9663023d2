section GJ
variable {X : Cx} {own : String} {b : ByteArray} {mx : Nat} {rt : Option FieldType} {nm : String} {R : Room} {Qf : List Frame → Array Value → State → State → Prop} {c n pc : Nat} {L : List (Nat × Value)} {st : List Value} {h : Hp}
theorem g_iast {a N : Nat} {f : Nat → Int32} {i x : Int32} (hd : decode b pc = .ok (.iastore, 1)) (ha : h a = some (oI X N f)) (hi : vp_in i N) (k : G X own b mx rt nm R Qf c n (pc + 1) L st (hu h a (oI X N (upd f i.toNatClampNeg x)))) : G X own b mx rt nm R Qf c n pc L (.int x :: .int i :: .ref a :: st) h := by
  intro p ev s m args below meth cd H locs ls hI hR hS hl
  obtain ⟨hx, hb, -, hown, hts, -, -, -, hz, hK⟩ := id hI
  obtain ⟨ws, j, hP, hD, h3, he⟩ := hR.get ha oI_s
  refine va_iast hx hb hK.1 hP hD hS j 0 he rfl hi hd (fun H1 l1 hP1 hD1 hS1 => ?_)
  exact k p ev s m args below meth cd H1 l1 ls hI (Rep.set h3 he oI_s hz hS hS1 hP1 hD1) hS1 hl
theorem g_isN {a N j : Nat} {f : Nat → Int32} {x : Int32} (hd : decode b pc = .ok (.iastore, 1)) (ha : h a = some (oI X N f)) (hj : j < N) (hN : N < 2 ^ 31) (k : G X own b mx rt nm R Qf c n (pc + 1) L st (hu h a (oI X N (upd f j x)))) : G X own b mx rt nm R Qf c n pc L (.int x :: .int (nI j) :: .ref a :: st) h := by
  refine g_iast hd ha (vp_in_nI hj hN) ?_
  rw [nI_clamp (by omega)]
  exact k
theorem g_cast {a N : Nat} {f : Nat → Int32} {i x : Int32} (hd : decode b pc = .ok (.castore, 1)) (ha : h a = some (oC X N f)) (hi : vp_in i N) (hv : vp_nar .char x = x) (k : G X own b mx rt nm R Qf c n (pc + 1) L st (hu h a (oC X N (upd f i.toNatClampNeg x)))) : G X own b mx rt nm R Qf c n pc L (.int x :: .int i :: .ref a :: st) h := by
  intro p ev s m args below meth cd H locs ls hI hR hS hl
  obtain ⟨hx, hb, -, hown, hts, -, -, -, hz, hK⟩ := id hI
  obtain ⟨ws, j, hP, hD, h3, he⟩ := hR.get ha oC_s
  refine va_cast hx hb hK.1 hP hD hS j 1 he rfl hi hd (fun H1 l1 hP1 hD1 hS1 => ?_)
  rw [hv] at hP1 hD1
  exact k p ev s m args below meth cd H1 l1 ls hI (Rep.set h3 he oC_s hz hS hS1 hP1 hD1) hS1 hl
theorem g_aald {a N t : Nat} {C : String} {f : Nat → Option Nat} {i : Int32} (hd : decode b pc = .ok (.aaload, 1)) (ha : h a = some (oR X t N f)) (ht : (tysOf X)[t]? = some (X.2.2.1 t, .object C)) (hi : vp_in i N) (k : G X own b mx rt nm R Qf c n (pc + 1) L (va_rf (f i.toNatClampNeg) :: st) h) : G X own b mx rt nm R Qf c n pc L (.int i :: .ref a :: st) h := by
  intro p ev s m args below meth cd H locs ls hI hR hS hl
  obtain ⟨hx, hb, -, hown, hts, -, -, -, hz, hK⟩ := id hI
  obtain ⟨ws, j, hP, hD, h3, he⟩ := hR.get ha oR_s
  exact va_aldq hx hb hK.1 hP j t he ht hi hd (k p ev s m args below meth cd H locs ls hI hR hS hl)
theorem g_aaN {a N t j v : Nat} {C : String} {f : Nat → Option Nat} (hd : decode b pc = .ok (.aaload, 1)) (ha : h a = some (oR X t N f)) (ht : (tysOf X)[t]? = some (X.2.2.1 t, .object C)) (hj : j < N) (hN : N < 2 ^ 31) (hv : f j = some v) (k : G X own b mx rt nm R Qf c n (pc + 1) L (.ref v :: st) h) : G X own b mx rt nm R Qf c n pc L (.int (nI j) :: .ref a :: st) h := by
  refine g_aald hd ha ht (vp_in_nI hj hN) ?_
  rw [nI_clamp (by omega), hv]
  exact k
theorem g_aast {a N t v ci : Nat} {q : vw_C} {fs : List Value} {f : Nat → Option Nat} {i : Int32} (hd : decode b pc = .ok (.aastore, 1)) (ha : h a = some (oR X t N f)) (ht : (tysOf X)[t]? = some (X.2.2.1 t, .object q.1)) (hv : h v = some (ob ci fs)) (hc : vwCl[ci]? = some q) (hi : vp_in i N) (k : G X own b mx rt nm R Qf c n (pc + 1) L st (hu h a (oR X t N (va_up f i.toNatClampNeg (some v))))) : G X own b mx rt nm R Qf c n pc L (.ref v :: .int i :: .ref a :: st) h := by
  intro p ev s m args below meth cd H locs ls hI hR hS hl
  obtain ⟨hx, hb, -, hown, hts, -, -, -, hz, hK⟩ := id hI
  obtain ⟨ws, hP, hD, h3⟩ := id hR
  rcases h3 a _ ha with ⟨⟨j, he⟩, -⟩ | ⟨n0, f0, z, -⟩
  · rcases h3 v _ hv with ⟨⟨j2, he2⟩, -⟩ | ⟨n0, f0, z, -⟩
    · refine va_astq hx hb hK.1 hP hD hS j t j2 ci he ht he2 hc hi hd (fun H1 l1 hP1 hD1 hS1 => ?_)
      exact k p ev s m args below meth cd H1 l1 ls hI (Rep.set h3 he oR_s hz hS hS1 hP1 hD1) hS1 hl
    · exact absurd z (ob_s _ _)
  · exact absurd z (oR_s _ _)
theorem g_asN {a N t j v ci : Nat} {q : vw_C} {fs : List Value} {f : Nat → Option Nat} (hd : decode b pc = .ok (.aastore, 1)) (ha : h a = some (oR X t N f)) (ht : (tysOf X)[t]? = some (X.2.2.1 t, .object q.1)) (hv : h v = some (ob ci fs)) (hc : vwCl[ci]? = some q) (hj : j < N) (hN : N < 2 ^ 31) (k : G X own b mx rt nm R Qf c n (pc + 1) L st (hu h a (oR X t N (va_up f j (some v))))) : G X own b mx rt nm R Qf c n pc L (.ref v :: .int (nI j) :: .ref a :: st) h := by
  refine g_aast hd ha ht hv hc (vp_in_nI hj hN) ?_
  rw [nI_clamp (by omega)]
  exact k
theorem g_gets {idx i : Nat} {nmf : String} (hd : decode b pc = .ok (.getstatic idx, 3)) (hw : Cond.fieldLink own idx "DarkVats$Settings" nmf "[I" ∈ lw_tbl) (hi : (i = 0 ∧ nmf = "LEAST") ∨ (i = 1 ∧ nmf = "MOST") ∨ (i = 2 ∧ nmf = "FIRST")) (k : G X own b mx rt nm R Qf c n (pc + 3) L (.ref (X.2.2.2.2 i) :: st) h) : G X own b mx rt nm R Qf c n pc L st h := by
  intro p ev s m args below meth cd H locs ls hI hR hS hl
  obtain ⟨hx, hb, -, hown, hts, -, -, -, hz, -, hZ0, hZ1, hZ2, -⟩ := id hI
  rcases hi with ⟨rfl, rfl⟩ | ⟨rfl, rfl⟩ | ⟨rfl, rfl⟩
  · exact va_gets hx hb hZ0 hS hown (hts _ (inA hw rfl)) (fun _ z => z) hd (k p ev s m args below meth cd H locs ls hI hR hS hl)
  · exact va_gets hx hb hZ1 hS hown (hts _ (inA hw rfl)) (fun _ z => z) hd (k p ev s m args below meth cd H locs ls hI hR hS hl)
  · exact va_gets hx hb hZ2 hS hown (hts _ (inA hw rfl)) (fun _ z => z) hd (k p ev s m args below meth cd H locs ls hI hR hS hl)
theorem g_objInit {idx a : Nat} (hd : decode b pc = .ok (.invokespecial idx, 3)) (h1 : Cond.methodLink own idx objectInit ∈ lw_tbl) (h2 : Cond.instanceMethod objectInit ∈ lw_tbl) (h3 : Cond.code objectInit ⟨#[0xb1]⟩ 1 none ∈ lw_tbl) (hf : 1 ≤ R.frames) (hlo : (st.map fun v => v.category).sum + 12 ≤ R.locals) (k : G X own b mx rt nm R Qf c n (pc + 3) L st h) : G X own b mx rt nm R Qf c n pc L (.ref a :: st) h := by
  intro p ev s m args below meth cd H locs ls hI hR hS hl
  obtain ⟨hx, hb, hml, hown, hts, -, -, -, hz, hK⟩ := id hI
  exact W.objInit hx hb hown (hts _ (inA h1 rfl)) (hts _ (inA h2 rfl)) (hts _ (inA h3 rfl)) rfl (by rw [hml]; exact hl.1) rfl hd hf (by show 2 * (F0 m pc ls _).monitorRoom + _ + 12 ≤ _; have z : (F0 m pc ls (Value.ref a :: st)).monitorRoom = 0 := rfl; omega) (k p ev s m args below meth cd H locs ls hI hR hS hl)
theorem g_new {idx ci : Nat} {q : vw_C} {fs : List Value} {ty : Nat → FieldType} (hd : decode b pc = .ok (.new idx, 3)) (hq : vwCl[ci]? = some q) (h1 : Cond.classLink own idx q.1 ∈ lw_tbl) (h2 : Cond.instantiable q.1 q.2.2 ∈ lw_tbl) (h3 : Cond.initialized q.1 ∈ lw_tbl) (hty : ∀ k, k < q.2.2 → parseFieldDescriptor (q.2.1 k).2.2.1 = some (ty k)) (hfs : ∀ j, j < q.2.2 → defaultValue (ty j) = vp_V fs j) (hc : c + 1 ≤ R.cells) (hn : n + q.2.2 ≤ R.slots) (k : ∀ a, h a = none → G X own b mx rt nm R Qf (c + 1) (n + q.2.2) (pc + 3) L (.ref a :: st) (hu h a (ob ci fs))) : G X own b mx rt nm R Qf c n pc L st h := by
  intro p ev s m args below meth cd H locs ls hI hR hS hl
  obtain ⟨hx, hb, hml, hown, hts, -, -, -, hz, hK⟩ := id hI
  obtain ⟨ws, hP, hD, h4⟩ := id hR
  refine va_new (D := X.2.1) (cl := vwCl) (tys := tysOf X) (C := q.1) (T := q.2.1) (N := q.2.2) hx hb hts (clsF ci q hq).1 ty hty hown (hts _ (inA h1 rfl)) (hts _ (inA h2 rfl)) (hts _ (inA h3 rfl)) hK.1 hP hD hS (fun a z => Nat.le_trans hz z) hq hfs hc hn hd (fun a H1 hP1 hD1 hS1 => ?_)
  obtain ⟨r1, r2⟩ := Rep.add h4 ob_s hz hS hS1 hP1 hD1
  exact k a r2 p ev s m args below meth cd H1 locs ls hI r1 hS1 hl
theorem ra_eq {X : Cx} {s : State} {cA : ClassId} {k : Nat} {ty : FieldType} (hn : ∃ nmx : String, ∀ cX, va_RA s cX ty → s.vm.findClass nmx = some cX) (h1 : va_RA s cA ty) (h2 : va_RA s (X.2.2.1 k) ty) : cA = X.2.2.1 k := by
  obtain ⟨nmx, hn⟩ := hn
  exact Option.some.inj ((hn _ h1).symm.trans (hn _ h2))
theorem g_newI {N : Nat} {z : Int32} (hd : decode b pc = .ok (.newarray .int, 2)) (hz0 : z = nI N) (hN : N < 100000) (hc : c + 1 ≤ R.cells) (hn : n + N ≤ R.slots) (k : ∀ a, h a = none → G X own b mx rt nm R Qf (c + 1) (n + N) (pc + 2) L (.ref a :: st) (hu h a (oI X N (fun _ => 0)))) : G X own b mx rt nm R Qf c n pc L (.int z :: st) h := by
  intro p ev s m args below meth cd H locs ls hI hR hS hl
  obtain ⟨hx, hb, hml, hown, hts, -, -, -, hz, hK⟩ := id hI
  obtain ⟨ws, hP, hD, h4⟩ := id hR
  subst hz0
  refine va_newa (atype := .int) (ty := .int) (a0 := (N, .inl (fun _ => 0))) (N' := N) hx hb (hts _ (inA kA_53 rfl)) rfl hK.1 hP hD hS (fun a z => Nat.le_trans hz z) (fun cA => rfl) (nI_pos (by omega)) (nI_clamp (by omega)) (by show N * 4 ≤ _; omega) hc hn hd (fun a cA H1 hK1 hP1 hD1 hS1 => ?_)
  have e : cA = X.2.2.1 0 := ra_eq (ty := .int) ⟨_, fun _ q => q⟩ (hK1.2 6 (cA, .int) rfl).2 (hK.1.2 0 (X.2.2.1 0, .int) rfl).2
  subst e
  obtain ⟨r1, r2⟩ := Rep.add (e1 := oI X N (fun _ => 0)) h4 oI_s hz hS hS1 hP1 hD1
  exact k a r2 p ev s m args below meth cd H1 locs ls hI r1 hS1 hl
theorem g_newC {N : Nat} {z : Int32} (hd : decode b pc = .ok (.newarray .char, 2)) (hz0 : z = nI N) (hN : N < 100000) (hc : c + 1 ≤ R.cells) (hn : n + N ≤ R.slots) (k : ∀ a, h a = none → G X own b mx rt nm R Qf (c + 1) (n + N) (pc + 2) L (.ref a :: st) (hu h a (oC X N (fun _ => 0)))) : G X own b mx rt nm R Qf c n pc L (.int z :: st) h := by
  intro p ev s m args below meth cd H locs ls hI hR hS hl
  obtain ⟨hx, hb, hml, hown, hts, -, -, -, hz, hK⟩ := id hI
  obtain ⟨ws, hP, hD, h4⟩ := id hR
  subst hz0
  refine va_newa (atype := .char) (ty := .char) (a0 := (N, .inl (fun _ => 0))) (N' := N) hx hb (hts _ (inA kA_223 rfl)) rfl hK.1 hP hD hS (fun a z => Nat.le_trans hz z) (fun cA => rfl) (nI_pos (by omega)) (nI_clamp (by omega)) (by show N * 2 ≤ _; omega) hc hn hd (fun a cA H1 hK1 hP1 hD1 hS1 => ?_)
  have e : cA = X.2.2.1 1 := ra_eq (ty := .char) ⟨_, fun _ q => q⟩ (hK1.2 6 (cA, .char) rfl).2 (hK.1.2 1 (X.2.2.1 1, .char) rfl).2
  subst e
  obtain ⟨r1, r2⟩ := Rep.add (e1 := oC X N (fun _ => 0)) h4 oC_s hz hS hS1 hP1 hD1
  exact k a r2 p ev s m args below meth cd H1 locs ls hI r1 hS1 hl
theorem g_newR {N idx t : Nat} {C : String} {z : Int32} (hd : decode b pc = .ok (.anewarray idx, 3)) (h1 : Cond.classLink own idx C ∈ lw_tbl) (h2 : ∀ U H, Kk X U H → va_AO C U) (ht : (tysOf X)[t]? = some (X.2.2.1 t, .object C)) (hz0 : z = nI N) (hN : N < 100000) (hc : c + 1 ≤ R.cells) (hn : n + N ≤ R.slots) (k : ∀ a, h a = none → G X own b mx rt nm R Qf (c + 1) (n + N) (pc + 3) L (.ref a :: st) (hu h a (oR X t N (fun _ => none)))) : G X own b mx rt nm R Qf c n pc L (.int z :: st) h := by
  intro p ev s m args below meth cd H locs ls hI hR hS hl
  obtain ⟨hx, hb, hml, hown, hts, -, -, -, hz, hK⟩ := id hI
  obtain ⟨ws, hP, hD, h4⟩ := id hR
  subst hz0
  refine va_newq (C := C) (N' := N) hx hb hown (hts _ (inA h1 rfl)) (h2 _ _ hK) hK.1 hP hD hS (fun a z => Nat.le_trans hz z) (nI_pos (by omega)) (nI_clamp (by omega)) (by omega) hc hn hd (fun a cA H1 hK1 hP1 hD1 hS1 => ?_)
  have e : cA = X.2.2.1 t := ra_eq (ty := .object C) ⟨_, fun _ q => q.choose_spec.choose_spec.2.2.2⟩ (hK1.2 6 (cA, .object C) rfl).2 (hK.1.2 t (X.2.2.1 t, .object C) ht).2
  subst e
  obtain ⟨r1, r2⟩ := Rep.add (e1 := oR X t N (fun _ => none)) h4 oR_s hz hS hS1 hP1 hD1
  exact k a r2 p ev s m args below meth cd H1 locs ls hI r1 hS1 hl
theorem g_run {p : Program} {e : Env} {s : State} {m : MethodId} {args : Array Value} {below : List Frame} {meth : Method} {cd : Code} {H : Heap} {locs : List Loc} {ls : Array Slot} {mc ms : Nat} {st0 rest : List Value} {a : Array Value} {P1 : Option Value → Hp → Prop} (hr : va_Run p X.1 e R s m args below meth cd H locs c n mc ms (F0 m pc ls st0) rest (Qc X P1 a) (AA X)) (hI : In X own b mx rt nm p s m args meth cd) (hS : va_S (AA X) s.heap H locs) (hl : lv_has ls mx L) (kk : ∀ v h1, P1 v h1 → G X own b mx rt nm R Qf (c + mc) (n + ms) (pc + 3) L (v.toList ++ rest) h1) : W p X.1 e R s m args below meth cd H locs c n (Qf below args s) (F0 m pc ls st0) := by
  intro T hT X0
  obtain ⟨v, st₀, t, T', L1, h0, X', hL, e1, e2, ⟨⟨v1, h1, hv, hp, hrep⟩, hz, hk⟩, stp⟩ := hr T hT X0
  cases hv
  rw [h0] at hz hk
  have hal : s.vm.Alike t.vm := by rw [← e2]; exact X'.warmed.alike
  obtain ⟨t2, a1, b1⟩ := kk v h1 hp p e s m args below meth cd T'.heap (locs ++ L1) ls hI (by rw [e1]; exact hrep.moved hal.symm) ⟨Nat.le_trans hS.1 (by rw [e1]; exact hz), fun q h1 h2 => by rw [e1, hk q (Nat.lt_of_lt_of_le h1 hS.1) h2]; exact hS.2.1 q h1 h2, fun q hq => by
      rcases List.mem_append.mp hq with h | h
      · exact hS.2.2 q h
      · exact hL q h⟩ hl T' rfl X'
  exact ⟨t2, stp t2 a1, b1⟩
theorem ct_pre {k mc ms : Nat} {av : List Value} {p : Program} {s : State} {m : MethodId} {args : Array Value} {meth : Method} {cd : Code} {H : Heap} {locs : List Loc} (hI : In X own b mx rt nm p s m args meth cd) (hR : Rep X s H h) (hS : va_S (AA X) s.heap H locs) : FrameBlind (va_Pc av (fun U => X.2.2.2.1 ≤ U.heap.size ∧ Rep X U U.heap h ∧ Kk X U U.heap)) ∧ ∀ U : State, U.heap = H → s.WarmedH U.vm → va_Pc av (fun U => X.2.2.2.1 ≤ U.heap.size ∧ Rep X U U.heap h ∧ Kk X U U.heap) av.toArray U := by
  obtain ⟨hx, hb, hml, hown, hts, -, -, -, hz, hK⟩ := id hI
  refine ⟨fun a U g mk q => ?_, fun U hU hW => ⟨rfl, ?_, ?_, ?_⟩⟩
  · obtain ⟨q1, q2, q3, q4⟩ := q
    exact ⟨q1, q2, q3.moved (Vm.Alike.refl U.vm), q4.call g mk a⟩
  · rw [hU]; exact Nat.le_trans hz hS.1
  · rw [hU]; exact hR.moved hW.alike
  · rw [hU]
    refine hK.warm hW (fun a h1 h2 => hS.2.1 a h1 h2)
theorem g_callV {Y : Mt} {idx k1 mc ms r ci N : Nat} {fs As rest st1 : List Value} {P1 : Option Value → Hp → Prop} (hd : decode b pc = .ok (.invokevirtual idx, 3)) (hl1 : Cond.methodLink own idx Y.1 ∈ lw_tbl) (hm : Mv Y N) (hct : Ct X Y k1 mc ms (.ref r :: As) h P1) (hr : h r = some (ob ci fs)) (hc : (vwCl[ci]?).map (fun q => q.1) = some Y.1.cls) (hN : As.length = N) (hst : st1 = As.reverse ++ .ref r :: rest) (hf : k1 + 1 ≤ R.frames ∧ 40 * k1 + 40 ≤ R.locals) (hcat : (rest.map fun v => v.category).sum ≤ 8) (hmc : c + mc ≤ R.cells ∧ n + ms ≤ R.slots) (kk : ∀ v h1, P1 v h1 → G X own b mx rt nm R Qf (c + mc) (n + ms) (pc + 3) L (v.toList ++ rest) h1) : G X own b mx rt nm R Qf c n pc L st1 h := by
  intro p ev s m args below meth cd H locs ls hI hR hS hl
  obtain ⟨hx, hb, hml, hown, hts, -, -, -, hz, hK⟩ := id hI
  obtain ⟨⟨m1, m2, m3, m4, m5, m6, m7⟩, m8, m9⟩ := hm
  obtain ⟨p1, p2⟩ := ct_pre (k := k1) (mc := mc) (ms := ms) (av := .ref r :: As) hI hR hS
  obtain ⟨ws, j, hP, hD, h3, he⟩ := hR.get hr ob_s
  have hcq : ∃ q, vwCl[ci]? = some q ∧ q.1 = Y.1.cls := by
    cases hq : vwCl[ci]? with
    | none => rw [hq] at hc; cases hc
    | some q => rw [hq] at hc; exact ⟨q, rfl, Option.some.inj hc⟩
  obtain ⟨q, hq, hqc⟩ := hcq
  have hrecv := va_recv hK.1 hP hq he
  rw [hqc] at hrecv
  exact g_run (va_runV (Ts := wsA) (own := own) (C := Y.1.cls) ⟨hx, hb, hml, hown, hts⟩ hct (cwV N hts (goodA_of (fun w hw => by
    rcases List.mem_append.mp hw with h | h
    · simp only [List.mem_cons, List.not_mem_nil, or_false] at h
      rcases h with rfl | rfl | rfl | rfl
      · exact inA hl1 rfl
      · exact inA m8 rfl
      · exact inA m9 rfl
      · exact inA m2 rfl
    · rcases List.mem_cons.mp h with rfl | h
      · exact inA m1 rfl
      · exact h)) rfl rfl rfl ⟨rfl, m4, m5, m6⟩ ⟨hf.1, by show 8 + (Y.2.2.1 + 11) + 40 * k1 ≤ _; omega⟩) ⟨p1, hrecv, p2⟩ rfl hN (hl.1.trans rfl) hst (lv_room hcat) hd hmc) hI hS hl kk
theorem g_callS {Y : Mt} {idx k1 mc ms N : Nat} {As rest st1 : List Value} {P1 : Option Value → Hp → Prop} (hd : decode b pc = .ok (.invokestatic idx, 3)) (hl1 : Cond.methodLink own idx Y.1 ∈ lw_tbl) (ho : Y.1.cls = own) (hm : Ms Y N) (hct : Ct X Y k1 mc ms As h P1) (hN : As.length = N) (hst : st1 = As.reverse ++ rest) (hf : k1 + 1 ≤ R.frames ∧ 40 * k1 + 40 ≤ R.locals) (hcat : (rest.map fun v => v.category).sum ≤ 8) (hmc : c + mc ≤ R.cells ∧ n + ms ≤ R.slots) (kk : ∀ v h1, P1 v h1 → G X own b mx rt nm R Qf (c + mc) (n + ms) (pc + 3) L (v.toList ++ rest) h1) : G X own b mx rt nm R Qf c n pc L st1 h := by
  intro p ev s m args below meth cd H locs ls hI hR hS hl
  obtain ⟨hx, hb, hml, hown, hts, -, -, -, hz, hK⟩ := id hI
  obtain ⟨⟨m1, m2, m3, m4, m5, m6, m7⟩, m8⟩ := hm
  obtain ⟨p1, p2⟩ := ct_pre (k := k1) (mc := mc) (ms := ms) (av := As) hI hR hS
  exact g_run (va_runS (Ts := wsA) (own := own) ⟨hx, hb, hml, hown, hts⟩ hct (cwS N hts (goodA_of (fun w hw => by
    rcases List.mem_append.mp hw with h | h
    · simp only [List.mem_cons, List.not_mem_nil, or_false] at h
      rcases h with rfl | rfl | rfl
      · exact inA hl1 rfl
      · exact inA m8 rfl
      · exact ho ▸ inA m2 rfl
    · rcases List.mem_cons.mp h with rfl | h
      · exact inA m1 rfl
      · exact h)) rfl rfl rfl ⟨ho, m4, m5, m6⟩ ⟨hf.1, by show 8 + (Y.2.2.1 + 11) + 40 * k1 ≤ _; omega⟩) ⟨p1, p2⟩ rfl hN (hl.1.trans rfl) hst (lv_room hcat) hd hmc) hI hS hl kk
theorem g_callN {Y : Mt} {idx k1 mc ms N : Nat} {host : String} {As rest st1 : List Value} {P1 : Option Value → Hp → Prop} (hd : decode b pc = .ok (.invokestatic idx, 3)) (hl1 : Cond.methodLinkNest own idx Y.1 host ∈ lw_tbl) (hm : Ms Y N) (hct : Ct X Y k1 mc ms As h P1) (hN : As.length = N) (hst : st1 = As.reverse ++ rest) (hf : k1 + 1 ≤ R.frames ∧ 40 * k1 + 40 ≤ R.locals) (hcat : (rest.map fun v => v.category).sum ≤ 8) (hmc : c + mc ≤ R.cells ∧ n + ms ≤ R.slots) (kk : ∀ v h1, P1 v h1 → G X own b mx rt nm R Qf (c + mc) (n + ms) (pc + 3) L (v.toList ++ rest) h1) : G X own b mx rt nm R Qf c n pc L st1 h := by
  intro p ev s m args below meth cd H locs ls hI hR hS hl
  obtain ⟨hx, hb, hml, hown, hts, -, -, -, hz, hK⟩ := id hI
  obtain ⟨⟨m1, m2, m3, m4, m5, m6, m7⟩, m8⟩ := hm
  obtain ⟨p1, p2⟩ := ct_pre (k := k1) (mc := mc) (ms := ms) (av := As) hI hR hS
  exact g_run (va_runSN (Ts := wsA) (own := own) ⟨hx, hb, hml, hown, hts⟩ hct ⟨va_cnB N hts (goodA_of (fun w hw => by
      rcases List.mem_cons.mp hw with rfl | h
      · exact inA m1 rfl
      · exact h)) rfl rfl rfl (hK.2.2.2.2.2.2.2.2 _ _ _ _ hl1) (hts _ (inA m2 rfl)) ⟨m4, m5, m6⟩ ⟨hf.1, by show 8 + (Y.2.2.1 + 11) + 40 * k1 ≤ _; omega⟩, hts _ (inA m8 rfl), trivial⟩ ⟨p1, p2⟩ rfl hN (hl.1.trans rfl) hst (lv_room hcat) hd hmc) hI hS hl kk
theorem g_callI {Y : Mt} {idx k1 mc ms r N : Nat} {As rest st1 : List Value} {P1 : Option Value → Hp → Prop} (hd : decode b pc = .ok (.invokespecial idx, 3)) (hl1 : Cond.methodLink own idx Y.1 ∈ lw_tbl) (hm : Mi Y N) (hct : Ct X Y k1 mc ms (.ref r :: As) h P1) (hN : As.length = N) (hst : st1 = As.reverse ++ .ref r :: rest) (hf : k1 + 1 ≤ R.frames ∧ 40 * k1 + 40 ≤ R.locals) (hcat : (rest.map fun v => v.category).sum ≤ 8) (hmc : c + mc ≤ R.cells ∧ n + ms ≤ R.slots) (kk : ∀ v h1, P1 v h1 → G X own b mx rt nm R Qf (c + mc) (n + ms) (pc + 3) L (v.toList ++ rest) h1) : G X own b mx rt nm R Qf c n pc L st1 h := by
  intro p ev s m args below meth cd H locs ls hI hR hS hl
  obtain ⟨hx, hb, hml, hown, hts, -, -, -, hz, hK⟩ := id hI
  obtain ⟨⟨m1, m2, m3, m4, m5, m6, m7⟩, m8, m9, m10⟩ := hm
  obtain ⟨p1, p2⟩ := ct_pre (k := k1) (mc := mc) (ms := ms) (av := .ref r :: As) hI hR hS
  exact g_run (va_runI (Ts := wsA) (own := own) (ws := wsY Y) ⟨hx, hb, hml, hown, hts⟩ hct (cwI N hts (goodA_of (fun w hw => by
      rcases List.mem_cons.mp hw with rfl | h
      · exact inA m1 rfl
      · exact h)) (bytes := Y.2.1) (maxL := Y.2.2.1) (by show Cond.code _ _ _ Y.2.2.2 :: wsA = _; rw [m10]) rfl rfl (hts _ (inA m2 rfl)) (hts _ (inA hl1 rfl)) (hts _ (inA m8 rfl)) m9 ⟨m4, m5, m6⟩ ⟨hf.1, by show 8 + (Y.2.2.1 + 11) + 40 * k1 ≤ _; omega⟩) ⟨p1, p2⟩ rfl hN (hl.1.trans rfl) hst (lv_room hcat) hd hmc) hI hS hl kk
theorem g_callIN {Y : Mt} {idx k1 mc ms r N : Nat} {host : String} {As rest st1 : List Value} {P1 : Option Value → Hp → Prop} (hd : decode b pc = .ok (.invokespecial idx, 3)) (hl1 : Cond.methodLinkNest own idx Y.1 host ∈ lw_tbl) (hm : Mi Y N) (hct : Ct X Y k1 mc ms (.ref r :: As) h P1) (hN : As.length = N) (hst : st1 = As.reverse ++ .ref r :: rest) (hf : k1 + 1 ≤ R.frames ∧ 40 * k1 + 40 ≤ R.locals) (hcat : (rest.map fun v => v.category).sum ≤ 8) (hmc : c + mc ≤ R.cells ∧ n + ms ≤ R.slots) (kk : ∀ v h1, P1 v h1 → G X own b mx rt nm R Qf (c + mc) (n + ms) (pc + 3) L (v.toList ++ rest) h1) : G X own b mx rt nm R Qf c n pc L st1 h := by
  intro p ev s m args below meth cd H locs ls hI hR hS hl
  obtain ⟨hx, hb, hml, hown, hts, -, -, -, hz, hK⟩ := id hI
  obtain ⟨⟨m1, m2, m3, m4, m5, m6, m7⟩, m8, m9, m10⟩ := hm
  obtain ⟨p1, p2⟩ := ct_pre (k := k1) (mc := mc) (ms := ms) (av := .ref r :: As) hI hR hS
  exact g_run (va_runIN (Ts := wsA) (own := own) (ws := wsY Y) ⟨hx, hb, hml, hown, hts⟩ hct ⟨va_cnB (bytes := Y.2.1) (maxL := Y.2.2.1) N hts (goodA_of (fun w hw => by
      rcases List.mem_cons.mp hw with rfl | h
      · exact inA m1 rfl
      · exact h)) (by show Cond.code _ _ _ Y.2.2.2 :: wsA = _; rw [m10]) rfl rfl (hK.2.2.2.2.2.2.2.2 _ _ _ _ hl1) (hts _ (inA m2 rfl)) ⟨m4, m5, m6⟩ ⟨hf.1, by show 8 + (Y.2.2.1 + 11) + 40 * k1 ≤ _; omega⟩, m9, hts _ (inA m8 rfl)⟩ ⟨p1, p2⟩ rfl hN (hl.1.trans rfl) hst (lv_room hcat) hd hmc) hI hS hl kk
end GJ
section GRet
variable {X : Cx} {own : String} {b : ByteArray} {mx : Nat} {rt : Option FieldType} {nm : String} {R : Room} {mc ms c n pc : Nat} {L : List (Nat × Value)} {h : Hp} {P : Option Value → Hp → Prop}
theorem g_iret {x : Int32} (hd : decode b pc = .ok (.ireturn, 1)) (hr : rt = some .int) (hc : c ≤ mc) (hn : n ≤ ms) (hp : P (some (.int x)) h) : G X own b mx rt nm R (Fm X P mc ms) c n pc L [.int x] h := by
  intro p ev s m args below meth cd H locs ls hI hR hS hl
  obtain ⟨hx, hb, hml, hown, hts, hrt, hlk, -, hz, hK⟩ := id hI
  exact W.widen hc hn (W.iret hx hb (hrt.trans hr) (fun t ht hW => ⟨⟨_, h, rfl, hp, by rw [ht]; exact hR.moved hW.alike⟩, hS.F ht⟩) hS.2.2 hd hlk)
theorem g_zret {x : Int32} {ty : FieldType} (hd : decode b pc = .ok (.ireturn, 1)) (hr : rt = some ty) (hx0 : narrow ty (.int x) = .int x) (hc : c ≤ mc) (hn : n ≤ ms) (hp : P (some (.int x)) h) : G X own b mx rt nm R (Fm X P mc ms) c n pc L [.int x] h := by
  intro p ev s m args below meth cd H locs ls hI hR hS hl
  obtain ⟨hx, hb, hml, hown, hts, hrt, hlk, -, hz, hK⟩ := id hI
  exact W.widen hc hn (W.zret hx hb (hrt.trans hr) hx0 (fun t ht hW => ⟨⟨_, h, rfl, hp, by rw [ht]; exact hR.moved hW.alike⟩, hS.F ht⟩) hS.2.2 hd hlk)
theorem g_fret {x : UInt32} (hd : decode b pc = .ok (.freturn, 1)) (hr : rt = some .float) (hc : c ≤ mc) (hn : n ≤ ms) (hp : P (some (.float x)) h) : G X own b mx rt nm R (Fm X P mc ms) c n pc L [.float x] h := by
  intro p ev s m args below meth cd H locs ls hI hR hS hl
  obtain ⟨hx, hb, hml, hown, hts, hrt, hlk, -, hz, hK⟩ := id hI
  exact W.widen hc hn (W.fret hx hb (hrt.trans hr) (fun t ht hW => ⟨⟨_, h, rfl, hp, by rw [ht]; exact hR.moved hW.alike⟩, hS.F ht⟩) hS.2.2 hd hlk)
theorem g_vret (hd : decode b pc = .ok (.return_, 1)) (hr : rt = none) (hc : c ≤ mc) (hn : n ≤ ms) (hp : P none h) : G X own b mx rt nm R (Fm X P mc ms) c n pc L [] h := by
  intro p ev s m args below meth cd H locs ls hI hR hS hl
  obtain ⟨hx, hb, hml, hown, hts, hrt, hlk, -, hz, hK⟩ := id hI
  exact W.widen hc hn (W.vret hx hb (hrt.trans hr) (fun t ht hW => ⟨⟨_, h, rfl, hp, by rw [ht]; exact hR.moved hW.alike⟩, hS.F ht⟩) hS.2.2 hd hlk)
theorem g_aret {v : Value} {C : String} (hd : decode b pc = .ok (.areturn, 1)) (hr : rt = some (.object C)) (hv : isRf v) (hc : c ≤ mc) (hn : n ≤ ms) (hp : P (some v) h) : G X own b mx rt nm R (Fm X P mc ms) c n pc L [v] h := by
  intro p ev s m args below meth cd H locs ls hI hR hS hl
  obtain ⟨hx, hb, hml, hown, hts, hrt, hlk, -, hz, hK⟩ := id hI
  exact W.widen hc hn (W.aret hx hb (hrt.trans hr) (Or.inl ⟨_, rfl⟩) hv (fun t ht hW => ⟨⟨_, h, rfl, hp, by rw [ht]; exact hR.moved hW.alike⟩, hS.F ht⟩) hS.2.2 hd hlk)
end GRet
