section GI
variable {X : Cx} {own : String} {b : ByteArray} {mx : Nat} {rt : Option FieldType} {nm : String} {R : Room} {Qf : List Frame → Array Value → State → State → Prop} {c n pc : Nat} {L : List (Nat × Value)} {st : List Value} {h : Hp}
theorem g_getf {idx ci kf a : Nat} {ds : String} {fin : Bool} {fs : List Value} {v : Value} (hd : decode b pc = .ok (.getfield idx, 3)) (hw : FLk own idx ci kf ds fin) (ha : h a = some (ob ci fs)) (hv : fs[kf]? = some v) (k : G X own b mx rt nm R Qf c n (pc + 3) L (v :: st) h) : G X own b mx rt nm R Qf c n pc L (.ref a :: st) h := by
  intro p ev s m args below meth cd H locs ls hI hR hS hl
  obtain ⟨hx, hb, -, hown, hts, -, -, -, -, hK⟩ := id hI
  obtain ⟨q, hq, hk, hqk, hmem⟩ := hw
  obtain ⟨ws, j, hP, -, -, he⟩ := hR.get ha ob_s
  exact va_get (D := X.2.1) (cl := vwCl) (tys := tysOf X) (C := q.1) (T := q.2.1) (N := q.2.2) hx hb hts (clsF ci q hq).1 hown hK.1 hP j he hq kf hk (hts _ (inA hmem rfl)) (fun x hx => by rw [congrArg Prod.fst hqk] at hx; exact hx) hv hd (k p ev s m args below meth cd H locs ls hI hR hS hl)
theorem g_putf {idx ci kf a : Nat} {ds : String} {fs : List Value} {v : Value} {ty : FieldType} (hd : decode b pc = .ok (.putfield idx, 3)) (hw : FLk own idx ci kf ds false) (hds : parseFieldDescriptor ds = some ty) (hn : narrow ty v = v) (hf : fits ty v = true) (ha : h a = some (ob ci fs)) (hlen : kf < fs.length) (k : G X own b mx rt nm R Qf c n (pc + 3) L st (hu h a (ob ci (fs.set kf v)))) : G X own b mx rt nm R Qf c n pc L (v :: .ref a :: st) h := by
  intro p ev s m args below meth cd H locs ls hI hR hS hl
  obtain ⟨hx, hb, -, hown, hts, -, -, -, hz, hK⟩ := id hI
  obtain ⟨q, hq, hk, hqk, hmem⟩ := hw
  obtain ⟨ws, j, hP, hD, h3, he⟩ := hR.get ha ob_s
  obtain ⟨hcw, ⟨ty0, hty0⟩, hnm⟩ := clsF ci q hq
  refine va_put (D := X.2.1) (cl := vwCl) (tys := tysOf X) (C := q.1) (T := q.2.1) (N := q.2.2) (ty := ty) hx hb hts hcw ty0 hty0 hnm hown hK.1 hP hD hS j he hq kf hk (hts _ (inA hmem rfl)) (fun x hx => by rw [congrArg Prod.fst hqk] at hx; exact hx) (by rw [hqk]) (by rw [hqk]; exact hds) hn hf hlen hd (fun H1 l1 hP1 hD1 hS1 => ?_)
  exact k p ev s m args below meth cd H1 l1 ls hI (Rep.set h3 he ob_s hz hS hS1 hP1 hD1) hS1 hl
theorem g_putF {idx ci kf a : Nat} {ds : String} {fs : List Value} {v : Value} {ty : FieldType} (hd : decode b pc = .ok (.putfield idx, 3)) (hw : FLk own idx ci kf ds true) (hds : parseFieldDescriptor ds = some ty) (hn : narrow ty v = v) (hf : fits ty v = true) (hnm0 : nm = "<init>") (hcl : ∀ q, vwCl[ci]? = some q → q.1 = own) (ha : h a = some (ob ci fs)) (hlen : kf < fs.length) (k : G X own b mx rt nm R Qf c n (pc + 3) L st (hu h a (ob ci (fs.set kf v)))) : G X own b mx rt nm R Qf c n pc L (v :: .ref a :: st) h := by
  intro p ev s m args below meth cd H locs ls hI hR hS hl
  obtain ⟨hx, hb, -, hown, hts, -, -, hname, hz, hK⟩ := id hI
  obtain ⟨q, hq, hk, hqk, hmem⟩ := hw
  obtain ⟨ws, j, hP, hD, h3, he⟩ := hR.get ha ob_s
  obtain ⟨hcw, ⟨ty0, hty0⟩, hnm⟩ := clsF ci q hq
  refine va_putF (D := X.2.1) (cl := vwCl) (tys := tysOf X) (C := q.1) (T := q.2.1) (N := q.2.2) (ty := ty) hx hb hts hcw ty0 hty0 hnm hown hK.1 hP hD hS j he hq kf hk (hts _ (inA hmem rfl)) (fun x hx => by rw [congrArg Prod.fst hqk] at hx; exact hx) (by rw [hqk]) (hname.trans hnm0) ((congrArg Prod.fst hqk).trans (hcl q hq)) (by rw [hqk]; exact hds) hn hf hlen hd (fun H1 l1 hP1 hD1 hS1 => ?_)
  exact k p ev s m args below meth cd H1 l1 ls hI (Rep.set h3 he ob_s hz hS hS1 hP1 hD1) hS1 hl
theorem g_alenI {a N : Nat} {f : Nat → Int32} (hd : decode b pc = .ok (.arraylength, 1)) (ha : h a = some (oI X N f)) (k : G X own b mx rt nm R Qf c n (pc + 1) L (.int (nI N) :: st) h) : G X own b mx rt nm R Qf c n pc L (.ref a :: st) h := by
  intro p ev s m args below meth cd H locs ls hI hR hS hl
  obtain ⟨hx, hb, -, hown, hts, -, -, -, hz, hK⟩ := id hI
  obtain ⟨ws, j, hP, hD, h3, he⟩ := hR.get ha oI_s
  exact va_alen hx hb hK.1 hP j 0 he rfl rfl hd (k p ev s m args below meth cd H locs ls hI hR hS hl)
theorem g_alenC {a N : Nat} {f : Nat → Int32} (hd : decode b pc = .ok (.arraylength, 1)) (ha : h a = some (oC X N f)) (k : G X own b mx rt nm R Qf c n (pc + 1) L (.int (nI N) :: st) h) : G X own b mx rt nm R Qf c n pc L (.ref a :: st) h := by
  intro p ev s m args below meth cd H locs ls hI hR hS hl
  obtain ⟨hx, hb, -, hown, hts, -, -, -, hz, hK⟩ := id hI
  obtain ⟨ws, j, hP, hD, h3, he⟩ := hR.get ha oC_s
  exact va_alen hx hb hK.1 hP j 1 he rfl rfl hd (k p ev s m args below meth cd H locs ls hI hR hS hl)
theorem g_alenR {a N t : Nat} {f : Nat → Option Nat} (hd : decode b pc = .ok (.arraylength, 1)) (ha : h a = some (oR X t N f)) (ht : t < 6) (k : G X own b mx rt nm R Qf c n (pc + 1) L (.int (nI N) :: st) h) : G X own b mx rt nm R Qf c n pc L (.ref a :: st) h := by
  intro p ev s m args below meth cd H locs ls hI hR hS hl
  obtain ⟨hx, hb, -, hown, hts, -, -, -, hz, hK⟩ := id hI
  obtain ⟨ws, j, hP, hD, h3, he⟩ := hR.get ha oR_s
  obtain ⟨ty, hty⟩ : ∃ ty, (tysOf X)[t]? = some (X.2.2.1 t, ty) := by
    rcases (show t = 0 ∨ t = 1 ∨ t = 2 ∨ t = 3 ∨ t = 4 ∨ t = 5 by omega) with rfl | rfl | rfl | rfl | rfl | rfl <;> exact ⟨_, rfl⟩
  exact va_alen hx hb hK.1 hP j t he hty rfl hd (k p ev s m args below meth cd H locs ls hI hR hS hl)
theorem rp_ns {X : Cx} {s : State} {H : Heap} {locs : List Loc} {a N : Nat} {f : Nat → Value} (hz : X.2.2.2.1 ≤ s.heap.size) (hS : va_S (AA X) s.heap H locs) (t : va_T .int a N f (AA X) s H) : va_T .int a N f (AA X) s s.heap := by
  obtain ⟨cell, h1, h2, h3, h4, h5, h6, h7⟩ := t
  refine ⟨cell, ?_, h2, h3, h4, h5, h6, h7⟩
  have h8 : a < X.2.2.2.1 := Nat.lt_of_not_le h7
  rw [← hS.2.1 a (by omega) h7]
  exact h1
theorem g_alenS {a N : Nat} {f : Nat → Int32} (hd : decode b pc = .ok (.arraylength, 1)) (ha : h a = some (sI N f)) (k : G X own b mx rt nm R Qf c n (pc + 1) L (.int (nI N) :: st) h) : G X own b mx rt nm R Qf c n pc L (.ref a :: st) h := by
  intro p ev s m args below meth cd H locs ls hI hR hS hl
  obtain ⟨hx, hb, -, hown, hts, -, -, -, hz, hK⟩ := id hI
  exact va_tlen hx hb (rp_ns hz hS (hR.gets ha)) hS rfl hd (k p ev s m args below meth cd H locs ls hI hR hS hl)
theorem g_iald {a N : Nat} {f : Nat → Int32} {i : Int32} (hd : decode b pc = .ok (.iaload, 1)) (ha : h a = some (oI X N f)) (hi : vp_in i N) (k : G X own b mx rt nm R Qf c n (pc + 1) L (.int (f i.toNatClampNeg) :: st) h) : G X own b mx rt nm R Qf c n pc L (.int i :: .ref a :: st) h := by
  intro p ev s m args below meth cd H locs ls hI hR hS hl
  obtain ⟨hx, hb, -, hown, hts, -, -, -, hz, hK⟩ := id hI
  obtain ⟨ws, j, hP, hD, h3, he⟩ := hR.get ha oI_s
  exact va_iald hx hb hK.1 hP j 0 he rfl hi hd (k p ev s m args below meth cd H locs ls hI hR hS hl)
theorem g_iaN {a N j : Nat} {f : Nat → Int32} {v : Int32} (hd : decode b pc = .ok (.iaload, 1)) (ha : h a = some (oI X N f)) (hj : j < N) (hN : N < 2 ^ 31) (hv : f j = v) (k : G X own b mx rt nm R Qf c n (pc + 1) L (.int v :: st) h) : G X own b mx rt nm R Qf c n pc L (.int (nI j) :: .ref a :: st) h := by
  refine g_iald hd ha (vp_in_nI hj hN) ?_
  rw [nI_clamp (by omega), hv]
  exact k
theorem g_ialdS {a N : Nat} {f : Nat → Int32} {i : Int32} (hd : decode b pc = .ok (.iaload, 1)) (ha : h a = some (sI N f)) (hi : vp_in i N) (k : G X own b mx rt nm R Qf c n (pc + 1) L (.int (f i.toNatClampNeg) :: st) h) : G X own b mx rt nm R Qf c n pc L (.int i :: .ref a :: st) h := by
  intro p ev s m args below meth cd H locs ls hI hR hS hl
  obtain ⟨hx, hb, -, hown, hts, -, -, -, hz, hK⟩ := id hI
  exact va_ti hx hb (rp_ns hz hS (hR.gets ha)) hS hi rfl hd (k p ev s m args below meth cd H locs ls hI hR hS hl)
theorem g_iaS {a N j : Nat} {f : Nat → Int32} {v : Int32} (hd : decode b pc = .ok (.iaload, 1)) (ha : h a = some (sI N f)) (hj : j < N) (hN : N < 2 ^ 31) (hv : f j = v) (k : G X own b mx rt nm R Qf c n (pc + 1) L (.int v :: st) h) : G X own b mx rt nm R Qf c n pc L (.int (nI j) :: .ref a :: st) h := by
  refine g_ialdS hd ha (vp_in_nI hj hN) ?_
  rw [nI_clamp (by omega), hv]
  exact k
theorem g_cald {a N : Nat} {f : Nat → Int32} {i : Int32} (hd : decode b pc = .ok (.caload, 1)) (ha : h a = some (oC X N f)) (hi : vp_in i N) (k : G X own b mx rt nm R Qf c n (pc + 1) L (.int (f i.toNatClampNeg) :: st) h) : G X own b mx rt nm R Qf c n pc L (.int i :: .ref a :: st) h := by
  intro p ev s m args below meth cd H locs ls hI hR hS hl
  obtain ⟨hx, hb, -, hown, hts, -, -, -, hz, hK⟩ := id hI
  obtain ⟨ws, j, hP, hD, h3, he⟩ := hR.get ha oC_s
  exact va_cald hx hb hK.1 hP j 1 he rfl hi hd (k p ev s m args below meth cd H locs ls hI hR hS hl)
end GI
