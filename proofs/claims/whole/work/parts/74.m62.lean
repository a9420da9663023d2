theorem fc_eq {E T : Nat} {op : CmpOp} (h1 : 1 ≤ E) (hE : E ≤ 254) (hT : T < 2 ^ 23) : Op.cmpValue (FP.fcmp (nf E T) (nf E T)) op = 0 := by
  show Op.cmpValue (FP.Core.order _ _) op = _
  rw [dec32 h1 hE hT, ord_ab]
  unfold compareOfLessAndEq
  rw [if_neg (Int.lt_irrefl _), if_pos rfl]
  rfl
theorem fc_me {lo hi : Nat} {x : UInt32} {op : CmpOp} (k : F32 lo hi x) (h1 : 1 ≤ lo) (h2 : hi ≤ 254) : Op.cmpValue (FP.fcmp x x) op = 0 := by
  rcases k with rfl | ⟨E, T, e1, e2, hT, rfl⟩
  · exact fc_0
  · exact fc_eq (by omega) (by omega) hT
theorem kF_n : Cond.initialized "java/lang/Float" ∈ lw_tbl := List.mem_of_getElem? (i := 65) (by decide +kernel)
theorem kFI_t : Cond.static yJxf58ca_floatToIntBits_5c35a ∈ lw_tbl := List.mem_of_getElem? (i := 1020) (by decide +kernel)
theorem kFI_c : Cond.code yJxf58ca_floatToIntBits_5c35a cJxf58ca_floatToIntBits_5c35a 1 (some .int) ∈ lw_tbl := List.mem_of_getElem? (i := 1021) (by decide +kernel)
theorem kFN_t : Cond.static yJxf58ca_isNaN_12338 ∈ lw_tbl := List.mem_of_getElem? (i := 1023) (by decide +kernel)
theorem kFN_c : Cond.code yJxf58ca_isNaN_12338 cJxf58ca_isNaN_12338 1 (some .boolean) ∈ lw_tbl := List.mem_of_getElem? (i := 1024) (by decide +kernel)
theorem kFR_t : Cond.static ⟨"java/lang/Float", "floatToRawIntBits", "(F)I"⟩ ∈ lw_tbl := List.mem_of_getElem? (i := 1026) (by decide +kernel)
theorem kFR_v : Cond.native ⟨"java/lang/Float", "floatToRawIntBits", "(F)I"⟩ ∈ lw_tbl := List.mem_of_getElem? (i := 1027) (by decide +kernel)
abbrev mFI : Mt := (yJxf58ca_floatToIntBits_5c35a, cJxf58ca_floatToIntBits_5c35a, 1, (some .int))
abbrev mFN : Mt := (yJxf58ca_isNaN_12338, cJxf58ca_isNaN_12338, 1, (some .boolean))
theorem Met.ofWF {l : Launch} {y : MethodName} {ws ws' : List Cond} {rm : Room} {Pc : Array Value → State → Prop} {Qc : Array Value → State → Outcome → State → Prop} {mc ms : Nat} {free : Addr → Prop} {cc : ByteArray} {maxL : Nat} {ret : Option FieldType}
    (hy : plainFor y = true) (hw : ws = Cond.code y cc maxL ret :: ws')
    (body : ∀ p e s m args below meth c s₁, BodyLoose p l y (headSpec ws rm) cc maxL ret e s m args below meth c s₁ → c.maxLocals = maxL → Pc args s →
      W p l e (headSpec ws rm).room s m args below meth c s.heap [] 0 0 (MQ below Qc args s mc ms free) (entryFrame m args maxL)) : Met l y ws rm Pc Qc mc ms free := by
  refine MetFree.of_bodySF (code := cc) (maxLocals := maxL) (ret := ret) hy ?_ ?_
  · intro args s m h hn
    obtain ⟨meth, c, h1, h2, h3, h4, h5, h6, -, -⟩ := Cond.code_spec hn (atoms_spec (ws := ws) h _ (by rw [hw]; exact List.mem_cons_self))
    exact ⟨meth, c, h1, h2, h3, h4, h5, h6⟩
  · intro p e s m args below meth c s₁ B hml hP _
    have hh0 : s₁.heap = s.heap := by rw [B.state]; rfl
    obtain ⟨t, a1, o, b1, b2, b3⟩ := body p e s m args below meth c s₁ B hml hP s₁ hh0 (Stand.of_body B)
    exact ⟨t, o, a1, b1, b2, ⟨b3.1, b3.2⟩⟩
set_option maxHeartbeats 1000000 in
theorem Ct.ofGF {X : Cx} {h : Hp} {Y : Mt} {k mc ms : Nat} {av : List Value} {P : Option Value → Hp → Prop} (hy : plainFor Y.1 = true) (hn : (lg_sl av).length ≤ Y.2.2.1)
    (g : G X Y.1.cls Y.2.1 Y.2.2.1 Y.2.2.2 Y.1.name (Rm k mc ms) (Fm X P mc ms) 0 0 0 (lv_args 0 av) [] h) : Ct X Y k mc ms av h P := by
  refine Met.ofWF (cc := Y.2.1) (maxL := Y.2.2.1) (ret := Y.2.2.2) hy rfl ?_
  intro p e s m args below meth cd s₁ B hml hv
  obtain ⟨rfl, hsz, hR, hK⟩ := hv
  have hts := atoms_spec (ws := wsY Y) B.pre
  rw [lg_entry_eq]
  exact g p e s m av.toArray below meth cd s.heap [] _ ⟨B.exec, B.bytes, hml, findClass_of_methodNamed B.named, fun w hw => hts w (List.mem_cons_of_mem _ hw), B.returns, B.notSynchronized, (name_of_methodNamed B.named B.method).1, hsz, hK⟩ hR va_S.rf (lv_entry av hn)
def MsF (Y : Mt) (n : Nat) : Prop := (Cond.code Y.1 Y.2.1 Y.2.2.1 Y.2.2.2 ∈ lw_tbl ∧ Cond.initialized Y.1.cls ∈ lw_tbl ∧ plainFor Y.1 = true ∧ Y.1.cls ≠ "java/lang/invoke/MethodHandle" ∧ Y.1.cls ≠ "java/lang/invoke/VarHandle" ∧ (parseMethodDescriptor Y.1.desc).map (fun d => d.parameters.length) = some n ∧ Y.2.2.1 ≤ 21) ∧ Cond.static Y.1 ∈ lw_tbl
theorem vFI : MsF mFI 1 := ⟨⟨kFI_c, kF_n, by decide +kernel, by decide +kernel, by decide +kernel, by decide +kernel, Nat.le_of_ble_eq_true rfl⟩, kFI_t⟩
theorem vFN : MsF mFN 1 := ⟨⟨kFN_c, kF_n, by decide +kernel, by decide +kernel, by decide +kernel, by decide +kernel, Nat.le_of_ble_eq_true rfl⟩, kFN_t⟩
theorem dFI_0 : decode cJxf58ca_floatToIntBits_5c35a 0 = .ok (.fload_n 0, 1) := by decide +kernel
theorem dFI_1 : decode cJxf58ca_floatToIntBits_5c35a 1 = .ok (.invokestatic 59, 3) := by decide +kernel
theorem dFI_4 : decode cJxf58ca_floatToIntBits_5c35a 4 = .ok (.ifCond .ne 8, 3) := by decide +kernel
theorem dFI_7 : decode cJxf58ca_floatToIntBits_5c35a 7 = .ok (.fload_n 0, 1) := by decide +kernel
theorem dFI_8 : decode cJxf58ca_floatToIntBits_5c35a 8 = .ok (.invokestatic 74, 3) := by decide +kernel
theorem dFI_11 : decode cJxf58ca_floatToIntBits_5c35a 11 = .ok (.ireturn, 1) := by decide +kernel
theorem dFN_0 : decode cJxf58ca_isNaN_12338 0 = .ok (.fload_n 0, 1) := by decide +kernel
theorem dFN_1 : decode cJxf58ca_isNaN_12338 1 = .ok (.fload_n 0, 1) := by decide +kernel
theorem dFN_2 : decode cJxf58ca_isNaN_12338 2 = .ok (.fcmp .l, 1) := by decide +kernel
theorem dFN_3 : decode cJxf58ca_isNaN_12338 3 = .ok (.ifCond .eq 7, 3) := by decide +kernel
theorem dFN_10 : decode cJxf58ca_isNaN_12338 10 = .ok (.iconst 0, 1) := by decide +kernel
theorem dFN_11 : decode cJxf58ca_isNaN_12338 11 = .ok (.ireturn, 1) := by decide +kernel
section
variable {X : Cx} {own : String} {b : ByteArray} {mx : Nat} {rt : Option FieldType} {nm : String} {R : Room} {Qf : List Frame → Array Value → State → State → Prop} {c n pc : Nat} {L : List (Nat × Value)} {st : List Value} {h : Hp}
theorem g_rawB {idx : Nat} {x : UInt32} (hd : decode b pc = .ok (.invokestatic idx, 3)) (hl1 : Cond.methodLink own idx ⟨"java/lang/Float", "floatToRawIntBits", "(F)I"⟩ ∈ lw_tbl) (hf : 1 ≤ R.frames ∧ 40 ≤ R.locals) (hcat : (st.map fun v => v.category).sum ≤ 8) (k : G X own b mx rt nm R Qf c n (pc + 3) L (.int x.toInt32 :: st) h) : G X own b mx rt nm R Qf c n pc L (.float x :: st) h := by
  intro p ev s m args below meth cd H locs ls hI hR hS hl
  obtain ⟨hx, hb, hml, hown, hts, -, -, -, hz, hK⟩ := id hI
  exact vn_f2i hx hb (hml.trans hl.1.symm) hown (hts _ (inA hl1 rfl)) (hts _ (inA kFR_v rfl)) (hts _ (inA kFR_t rfl)) (hts _ (inA kF_n rfl)) hf.1 (by omega) hd (k p ev s m args below meth cd H locs ls hI hR hS hl)
/-- a static method of another class -/
theorem g_callF {Y : Mt} {idx k1 mc ms N : Nat} {As rest st1 : List Value} {P1 : Option Value → Hp → Prop} (hd : decode b pc = .ok (.invokestatic idx, 3)) (hl1 : Cond.methodLink own idx Y.1 ∈ lw_tbl) (hm : MsF Y N) (hct : Ct X Y k1 mc ms As h P1) (hN : As.length = N) (hst : st1 = As.reverse ++ rest) (hf : k1 + 1 ≤ R.frames ∧ 40 * k1 + 40 ≤ R.locals) (hcat : (rest.map fun v => v.category).sum ≤ 8) (hmc : c + mc ≤ R.cells ∧ n + ms ≤ R.slots) (kk : ∀ v h1, P1 v h1 → G X own b mx rt nm R Qf (c + mc) (n + ms) (pc + 3) L (v.toList ++ rest) h1) : G X own b mx rt nm R Qf c n pc L st1 h := by
  intro p ev s m args below meth cd H locs ls hI hR hS hl
  obtain ⟨hx, hb, hml, hown, hts, -, -, -, hz, hK⟩ := id hI
  obtain ⟨⟨m1, m2, m3, m4, m5, m6, m7⟩, m8⟩ := hm
  obtain ⟨p1, p2⟩ := ct_pre (k := k1) (mc := mc) (ms := ms) (av := As) hI hR hS
  exact g_run (va_runS (Ts := wsA) (own := own) ⟨hx, hb, hml, hown, hts⟩ hct ⟨callB_of N hts (goodA_of (fun w hw => by
    rcases List.mem_cons.mp hw with rfl | h
    · exact inA m1 rfl
    · exact h)) rfl rfl rfl (hts _ (inA m2 rfl)) (hts _ (inA hl1 rfl)) ⟨m4, m5, m6⟩ ⟨hf.1, by show 8 + (Y.2.2.1 + 11) + 40 * k1 ≤ _; omega⟩, hts _ (inA m8 rfl)⟩ ⟨p1, p2⟩ rfl hN (hl.1.trans rfl) hst (lv_room hcat) hd hmc) hI hS hl kk
theorem g_cF1x {w v1 : Value} {h2 : Hp} {Y : Mt} {idx k1 : Nat} {rest : List Value} (hd : decode b pc = .ok (.invokestatic idx, 3)) (hl1 : Cond.methodLink own idx Y.1 ∈ lw_tbl) (hm : MsF Y 1) (hct : Ct X Y k1 0 0 [v1] h (Ex w h2)) (hf : k1 + 1 ≤ R.frames ∧ 40 * k1 + 40 ≤ R.locals) (hcat : (rest.map fun v => v.category).sum ≤ 8) (hmc : c ≤ R.cells ∧ n ≤ R.slots) (k : G X own b mx rt nm R Qf c n (pc + 3) L (w :: rest) h2) : G X own b mx rt nm R Qf c n pc L (v1 :: rest) h :=
  g_callF hd hl1 hm hct rfl rfl hf hcat hmc (fun v h1 q => by obtain ⟨rfl, rfl⟩ := q; exact k)
end
set_option maxRecDepth 100000 in
theorem ct_isNaN (X : Cx) {h : Hp} {lo hi : Nat} {x : UInt32} (k : F32 lo hi x) (h1 : 1 ≤ lo) (h2 : hi ≤ 254) : Ct X mFN 0 0 0 [.float x] h (Ex (.int 0) h) := by
  refine Ct.ofGF vFN.1.2.2.1 (Nat.le_of_ble_eq_true rfl) ?_
  show G X "java/lang/Float" cJxf58ca_isNaN_12338 1 (some .boolean) "isNaN" (Rm 0 0 0) (Fm X (Ex (.int 0) h) 0 0) 0 0 0 [(0, .float x)] [] h
  refine g_fload_n dFN_0 (by rfl) ?_
  refine g_fload_n dFN_1 (by rfl) ?_
  refine g_fcmp dFN_2 ?_
  rw [fc_me k h1 h2]
  refine g_if_eq (tgt := 10) dFN_3 (by decide) (fun c1 => ?_) (fun c1 => absurd rfl c1)
  refine g_iconst (v := 0) dFN_10 (by decide) ?_
  refine g_zret dFN_11 rfl (by decide) (Nat.le_refl _) (Nat.le_refl _) ?_
  exact Ex.i rfl rfl
set_option maxRecDepth 100000 in
theorem ct_floatBits (X : Cx) {h : Hp} {lo hi : Nat} {x : UInt32} (k : F32 lo hi x) (h1 : 1 ≤ lo) (h2 : hi ≤ 254) : Ct X mFI 1 0 0 [.float x] h (Ex (.int (bitI x)) h) := by
  refine Ct.ofGF vFI.1.2.2.1 (Nat.le_of_ble_eq_true rfl) ?_
  show G X "java/lang/Float" cJxf58ca_floatToIntBits_5c35a 1 (some .int) "floatToIntBits" (Rm 1 0 0) (Fm X (Ex (.int (bitI x)) h) 0 0) 0 0 0 [(0, .float x)] [] h
  refine g_fload_n dFI_0 (by rfl) ?_
  refine g_cF1x dFI_1 lJ_59 vFN (ct_isNaN X k h1 h2) ⟨Nat.le_of_ble_eq_true rfl, Nat.le_of_ble_eq_true rfl⟩ (Nat.le_of_ble_eq_true rfl) ⟨Nat.le_of_ble_eq_true rfl, Nat.le_of_ble_eq_true rfl⟩ ?_
  refine g_if_ne (tgt := 12) dFI_4 (by decide) (fun c1 => absurd rfl c1) (fun c1 => ?_)
  refine g_fload_n dFI_7 (by rfl) ?_
  refine g_rawB dFI_8 lJ_74 ⟨Nat.le_of_ble_eq_true rfl, Nat.le_of_ble_eq_true rfl⟩ (Nat.le_of_ble_eq_true rfl) ?_
  refine g_iret dFI_11 rfl (Nat.le_refl _) (Nat.le_refl _) ?_
  refine Ex.i ?_ rfl
  show x.toInt32 = nI x.toNat
  refine Int32.toBitVec_inj.mp ?_
  refine BitVec.eq_of_toNat_eq ?_
  show x.toBitVec.toNat = (BitVec.ofNat 32 x.toNat).toNat
  rw [BitVec.toNat_ofNat, Nat.mod_eq_of_lt x.toNat_lt]
  rfl
