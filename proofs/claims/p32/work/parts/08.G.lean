section GX
abbrev Hp : Type := Nat → Option va_E
def hu (h : Hp) (a : Nat) (e : va_E) : Hp := fun b => if b = a then some e else h b
theorem hu_same {h : Hp} {a : Nat} {e : va_E} : hu h a e a = some e := if_pos rfl
theorem hu_ne {h : Hp} {a b : Nat} {e : va_E} (n : b ≠ a) : hu h a e b = h b := if_neg n
theorem hu_n1 {h : Hp} {a b : Nat} {e : va_E} {x : Option va_E} (n : b ≠ a) (k : h b = x) : hu h a e b = x := (hu_ne n).trans k
/-- the launch, the classes' numbers and slots, the array classes, the first free address of the law, the three static arrays -/
abbrev Cx : Type := Launch × va_G × (Nat → ClassId) × Nat × (Nat → Nat)
abbrev tysOf (X : Cx) : List (ClassId × FieldType) := [(X.2.2.1 0, .int), (X.2.2.1 1, .char), (X.2.2.1 2, .object RX8), (X.2.2.1 3, .object RX2), (X.2.2.1 4, .object RX3), (X.2.2.1 5, .object RX1)]
def AA (X : Cx) : Nat → Prop := fun q => X.2.2.2.1 ≤ q
/-- cells: an int array, a char array, a reference array of kind k, a static (read only) int array, an object -/
def oI (X : Cx) (n : Nat) (f : Nat → Int32) : va_E := .inl (X.2.2.1 0, n, .inl f)
def oC (X : Cx) (n : Nat) (f : Nat → Int32) : va_E := .inl (X.2.2.1 1, n, .inl f)
def oR (X : Cx) (k n : Nat) (f : Nat → Option Nat) : va_E := .inl (X.2.2.1 k, n, .inr (.inr (.inr (.inr f))))
def sI (n : Nat) (f : Nat → Int32) : va_E := .inl (0, n, .inr (.inl (fun j => (f j).toInt64)))
def ob (ci : Nat) (fs : List Value) : va_E := .inr (ci, fs)
def Kk (X : Cx) (U : State) (H : Heap) : Prop := va_K X.2.1 vwCl (tysOf X) U ∧ va_Z "DarkVats$Settings" "LEAST" "[I" (.ref (X.2.2.2.2 0)) (AA X) U H ∧ va_Z "DarkVats$Settings" "MOST" "[I" (.ref (X.2.2.2.2 1)) (AA X) U H ∧ va_Z "DarkVats$Settings" "FIRST" "[I" (.ref (X.2.2.2.2 2)) (AA X) U H ∧ va_AO RX8 U ∧ va_AO RX2 U ∧ va_AO RX3 U ∧ va_AO RX1 U ∧ ∀ (a : String) (i : Nat) (x : MethodName) (g : String), Cond.methodLinkNest a i x g ∈ lw_tbl → va_Nw (.methodLinkNest a i x g) U
def Rep (X : Cx) (U : State) (H : Heap) (h : Hp) : Prop := ∃ ws : va_W, va_P X.2.1 vwCl ws H ∧ va_D (AA X) ws ∧ ∀ (a : Nat) (e : va_E), h a = some e → ((∃ k : Nat, ws[k]? = some (a, e)) ∧ ∀ n f, e ≠ sI n f) ∨ ∃ n f, e = sI n f ∧ va_T .int a n (fun j => .int (f j)) (AA X) U H
theorem Kk.warm {X : Cx} {u U : State} {H H1 : Heap} (hW : u.WarmedH U.vm) (hq : ∀ a : Nat, a < H.size → ¬ AA X a → H1[a]? = H[a]?) (h : Kk X u H) : Kk X U H1 := ⟨va_K.moved hW.alike h.1, (h.2.1.moved hW.alike).kept hq, (h.2.2.1.moved hW.alike).kept hq, (h.2.2.2.1.moved hW.alike).kept hq, h.2.2.2.2.1.moved hW.alike, h.2.2.2.2.2.1.moved hW.alike, h.2.2.2.2.2.2.1.moved hW.alike, h.2.2.2.2.2.2.2.1.moved hW.alike, fun a i x g hw => va_Nw.warmM hW (h.2.2.2.2.2.2.2.2 a i x g hw)⟩
theorem Kk.call {X : Cx} {U : State} {H : Heap} (g0 : JFrame) (mk : MethodId) (a0 : Array Value) (h : Kk X U H) : Kk X (U.calling g0 mk a0) H := by
  have hvm : U.vm.Alike (U.calling g0 mk a0).vm := Vm.Alike.refl U.vm
  exact ⟨va_K.moved hvm h.1, h.2.1.moved hvm, h.2.2.1.moved hvm, h.2.2.2.1.moved hvm, h.2.2.2.2.1.moved hvm, h.2.2.2.2.2.1.moved hvm, h.2.2.2.2.2.2.1.moved hvm, h.2.2.2.2.2.2.2.1.moved hvm, fun a i x g hw => va_Nw.same rfl rfl (h.2.2.2.2.2.2.2.2 a i x g hw)⟩
theorem Rep.moved {X : Cx} {u U : State} {H : Heap} {h : Hp} (hvm : u.vm.Alike U.vm) (k : Rep X u H h) : Rep X U H h := by
  obtain ⟨ws, h1, h2, h3⟩ := k
  refine ⟨ws, h1, h2, fun a e q => ?_⟩
  rcases h3 a e q with x | ⟨n, f, e1, e2⟩
  · exact Or.inl x
  · exact Or.inr ⟨n, f, e1, e2.moved hvm⟩
def wsA : List Cond := lw_tbl.filter goodWord
theorem inA {w : Cond} (h : w ∈ lw_tbl) (g : goodWord w = true) : w ∈ wsA := List.mem_filter.mpr ⟨h, g⟩
theorem goodA : GoodIn wsA wsA := fun w h => ⟨h, good_of_word (List.mem_filter.mp h).2⟩
theorem goodA_of {ws : List Cond} (h : ∀ w ∈ ws, w ∈ wsA) : GoodIn wsA ws := fun w hw => goodA w (h w hw)
abbrev wsY (Y : Mt) : List Cond := Cond.code Y.1 Y.2.1 Y.2.2.1 Y.2.2.2 :: wsA
abbrev Rm (k mc ms : Nat) : Room := { frames := k, cells := mc, slots := ms, locals := 40 * k }
def Qc (X : Cx) (P : Option Value → Hp → Prop) : Array Value → State → Outcome → State → Prop := fun _ st o t => (∃ v h', o = .returned v ∧ P v h' ∧ Rep X t t.heap h') ∧ va_F (AA X) st t
def In (X : Cx) (own : String) (b : ByteArray) (mx : Nat) (rt : Option FieldType) (nm : String) (p : Program) (s : State) (m : MethodId) (args : Array Value) (meth : Method) (cd : Code) : Prop :=
  p.tables.exec = Jvm.exec ∧ cd.code = b ∧ cd.maxLocals = mx ∧ s.vm.findClass own = some m.cls ∧ (∀ w ∈ wsA, w.before args s = true) ∧ meth.sig.returnType = rt ∧ meth.locks = false ∧ meth.name = nm ∧ X.2.2.2.1 ≤ s.heap.size ∧ Kk X s s.heap
/-- the walk: from pc, with these locals, this stack and at least these cells, the method comes to its end -/
def G (X : Cx) (own : String) (b : ByteArray) (mx : Nat) (rt : Option FieldType) (nm : String) (R : Room) (Qf : List Frame → Array Value → State → State → Prop) (c n pc : Nat) (L : List (Nat × Value)) (st : List Value) (h : Hp) : Prop :=
  ∀ (p : Program) (e : Env) (s : State) (m : MethodId) (args : Array Value) (below : List Frame) (meth : Method) (cd : Code) (H : Heap) (locs : List Loc) (ls : Array Slot), In X own b mx rt nm p s m args meth cd → Rep X s H h → va_S (AA X) s.heap H locs → lv_has ls mx L → W p X.1 e R s m args below meth cd H locs c n (Qf below args s) (F0 m pc ls st)
abbrev Fm (X : Cx) (P : Option Value → Hp → Prop) (mc ms : Nat) : List Frame → Array Value → State → State → Prop := fun below args s => MQ below (Qc X P) args s mc ms (AA X)
def Ct (X : Cx) (Y : Mt) (k mc ms : Nat) (av : List Value) (h : Hp) (P : Option Value → Hp → Prop) : Prop :=
  Met X.1 Y.1 (wsY Y) (Rm k mc ms) (va_Pc av (fun U => X.2.2.2.1 ≤ U.heap.size ∧ Rep X U U.heap h ∧ Kk X U U.heap)) (Qc X P) mc ms (AA X)
/-- posts by the kind of answer -/
def PI (P : Int32 → Hp → Prop) : Option Value → Hp → Prop := fun v h => ∃ x, v = some (.int x) ∧ P x h
def PF (P : UInt32 → Hp → Prop) : Option Value → Hp → Prop := fun v h => ∃ x, v = some (.float x) ∧ P x h
def PV (P : Hp → Prop) : Option Value → Hp → Prop := fun v h => v = none ∧ P h
def PR (P : Option Nat → Hp → Prop) : Option Value → Hp → Prop := fun v h => ∃ x, v = some (va_rf x) ∧ P x h
def lk : List (Nat × Value) → Nat → Option Value
  | [], _ => none
  | q :: r, i => match Nat.beq q.1 i with
    | true => some q.2
    | false => lk r i
theorem lk_mem {i : Nat} {v : Value} : ∀ {L : List (Nat × Value)}, lk L i = some v → (i, v) ∈ L
  | [], h => by cases h
  | q :: r, h => by
    unfold lk at h
    split at h
    · next e =>
      obtain ⟨a, w⟩ := q
      cases h
      cases Nat.eq_of_beq_eq_true e
      exact List.mem_cons_self
    · exact List.mem_cons_of_mem _ (lk_mem h)
def ins (i : Nat) (v : Value) : List (Nat × Value) → List (Nat × Value)
  | [] => [(i, v)]
  | q :: r => match Nat.ble (i + 1) q.1 with
    | true => (i, v) :: q :: r
    | false => q :: ins i v r
theorem ins_mem {i : Nat} {v : Value} {q : Nat × Value} : ∀ {L : List (Nat × Value)}, q ∈ ins i v L → q ∈ (i, v) :: L
  | [], h => h
  | x :: r, h => by
    unfold ins at h
    split at h
    · exact h
    · rcases List.mem_cons.mp h with h | h
      · exact List.mem_cons_of_mem _ (h ▸ List.mem_cons_self)
      · rcases List.mem_cons.mp (ins_mem h) with h | h
        · exact h ▸ List.mem_cons_self
        · exact List.mem_cons_of_mem _ (List.mem_cons_of_mem _ h)
def st1 (L : List (Nat × Value)) (i : Nat) (v : Value) : List (Nat × Value) := ins i v (L.filter (fun q => !(q.1 == i) && !(q.1 + 1 == i && q.2.category == 2)))
def st2 (L : List (Nat × Value)) (i : Nat) (v : Value) : List (Nat × Value) := ins i v (L.filter (fun q => !(q.1 == i) && (!(q.1 == i + 1) && !(q.1 + 1 == i && q.2.category == 2))))
theorem st1_mem {L L1 : List (Nat × Value)} {i : Nat} {v : Value} (e : st1 L i v = L1) : ∀ q ∈ L1, q ∈ (i, v) :: L.filter (fun q => !(q.1 == i) && !(q.1 + 1 == i && q.2.category == 2)) := by
  subst e
  exact fun q hq => ins_mem hq
theorem st2_mem {L L1 : List (Nat × Value)} {i : Nat} {v : Value} (e : st2 L i v = L1) : ∀ q ∈ L1, q ∈ (i, v) :: L.filter (fun q => !(q.1 == i) && (!(q.1 == i + 1) && !(q.1 + 1 == i && q.2.category == 2))) := by
  subst e
  exact fun q hq => ins_mem hq
theorem lv_mono {ls : Array Slot} {nL : Nat} {l l' : List (Nat × Value)} (h : lv_has ls nL l) (k : ∀ q ∈ l', q ∈ l) : lv_has ls nL l' := ⟨h.1, h.2.1, fun q hq => h.2.2 q (k q hq)⟩
theorem lk_at {ls : Array Slot} {nL : Nat} {L : List (Nat × Value)} {i : Nat} {v : Value} (h : lv_has ls nL L) (k : lk L i = some v) : ls[i]? = some (.val v) := h.2.2 (i, v) (lk_mem k)
/-- a method's words: virtual, static, constructor -/
def Mv (Y : Mt) (n : Nat) : Prop := (Cond.code Y.1 Y.2.1 Y.2.2.1 Y.2.2.2 ∈ lw_tbl ∧ Cond.initialized Y.1.cls ∈ lw_tbl ∧ plainName Y.1.cls = true ∧ Y.1.cls ≠ "java/lang/invoke/MethodHandle" ∧ Y.1.cls ≠ "java/lang/invoke/VarHandle" ∧ (parseMethodDescriptor Y.1.desc).map (fun d => d.parameters.length) = some n ∧ Y.2.2.1 ≤ 21) ∧ Cond.instanceMethod Y.1 ∈ lw_tbl ∧ Cond.selects Y.1.cls Y.1 Y.1 ∈ lw_tbl
def Ms (Y : Mt) (n : Nat) : Prop := (Cond.code Y.1 Y.2.1 Y.2.2.1 Y.2.2.2 ∈ lw_tbl ∧ Cond.initialized Y.1.cls ∈ lw_tbl ∧ plainName Y.1.cls = true ∧ Y.1.cls ≠ "java/lang/invoke/MethodHandle" ∧ Y.1.cls ≠ "java/lang/invoke/VarHandle" ∧ (parseMethodDescriptor Y.1.desc).map (fun d => d.parameters.length) = some n ∧ Y.2.2.1 ≤ 21) ∧ Cond.static Y.1 ∈ lw_tbl
def Mi (Y : Mt) (n : Nat) : Prop := (Cond.code Y.1 Y.2.1 Y.2.2.1 Y.2.2.2 ∈ lw_tbl ∧ Cond.initialized Y.1.cls ∈ lw_tbl ∧ plainName Y.1.cls = true ∧ Y.1.cls ≠ "java/lang/invoke/MethodHandle" ∧ Y.1.cls ≠ "java/lang/invoke/VarHandle" ∧ (parseMethodDescriptor Y.1.desc).map (fun d => d.parameters.length) = some n ∧ Y.2.2.1 ≤ 21) ∧ Cond.instanceMethod Y.1 ∈ lw_tbl ∧ Y.1.name = "<init>" ∧ Y.2.2.2 = none
end GX
section GR
variable {X : Cx} {own : String} {b : ByteArray} {mx : Nat} {rt : Option FieldType} {nm : String} {R : Room} {Qf : List Frame → Array Value → State → State → Prop} {c n pc : Nat} {L : List (Nat × Value)} {st : List Value} {h : Hp}
set_option maxHeartbeats 1000000 in
theorem Ct.ofG {Y : Mt} {k mc ms : Nat} {av : List Value} {P : Option Value → Hp → Prop} (hy : plainName Y.1.cls = true) (hn : (lg_sl av).length ≤ Y.2.2.1)
    (g : G X Y.1.cls Y.2.1 Y.2.2.1 Y.2.2.2 Y.1.name (Rm k mc ms) (Fm X P mc ms) 0 0 0 (lv_args 0 av) [] h) : Ct X Y k mc ms av h P := by
  refine Met.ofW (cc := Y.2.1) (maxL := Y.2.2.1) (ret := Y.2.2.2) hy rfl ?_
  intro p e s m args below meth cd s₁ B hml hv
  obtain ⟨rfl, hsz, hR, hK⟩ := hv
  have hts := atoms_spec (ws := wsY Y) B.pre
  rw [lg_entry_eq]
  exact g p e s m av.toArray below meth cd s.heap [] _ ⟨B.exec, B.bytes, hml, findClass_of_methodNamed B.named, fun w hw => hts w (List.mem_cons_of_mem _ hw), B.returns, B.notSynchronized, (name_of_methodNamed B.named B.method).1, hsz, hK⟩ hR va_S.rf (lv_entry av hn)
theorem g_pick {L' : List (Nat × Value)} (ks : List Nat) (e : lv_pick L ks = L') (k : G X own b mx rt nm R Qf c n pc L' st h) : G X own b mx rt nm R Qf c n pc L st h :=
  fun p ev s m args below meth cd H locs ls hI hR hS hl => k p ev s m args below meth cd H locs ls hI hR hS (lv_sub hl ks e)
theorem g_heap {h' : Hp} (e : ∀ (a : Nat) (x : va_E), h' a = some x → h a = some x) (k : G X own b mx rt nm R Qf c n pc L st h') : G X own b mx rt nm R Qf c n pc L st h :=
  fun p ev s m args below meth cd H locs ls hI hR hS hl => k p ev s m args below meth cd H locs ls hI (by
    obtain ⟨ws, h1, h2, h3⟩ := hR
    exact ⟨ws, h1, h2, fun a x q => h3 a x (e a x q)⟩) hS hl
theorem g_stk {st' : List Value} (e : st = st') (k : G X own b mx rt nm R Qf c n pc L st' h) : G X own b mx rt nm R Qf c n pc L st h := e ▸ k
theorem g_wid {c' n' : Nat} (h1 : c ≤ c') (h2 : n ≤ n') (k : G X own b mx rt nm R Qf c' n' pc L st h) : G X own b mx rt nm R Qf c n pc L st h :=
  fun p ev s m args below meth cd H locs ls hI hR hS hl => W.widen h1 h2 (k p ev s m args below meth cd H locs ls hI hR hS hl)

theorem g_iconst {i : Int} {v : Int32} (hd : decode b pc = .ok (.iconst i, 1)) (hv : Int32.ofInt i = v) (k : G X own b mx rt nm R Qf c n (pc + 1) L (.int v :: st) h) : G X own b mx rt nm R Qf c n pc L (st) h :=
  fun p ev s m args below meth cd H locs ls hI hR hS hl => lv_iconst hI.1 hI.2.1 hd hv (k p ev s m args below meth cd H locs ls hI hR hS hl)
theorem g_bipush {i : Int} {v : Int32} (hd : decode b pc = .ok (.bipush i, 2)) (hv : (Int8.ofInt i).toInt32 = v) (k : G X own b mx rt nm R Qf c n (pc + 2) L (.int v :: st) h) : G X own b mx rt nm R Qf c n pc L (st) h :=
  fun p ev s m args below meth cd H locs ls hI hR hS hl => lv_bipush hI.1 hI.2.1 hd hv (k p ev s m args below meth cd H locs ls hI hR hS hl)
theorem g_sipush {i : Int} {v : Int32} (hd : decode b pc = .ok (.sipush i, 3)) (hv : (Int16.ofInt i).toInt32 = v) (k : G X own b mx rt nm R Qf c n (pc + 3) L (.int v :: st) h) : G X own b mx rt nm R Qf c n pc L (st) h :=
  fun p ev s m args below meth cd H locs ls hI hR hS hl => lv_sipush hI.1 hI.2.1 hd hv (k p ev s m args below meth cd H locs ls hI hR hS hl)
theorem g_lconst {i : Fin 2} {v : Int64} (hd : decode b pc = .ok (.lconst i, 1)) (hv : Int64.ofNat (i : Nat) = v) (k : G X own b mx rt nm R Qf c n (pc + 1) L (.long v :: st) h) : G X own b mx rt nm R Qf c n pc L (st) h :=
  fun p ev s m args below meth cd H locs ls hI hR hS hl => lv_lconst hI.1 hI.2.1 hd hv (k p ev s m args below meth cd H locs ls hI hR hS hl)
theorem g_null  (hd : decode b pc = .ok (.aconst_null, 1))  (k : G X own b mx rt nm R Qf c n (pc + 1) L (.null :: st) h) : G X own b mx rt nm R Qf c n pc L (st) h :=
  fun p ev s m args below meth cd H locs ls hI hR hS hl => lv_null hI.1 hI.2.1 hd  (k p ev s m args below meth cd H locs ls hI hR hS hl)
theorem g_dup {v : Value} (hd : decode b pc = .ok (.dup, 1)) (hv : v.category = 1) (k : G X own b mx rt nm R Qf c n (pc + 1) L (v :: v :: st) h) : G X own b mx rt nm R Qf c n pc L (v :: st) h :=
  fun p ev s m args below meth cd H locs ls hI hR hS hl => lv_dup hI.1 hI.2.1 hd hv (k p ev s m args below meth cd H locs ls hI hR hS hl)
theorem g_pop {v : Value} (hd : decode b pc = .ok (.pop, 1)) (hv : v.category = 1) (k : G X own b mx rt nm R Qf c n (pc + 1) L (st) h) : G X own b mx rt nm R Qf c n pc L (v :: st) h :=
  fun p ev s m args below meth cd H locs ls hI hR hS hl => lv_pop hI.1 hI.2.1 hd hv (k p ev s m args below meth cd H locs ls hI hR hS hl)
theorem g_dup2 {v w : Value} (hd : decode b pc = .ok (.dup2, 1)) (hv : v.category = 1) (hw : w.category = 1) (k : G X own b mx rt nm R Qf c n (pc + 1) L (v :: w :: v :: w :: st) h) : G X own b mx rt nm R Qf c n pc L (v :: w :: st) h :=
  fun p ev s m args below meth cd H locs ls hI hR hS hl => lv_dup2_11 hI.1 hI.2.1 hd hv hw (k p ev s m args below meth cd H locs ls hI hR hS hl)
theorem g_fconst0 (hd : decode b pc = .ok (.fconst 0, 1)) (k : G X own b mx rt nm R Qf c n (pc + 1) L (.float 0 :: st) h) : G X own b mx rt nm R Qf c n pc L st h :=
  fun p ev s m args below meth cd H locs ls hI hR hS hl => lv_fconst0 hI.1 hI.2.1 hd (k p ev s m args below meth cd H locs ls hI hR hS hl)
theorem g_fconst1 (hd : decode b pc = .ok (.fconst 1, 1)) (k : G X own b mx rt nm R Qf c n (pc + 1) L (.float 1065353216 :: st) h) : G X own b mx rt nm R Qf c n pc L st h :=
  fun p ev s m args below meth cd H locs ls hI hR hS hl => lv_fconst1 hI.1 hI.2.1 hd (k p ev s m args below meth cd H locs ls hI hR hS hl)
theorem g_fconst2 (hd : decode b pc = .ok (.fconst 2, 1)) (k : G X own b mx rt nm R Qf c n (pc + 1) L (.float 1073741824 :: st) h) : G X own b mx rt nm R Qf c n pc L st h :=
  fun p ev s m args below meth cd H locs ls hI hR hS hl => lv_fconst2 hI.1 hI.2.1 hd (k p ev s m args below meth cd H locs ls hI hR hS hl)
theorem g_dconst0 (hd : decode b pc = .ok (.dconst 0, 1)) (k : G X own b mx rt nm R Qf c n (pc + 1) L (.double 0 :: st) h) : G X own b mx rt nm R Qf c n pc L st h :=
  fun p ev s m args below meth cd H locs ls hI hR hS hl => lv_dconst0 hI.1 hI.2.1 hd (k p ev s m args below meth cd H locs ls hI hR hS hl)
theorem g_iadd {x y : Int32} (hd : decode b pc = .ok (.iadd, 1))  (k : G X own b mx rt nm R Qf c n (pc + 1) L (.int (x + y) :: st) h) : G X own b mx rt nm R Qf c n pc L (.int y :: .int x :: st) h :=
  fun p ev s m args below meth cd H locs ls hI hR hS hl => lv_iadd hI.1 hI.2.1 hd  (k p ev s m args below meth cd H locs ls hI hR hS hl)
theorem g_isub {x y : Int32} (hd : decode b pc = .ok (.isub, 1))  (k : G X own b mx rt nm R Qf c n (pc + 1) L (.int (x - y) :: st) h) : G X own b mx rt nm R Qf c n pc L (.int y :: .int x :: st) h :=
  fun p ev s m args below meth cd H locs ls hI hR hS hl => lv_isub hI.1 hI.2.1 hd  (k p ev s m args below meth cd H locs ls hI hR hS hl)
theorem g_imul {x y : Int32} (hd : decode b pc = .ok (.imul, 1))  (k : G X own b mx rt nm R Qf c n (pc + 1) L (.int (x * y) :: st) h) : G X own b mx rt nm R Qf c n pc L (.int y :: .int x :: st) h :=
  fun p ev s m args below meth cd H locs ls hI hR hS hl => lv_imul hI.1 hI.2.1 hd  (k p ev s m args below meth cd H locs ls hI hR hS hl)
theorem g_iand {x y : Int32} (hd : decode b pc = .ok (.iand, 1))  (k : G X own b mx rt nm R Qf c n (pc + 1) L (.int (x &&& y) :: st) h) : G X own b mx rt nm R Qf c n pc L (.int y :: .int x :: st) h :=
  fun p ev s m args below meth cd H locs ls hI hR hS hl => lv_iand hI.1 hI.2.1 hd  (k p ev s m args below meth cd H locs ls hI hR hS hl)
theorem g_ior {x y : Int32} (hd : decode b pc = .ok (.ior, 1))  (k : G X own b mx rt nm R Qf c n (pc + 1) L (.int (x ||| y) :: st) h) : G X own b mx rt nm R Qf c n pc L (.int y :: .int x :: st) h :=
  fun p ev s m args below meth cd H locs ls hI hR hS hl => lv_ior hI.1 hI.2.1 hd  (k p ev s m args below meth cd H locs ls hI hR hS hl)
theorem g_ladd {x y : Int64} (hd : decode b pc = .ok (.ladd, 1))  (k : G X own b mx rt nm R Qf c n (pc + 1) L (.long (x + y) :: st) h) : G X own b mx rt nm R Qf c n pc L (.long y :: .long x :: st) h :=
  fun p ev s m args below meth cd H locs ls hI hR hS hl => lv_ladd hI.1 hI.2.1 hd  (k p ev s m args below meth cd H locs ls hI hR hS hl)
theorem g_lmul {x y : Int64} (hd : decode b pc = .ok (.lmul, 1))  (k : G X own b mx rt nm R Qf c n (pc + 1) L (.long (x * y) :: st) h) : G X own b mx rt nm R Qf c n pc L (.long y :: .long x :: st) h :=
  fun p ev s m args below meth cd H locs ls hI hR hS hl => lv_lmul hI.1 hI.2.1 hd  (k p ev s m args below meth cd H locs ls hI hR hS hl)
theorem g_ishl {x y : Int32} (hd : decode b pc = .ok (.ishl, 1))  (k : G X own b mx rt nm R Qf c n (pc + 1) L (.int (x <<< (y &&& 31)) :: st) h) : G X own b mx rt nm R Qf c n pc L (.int y :: .int x :: st) h :=
  fun p ev s m args below meth cd H locs ls hI hR hS hl => lv_ishl hI.1 hI.2.1 hd  (k p ev s m args below meth cd H locs ls hI hR hS hl)
theorem g_idiv {x y : Int32} (hd : decode b pc = .ok (.idiv, 1)) (hv : ¬ y = 0) (k : G X own b mx rt nm R Qf c n (pc + 1) L (.int (x / y) :: st) h) : G X own b mx rt nm R Qf c n pc L (.int y :: .int x :: st) h :=
  fun p ev s m args below meth cd H locs ls hI hR hS hl => lv_idiv hI.1 hI.2.1 hd hv (k p ev s m args below meth cd H locs ls hI hR hS hl)
theorem g_irem {x y : Int32} (hd : decode b pc = .ok (.irem, 1)) (hv : ¬ y = 0) (k : G X own b mx rt nm R Qf c n (pc + 1) L (.int (x - x / y * y) :: st) h) : G X own b mx rt nm R Qf c n pc L (.int y :: .int x :: st) h :=
  fun p ev s m args below meth cd H locs ls hI hR hS hl => lv_irem hI.1 hI.2.1 hd hv (k p ev s m args below meth cd H locs ls hI hR hS hl)
theorem g_ldiv {x y : Int64} (hd : decode b pc = .ok (.ldiv, 1)) (hv : ¬ y = 0) (k : G X own b mx rt nm R Qf c n (pc + 1) L (.long (x / y) :: st) h) : G X own b mx rt nm R Qf c n pc L (.long y :: .long x :: st) h :=
  fun p ev s m args below meth cd H locs ls hI hR hS hl => lv_ldiv hI.1 hI.2.1 hd hv (k p ev s m args below meth cd H locs ls hI hR hS hl)
theorem g_i2l {x : Int32} (hd : decode b pc = .ok (.i2l, 1))  (k : G X own b mx rt nm R Qf c n (pc + 1) L (.long x.toInt64 :: st) h) : G X own b mx rt nm R Qf c n pc L (.int x :: st) h :=
  fun p ev s m args below meth cd H locs ls hI hR hS hl => lv_i2l hI.1 hI.2.1 hd rfl (k p ev s m args below meth cd H locs ls hI hR hS hl)
theorem g_l2i {x : Int64} (hd : decode b pc = .ok (.l2i, 1))  (k : G X own b mx rt nm R Qf c n (pc + 1) L (.int x.toInt32 :: st) h) : G X own b mx rt nm R Qf c n pc L (.long x :: st) h :=
  fun p ev s m args below meth cd H locs ls hI hR hS hl => lv_l2i hI.1 hI.2.1 hd rfl (k p ev s m args below meth cd H locs ls hI hR hS hl)
theorem g_i2c {x v : Int32} (hd : decode b pc = .ok (.i2c, 1)) (hv : (x.toUInt32 % 65536).toInt32 = v) (k : G X own b mx rt nm R Qf c n (pc + 1) L (.int v :: st) h) : G X own b mx rt nm R Qf c n pc L (.int x :: st) h :=
  fun p ev s m args below meth cd H locs ls hI hR hS hl => lv_i2c hI.1 hI.2.1 hd hv (k p ev s m args below meth cd H locs ls hI hR hS hl)
theorem g_i2f {x : Int32} (hd : decode b pc = .ok (.i2f, 1))  (k : G X own b mx rt nm R Qf c n (pc + 1) L (.float (FP.i2f x) :: st) h) : G X own b mx rt nm R Qf c n pc L (.int x :: st) h :=
  fun p ev s m args below meth cd H locs ls hI hR hS hl => lv_i2f hI.1 hI.2.1 hd  (k p ev s m args below meth cd H locs ls hI hR hS hl)
theorem g_i2d {x : Int32} (hd : decode b pc = .ok (.i2d, 1))  (k : G X own b mx rt nm R Qf c n (pc + 1) L (.double (FP.i2d x) :: st) h) : G X own b mx rt nm R Qf c n pc L (.int x :: st) h :=
  fun p ev s m args below meth cd H locs ls hI hR hS hl => lv_i2d hI.1 hI.2.1 hd  (k p ev s m args below meth cd H locs ls hI hR hS hl)
theorem g_f2i {x : UInt32} (hd : decode b pc = .ok (.f2i, 1))  (k : G X own b mx rt nm R Qf c n (pc + 1) L (.int (FP.f2i x) :: st) h) : G X own b mx rt nm R Qf c n pc L (.float x :: st) h :=
  fun p ev s m args below meth cd H locs ls hI hR hS hl => lv_f2i hI.1 hI.2.1 hd  (k p ev s m args below meth cd H locs ls hI hR hS hl)
theorem g_f2d {x : UInt32} (hd : decode b pc = .ok (.f2d, 1)) (hv : vf_n64 (FP.f2d x)) (k : G X own b mx rt nm R Qf c n (pc + 1) L (.double (FP.f2d x) :: st) h) : G X own b mx rt nm R Qf c n pc L (.float x :: st) h :=
  fun p ev s m args below meth cd H locs ls hI hR hS hl => lv_f2d hI.1 hI.2.1 hd hv (k p ev s m args below meth cd H locs ls hI hR hS hl)
theorem g_d2f {x : UInt64} (hd : decode b pc = .ok (.d2f, 1)) (hv : vf_n32 (FP.d2f x)) (k : G X own b mx rt nm R Qf c n (pc + 1) L (.float (FP.d2f x) :: st) h) : G X own b mx rt nm R Qf c n pc L (.double x :: st) h :=
  fun p ev s m args below meth cd H locs ls hI hR hS hl => lv_d2f hI.1 hI.2.1 hd hv (k p ev s m args below meth cd H locs ls hI hR hS hl)
theorem g_fmul {x y : UInt32} (hd : decode b pc = .ok (.fmul, 1)) (hv : vf_n32 (FP.fmul x y)) (k : G X own b mx rt nm R Qf c n (pc + 1) L (.float (FP.fmul x y) :: st) h) : G X own b mx rt nm R Qf c n pc L (.float y :: .float x :: st) h :=
  fun p ev s m args below meth cd H locs ls hI hR hS hl => lv_fmul hI.1 hI.2.1 hd hv (k p ev s m args below meth cd H locs ls hI hR hS hl)
theorem g_fdiv {x y : UInt32} (hd : decode b pc = .ok (.fdiv, 1)) (hv : vf_n32 (FP.fdiv x y)) (k : G X own b mx rt nm R Qf c n (pc + 1) L (.float (FP.fdiv x y) :: st) h) : G X own b mx rt nm R Qf c n pc L (.float y :: .float x :: st) h :=
  fun p ev s m args below meth cd H locs ls hI hR hS hl => lv_fdiv hI.1 hI.2.1 hd hv (k p ev s m args below meth cd H locs ls hI hR hS hl)
theorem g_fsub {x y : UInt32} (hd : decode b pc = .ok (.fsub, 1)) (hv : vf_n32 (FP.fsub x y)) (k : G X own b mx rt nm R Qf c n (pc + 1) L (.float (FP.fsub x y) :: st) h) : G X own b mx rt nm R Qf c n pc L (.float y :: .float x :: st) h :=
  fun p ev s m args below meth cd H locs ls hI hR hS hl => lv_fsub hI.1 hI.2.1 hd hv (k p ev s m args below meth cd H locs ls hI hR hS hl)
theorem g_dadd {x y : UInt64} (hd : decode b pc = .ok (.dadd, 1)) (hv : vf_n64 (FP.dadd x y)) (k : G X own b mx rt nm R Qf c n (pc + 1) L (.double (FP.dadd x y) :: st) h) : G X own b mx rt nm R Qf c n pc L (.double y :: .double x :: st) h :=
  fun p ev s m args below meth cd H locs ls hI hR hS hl => lv_dadd hI.1 hI.2.1 hd hv (k p ev s m args below meth cd H locs ls hI hR hS hl)
theorem g_ddiv {x y : UInt64} (hd : decode b pc = .ok (.ddiv, 1)) (hv : vf_n64 (FP.ddiv x y)) (k : G X own b mx rt nm R Qf c n (pc + 1) L (.double (FP.ddiv x y) :: st) h) : G X own b mx rt nm R Qf c n pc L (.double y :: .double x :: st) h :=
  fun p ev s m args below meth cd H locs ls hI hR hS hl => lv_ddiv hI.1 hI.2.1 hd hv (k p ev s m args below meth cd H locs ls hI hR hS hl)
theorem g_fcmp {x y : UInt32} {op : CmpOp} (hd : decode b pc = .ok (.fcmp op, 1))  (k : G X own b mx rt nm R Qf c n (pc + 1) L (.int (Op.cmpValue (FP.fcmp x y) op) :: st) h) : G X own b mx rt nm R Qf c n pc L (.float y :: .float x :: st) h :=
  fun p ev s m args below meth cd H locs ls hI hR hS hl => lv_fcmp hI.1 hI.2.1 hd  (k p ev s m args below meth cd H locs ls hI hR hS hl)
theorem g_lcmp {x y : Int64} (hd : decode b pc = .ok (.lcmp, 1)) (k : G X own b mx rt nm R Qf c n (pc + 1) L (.int (lg_cmp x y) :: st) h) : G X own b mx rt nm R Qf c n pc L (.long y :: .long x :: st) h :=
  fun p ev s m args below meth cd H locs ls hI hR hS hl => W.lcmp hI.1 hI.2.1 hd (k p ev s m args below meth cd H locs ls hI hR hS hl)
theorem g_iload_n {i : Fin 4} {x : Int32} (hd : decode b pc = .ok (.iload_n i, 1)) (hv : lk L (i : Nat) = some (.int x)) (k : G X own b mx rt nm R Qf c n (pc + 1) L (.int x :: st) h) : G X own b mx rt nm R Qf c n pc L st h :=
  fun p ev s m args below meth cd H locs ls hI hR hS hl => lv_iload_n hI.1 hI.2.1 hd rfl (lk_at hl hv) (k p ev s m args below meth cd H locs ls hI hR hS hl)
theorem g_lload_n {i : Fin 4} {x : Int64} (hd : decode b pc = .ok (.lload_n i, 1)) (hv : lk L (i : Nat) = some (.long x)) (k : G X own b mx rt nm R Qf c n (pc + 1) L (.long x :: st) h) : G X own b mx rt nm R Qf c n pc L st h :=
  fun p ev s m args below meth cd H locs ls hI hR hS hl => lv_lload_n hI.1 hI.2.1 hd rfl (lk_at hl hv) (k p ev s m args below meth cd H locs ls hI hR hS hl)
theorem g_fload_n {i : Fin 4} {x : UInt32} (hd : decode b pc = .ok (.fload_n i, 1)) (hv : lk L (i : Nat) = some (.float x)) (k : G X own b mx rt nm R Qf c n (pc + 1) L (.float x :: st) h) : G X own b mx rt nm R Qf c n pc L st h :=
  fun p ev s m args below meth cd H locs ls hI hR hS hl => lv_fload_n hI.1 hI.2.1 hd rfl (lk_at hl hv) (k p ev s m args below meth cd H locs ls hI hR hS hl)
theorem g_dload_n {i : Fin 4} {x : UInt64} (hd : decode b pc = .ok (.dload_n i, 1)) (hv : lk L (i : Nat) = some (.double x)) (k : G X own b mx rt nm R Qf c n (pc + 1) L (.double x :: st) h) : G X own b mx rt nm R Qf c n pc L st h :=
  fun p ev s m args below meth cd H locs ls hI hR hS hl => lv_dload_n hI.1 hI.2.1 hd rfl (lk_at hl hv) (k p ev s m args below meth cd H locs ls hI hR hS hl)
theorem g_iload {i : Nat} {x : Int32} (hd : decode b pc = .ok (.iload i, 2)) (hv : lk L i = some (.int x)) (k : G X own b mx rt nm R Qf c n (pc + 2) L (.int x :: st) h) : G X own b mx rt nm R Qf c n pc L st h :=
  fun p ev s m args below meth cd H locs ls hI hR hS hl => lv_iload hI.1 hI.2.1 hd (lk_at hl hv) (k p ev s m args below meth cd H locs ls hI hR hS hl)
theorem g_lload {i : Nat} {x : Int64} (hd : decode b pc = .ok (.lload i, 2)) (hv : lk L i = some (.long x)) (k : G X own b mx rt nm R Qf c n (pc + 2) L (.long x :: st) h) : G X own b mx rt nm R Qf c n pc L st h :=
  fun p ev s m args below meth cd H locs ls hI hR hS hl => lv_lload hI.1 hI.2.1 hd (lk_at hl hv) (k p ev s m args below meth cd H locs ls hI hR hS hl)
def isRf (v : Value) : Prop := v = .null ∨ ∃ a, v = .ref a
theorem isRf_r {a : Nat} : isRf (.ref a) := Or.inr ⟨a, rfl⟩
theorem isRf_n : isRf .null := Or.inl rfl
theorem isRf_o {r : Option Nat} : isRf (va_rf r) := by cases r; exact isRf_n; exact isRf_r
theorem g_aload_n {i : Fin 4} {v : Value} (hd : decode b pc = .ok (.aload_n i, 1)) (hv : lk L (i : Nat) = some v) (hr : isRf v) (k : G X own b mx rt nm R Qf c n (pc + 1) L (v :: st) h) : G X own b mx rt nm R Qf c n pc L st h := by
  intro p ev s m args below meth cd H locs ls hI hR hS hl
  rcases hr with rfl | ⟨a, rfl⟩
  · exact lv_aload_nN hI.1 hI.2.1 hd rfl (lk_at hl hv) (k p ev s m args below meth cd H locs ls hI hR hS hl)
  · exact lv_aload_n hI.1 hI.2.1 hd rfl (lk_at hl hv) (k p ev s m args below meth cd H locs ls hI hR hS hl)
theorem g_aload {i : Nat} {v : Value} (hd : decode b pc = .ok (.aload i, 2)) (hv : lk L i = some v) (hr : isRf v) (k : G X own b mx rt nm R Qf c n (pc + 2) L (v :: st) h) : G X own b mx rt nm R Qf c n pc L st h := by
  intro p ev s m args below meth cd H locs ls hI hR hS hl
  rcases hr with rfl | ⟨a, rfl⟩
  · exact lv_aloadN hI.1 hI.2.1 hd (lk_at hl hv) (k p ev s m args below meth cd H locs ls hI hR hS hl)
  · exact lv_aload hI.1 hI.2.1 hd (lk_at hl hv) (k p ev s m args below meth cd H locs ls hI hR hS hl)
theorem g_istore_n {i : Fin 4} {x : Int32} {L1 : List (Nat × Value)} (hd : decode b pc = .ok (.istore_n i, 1)) (hn : (i : Nat) + 0 < mx) (hL : st1 L (i : Nat) (.int x) = L1) (k : G X own b mx rt nm R Qf c n (pc + 1) L1 st h) : G X own b mx rt nm R Qf c n pc L (.int x :: st) h :=
  fun p ev s m args below meth cd H locs ls hI hR hS hl => lv_istore_n hI.1 hI.2.1 hd rfl hl hn rfl (fun ls hl => k p ev s m args below meth cd H locs ls hI hR hS (lv_mono hl (st1_mem hL)))
theorem g_fstore_n {i : Fin 4} {x : UInt32} {L1 : List (Nat × Value)} (hd : decode b pc = .ok (.fstore_n i, 1)) (hn : (i : Nat) + 0 < mx) (hL : st1 L (i : Nat) (.float x) = L1) (k : G X own b mx rt nm R Qf c n (pc + 1) L1 st h) : G X own b mx rt nm R Qf c n pc L (.float x :: st) h :=
  fun p ev s m args below meth cd H locs ls hI hR hS hl => lv_fstore_n hI.1 hI.2.1 hd rfl hl hn rfl (fun ls hl => k p ev s m args below meth cd H locs ls hI hR hS (lv_mono hl (st1_mem hL)))
theorem g_lstore_n {i : Fin 4} {x : Int64} {L1 : List (Nat × Value)} (hd : decode b pc = .ok (.lstore_n i, 1)) (hn : (i : Nat) + 1 < mx) (hL : st2 L (i : Nat) (.long x) = L1) (k : G X own b mx rt nm R Qf c n (pc + 1) L1 st h) : G X own b mx rt nm R Qf c n pc L (.long x :: st) h :=
  fun p ev s m args below meth cd H locs ls hI hR hS hl => lv_lstore_n hI.1 hI.2.1 hd rfl hl hn rfl (fun ls hl => k p ev s m args below meth cd H locs ls hI hR hS (lv_mono hl (st2_mem hL)))
theorem g_dstore_n {i : Fin 4} {x : UInt64} {L1 : List (Nat × Value)} (hd : decode b pc = .ok (.dstore_n i, 1)) (hn : (i : Nat) + 1 < mx) (hL : st2 L (i : Nat) (.double x) = L1) (k : G X own b mx rt nm R Qf c n (pc + 1) L1 st h) : G X own b mx rt nm R Qf c n pc L (.double x :: st) h :=
  fun p ev s m args below meth cd H locs ls hI hR hS hl => lv_dstore_n hI.1 hI.2.1 hd rfl hl hn rfl (fun ls hl => k p ev s m args below meth cd H locs ls hI hR hS (lv_mono hl (st2_mem hL)))
theorem g_istore {i : Nat} {x : Int32} {L1 : List (Nat × Value)} (hd : decode b pc = .ok (.istore i, 2)) (hn : i + 0 < mx) (hL : st1 L i (.int x) = L1) (k : G X own b mx rt nm R Qf c n (pc + 2) L1 st h) : G X own b mx rt nm R Qf c n pc L (.int x :: st) h :=
  fun p ev s m args below meth cd H locs ls hI hR hS hl => lv_istore hI.1 hI.2.1 hd hl hn rfl (fun ls hl => k p ev s m args below meth cd H locs ls hI hR hS (lv_mono hl (st1_mem hL)))
theorem g_lstore {i : Nat} {x : Int64} {L1 : List (Nat × Value)} (hd : decode b pc = .ok (.lstore i, 2)) (hn : i + 1 < mx) (hL : st2 L i (.long x) = L1) (k : G X own b mx rt nm R Qf c n (pc + 2) L1 st h) : G X own b mx rt nm R Qf c n pc L (.long x :: st) h :=
  fun p ev s m args below meth cd H locs ls hI hR hS hl => lv_lstore hI.1 hI.2.1 hd hl hn rfl (fun ls hl => k p ev s m args below meth cd H locs ls hI hR hS (lv_mono hl (st2_mem hL)))
theorem g_astore_n {i : Fin 4} {v : Value} {L1 : List (Nat × Value)} (hd : decode b pc = .ok (.astore_n i, 1)) (hr : isRf v) (hn : (i : Nat) + 0 < mx) (hL : st1 L (i : Nat) v = L1) (k : G X own b mx rt nm R Qf c n (pc + 1) L1 st h) : G X own b mx rt nm R Qf c n pc L (v :: st) h := by
  intro p ev s m args below meth cd H locs ls hI hR hS hl
  rcases hr with rfl | ⟨a, rfl⟩
  · exact lv_astore_nN hI.1 hI.2.1 hd rfl hl hn rfl (fun ls hl => k p ev s m args below meth cd H locs ls hI hR hS (lv_mono hl (st1_mem hL)))
  · exact lv_astore_n hI.1 hI.2.1 hd rfl hl hn rfl (fun ls hl => k p ev s m args below meth cd H locs ls hI hR hS (lv_mono hl (st1_mem hL)))
theorem g_astore {i : Nat} {v : Value} {L1 : List (Nat × Value)} (hd : decode b pc = .ok (.astore i, 2)) (hr : isRf v) (hn : i + 0 < mx) (hL : st1 L i v = L1) (k : G X own b mx rt nm R Qf c n (pc + 2) L1 st h) : G X own b mx rt nm R Qf c n pc L (v :: st) h := by
  intro p ev s m args below meth cd H locs ls hI hR hS hl
  rcases hr with rfl | ⟨a, rfl⟩
  · exact lv_astoreN hI.1 hI.2.1 hd hl hn rfl (fun ls hl => k p ev s m args below meth cd H locs ls hI hR hS (lv_mono hl (st1_mem hL)))
  · exact lv_astore hI.1 hI.2.1 hd hl hn rfl (fun ls hl => k p ev s m args below meth cd H locs ls hI hR hS (lv_mono hl (st1_mem hL)))
theorem g_iinc {i : Nat} {d : Int} {x v : Int32} {L1 : List (Nat × Value)} (hd : decode b pc = .ok (.iinc i d, 3)) (hv : lk L i = some (.int x)) (hx : x + Int32.ofInt d = v) (hn : i + 0 < mx) (hL : st1 L i (.int v) = L1) (k : G X own b mx rt nm R Qf c n (pc + 3) L1 st h) : G X own b mx rt nm R Qf c n pc L st h := by
  intro p ev s m args below meth cd H locs ls hI hR hS hl
  obtain ⟨j, hj⟩ := List.mem_iff_getElem?.mp (lk_mem hv)
  exact lv_iinc hI.1 hI.2.1 hd hl hj hx hn rfl (fun ls hl => k p ev s m args below meth cd H locs ls hI hR hS (lv_mono hl (st1_mem hL)))
theorem g_goto {off : Int} {tgt : Nat} (hd : decode b pc = .ok (.goto off, 3)) (ht : (pc : Int) + off = (tgt : Int)) (k : G X own b mx rt nm R Qf c n tgt L st h) : G X own b mx rt nm R Qf c n pc L st h :=
  fun p ev s m args below meth cd H locs ls hI hR hS hl => lv_goto hI.1 hI.2.1 hd ht (k p ev s m args below meth cd H locs ls hI hR hS hl)
theorem g_icmp_eq {x y : Int32} {off : Int} {tgt : Nat} (hd : decode b pc = .ok (.if_icmp .eq off, 3)) (ht : (pc : Int) + off = (tgt : Int)) (kt : x = y → G X own b mx rt nm R Qf c n tgt L st h) (kf : ¬ x = y → G X own b mx rt nm R Qf c n (pc + 3) L st h) : G X own b mx rt nm R Qf c n pc L (.int y :: .int x :: st) h :=
  fun p ev s m args below meth cd H locs ls hI hR hS hl => lv_icmp_eq hI.1 hI.2.1 hd ht (fun q => kt q p ev s m args below meth cd H locs ls hI hR hS hl) (fun q => kf q p ev s m args below meth cd H locs ls hI hR hS hl)
theorem g_if_eq {x : Int32} {off : Int} {tgt : Nat} (hd : decode b pc = .ok (.ifCond .eq off, 3)) (ht : (pc : Int) + off = (tgt : Int)) (kt : x = 0 → G X own b mx rt nm R Qf c n tgt L st h) (kf : ¬ x = 0 → G X own b mx rt nm R Qf c n (pc + 3) L st h) : G X own b mx rt nm R Qf c n pc L (.int x :: st) h :=
  fun p ev s m args below meth cd H locs ls hI hR hS hl => lv_if_eq hI.1 hI.2.1 hd ht (fun q => kt q p ev s m args below meth cd H locs ls hI hR hS hl) (fun q => kf q p ev s m args below meth cd H locs ls hI hR hS hl)
theorem g_icmp_ne {x y : Int32} {off : Int} {tgt : Nat} (hd : decode b pc = .ok (.if_icmp .ne off, 3)) (ht : (pc : Int) + off = (tgt : Int)) (kt : ¬ x = y → G X own b mx rt nm R Qf c n tgt L st h) (kf : x = y → G X own b mx rt nm R Qf c n (pc + 3) L st h) : G X own b mx rt nm R Qf c n pc L (.int y :: .int x :: st) h :=
  fun p ev s m args below meth cd H locs ls hI hR hS hl => lv_icmp_ne hI.1 hI.2.1 hd ht (fun q => kt q p ev s m args below meth cd H locs ls hI hR hS hl) (fun q => kf q p ev s m args below meth cd H locs ls hI hR hS hl)
theorem g_if_ne {x : Int32} {off : Int} {tgt : Nat} (hd : decode b pc = .ok (.ifCond .ne off, 3)) (ht : (pc : Int) + off = (tgt : Int)) (kt : ¬ x = 0 → G X own b mx rt nm R Qf c n tgt L st h) (kf : x = 0 → G X own b mx rt nm R Qf c n (pc + 3) L st h) : G X own b mx rt nm R Qf c n pc L (.int x :: st) h :=
  fun p ev s m args below meth cd H locs ls hI hR hS hl => lv_if_ne hI.1 hI.2.1 hd ht (fun q => kt q p ev s m args below meth cd H locs ls hI hR hS hl) (fun q => kf q p ev s m args below meth cd H locs ls hI hR hS hl)
theorem g_icmp_lt {x y : Int32} {off : Int} {tgt : Nat} (hd : decode b pc = .ok (.if_icmp .lt off, 3)) (ht : (pc : Int) + off = (tgt : Int)) (kt : x < y → G X own b mx rt nm R Qf c n tgt L st h) (kf : ¬ x < y → G X own b mx rt nm R Qf c n (pc + 3) L st h) : G X own b mx rt nm R Qf c n pc L (.int y :: .int x :: st) h :=
  fun p ev s m args below meth cd H locs ls hI hR hS hl => lv_icmp_lt hI.1 hI.2.1 hd ht (fun q => kt q p ev s m args below meth cd H locs ls hI hR hS hl) (fun q => kf q p ev s m args below meth cd H locs ls hI hR hS hl)
theorem g_if_lt {x : Int32} {off : Int} {tgt : Nat} (hd : decode b pc = .ok (.ifCond .lt off, 3)) (ht : (pc : Int) + off = (tgt : Int)) (kt : x < 0 → G X own b mx rt nm R Qf c n tgt L st h) (kf : ¬ x < 0 → G X own b mx rt nm R Qf c n (pc + 3) L st h) : G X own b mx rt nm R Qf c n pc L (.int x :: st) h :=
  fun p ev s m args below meth cd H locs ls hI hR hS hl => lv_if_lt hI.1 hI.2.1 hd ht (fun q => kt q p ev s m args below meth cd H locs ls hI hR hS hl) (fun q => kf q p ev s m args below meth cd H locs ls hI hR hS hl)
theorem g_icmp_ge {x y : Int32} {off : Int} {tgt : Nat} (hd : decode b pc = .ok (.if_icmp .ge off, 3)) (ht : (pc : Int) + off = (tgt : Int)) (kt : y ≤ x → G X own b mx rt nm R Qf c n tgt L st h) (kf : ¬ y ≤ x → G X own b mx rt nm R Qf c n (pc + 3) L st h) : G X own b mx rt nm R Qf c n pc L (.int y :: .int x :: st) h :=
  fun p ev s m args below meth cd H locs ls hI hR hS hl => lv_icmp_ge hI.1 hI.2.1 hd ht (fun q => kt q p ev s m args below meth cd H locs ls hI hR hS hl) (fun q => kf q p ev s m args below meth cd H locs ls hI hR hS hl)
theorem g_if_ge {x : Int32} {off : Int} {tgt : Nat} (hd : decode b pc = .ok (.ifCond .ge off, 3)) (ht : (pc : Int) + off = (tgt : Int)) (kt : 0 ≤ x → G X own b mx rt nm R Qf c n tgt L st h) (kf : ¬ 0 ≤ x → G X own b mx rt nm R Qf c n (pc + 3) L st h) : G X own b mx rt nm R Qf c n pc L (.int x :: st) h :=
  fun p ev s m args below meth cd H locs ls hI hR hS hl => lv_if_ge hI.1 hI.2.1 hd ht (fun q => kt q p ev s m args below meth cd H locs ls hI hR hS hl) (fun q => kf q p ev s m args below meth cd H locs ls hI hR hS hl)
theorem g_icmp_gt {x y : Int32} {off : Int} {tgt : Nat} (hd : decode b pc = .ok (.if_icmp .gt off, 3)) (ht : (pc : Int) + off = (tgt : Int)) (kt : y < x → G X own b mx rt nm R Qf c n tgt L st h) (kf : ¬ y < x → G X own b mx rt nm R Qf c n (pc + 3) L st h) : G X own b mx rt nm R Qf c n pc L (.int y :: .int x :: st) h :=
  fun p ev s m args below meth cd H locs ls hI hR hS hl => lv_icmp_gt hI.1 hI.2.1 hd ht (fun q => kt q p ev s m args below meth cd H locs ls hI hR hS hl) (fun q => kf q p ev s m args below meth cd H locs ls hI hR hS hl)
theorem g_if_gt {x : Int32} {off : Int} {tgt : Nat} (hd : decode b pc = .ok (.ifCond .gt off, 3)) (ht : (pc : Int) + off = (tgt : Int)) (kt : 0 < x → G X own b mx rt nm R Qf c n tgt L st h) (kf : ¬ 0 < x → G X own b mx rt nm R Qf c n (pc + 3) L st h) : G X own b mx rt nm R Qf c n pc L (.int x :: st) h :=
  fun p ev s m args below meth cd H locs ls hI hR hS hl => lv_if_gt hI.1 hI.2.1 hd ht (fun q => kt q p ev s m args below meth cd H locs ls hI hR hS hl) (fun q => kf q p ev s m args below meth cd H locs ls hI hR hS hl)
theorem g_icmp_le {x y : Int32} {off : Int} {tgt : Nat} (hd : decode b pc = .ok (.if_icmp .le off, 3)) (ht : (pc : Int) + off = (tgt : Int)) (kt : x ≤ y → G X own b mx rt nm R Qf c n tgt L st h) (kf : ¬ x ≤ y → G X own b mx rt nm R Qf c n (pc + 3) L st h) : G X own b mx rt nm R Qf c n pc L (.int y :: .int x :: st) h :=
  fun p ev s m args below meth cd H locs ls hI hR hS hl => lv_icmp_le hI.1 hI.2.1 hd ht (fun q => kt q p ev s m args below meth cd H locs ls hI hR hS hl) (fun q => kf q p ev s m args below meth cd H locs ls hI hR hS hl)
theorem g_if_le {x : Int32} {off : Int} {tgt : Nat} (hd : decode b pc = .ok (.ifCond .le off, 3)) (ht : (pc : Int) + off = (tgt : Int)) (kt : x ≤ 0 → G X own b mx rt nm R Qf c n tgt L st h) (kf : ¬ x ≤ 0 → G X own b mx rt nm R Qf c n (pc + 3) L st h) : G X own b mx rt nm R Qf c n pc L (.int x :: st) h :=
  fun p ev s m args below meth cd H locs ls hI hR hS hl => lv_if_le hI.1 hI.2.1 hd ht (fun q => kt q p ev s m args below meth cd H locs ls hI hR hS hl) (fun q => kf q p ev s m args below meth cd H locs ls hI hR hS hl)
theorem g_ifnull {v : Value} {off : Int} {tgt : Nat} (hd : decode b pc = .ok (.ifnull off, 3)) (ht : (pc : Int) + off = (tgt : Int)) (hr : isRf v) (kt : v = .null → G X own b mx rt nm R Qf c n tgt L st h) (kf : v ≠ .null → G X own b mx rt nm R Qf c n (pc + 3) L st h) : G X own b mx rt nm R Qf c n pc L (v :: st) h := by
  intro p ev s m args below meth cd H locs ls hI hR hS hl
  rcases hr with rfl | ⟨a, rfl⟩
  · exact lv_ifnullN hI.1 hI.2.1 hd ht (kt rfl p ev s m args below meth cd H locs ls hI hR hS hl)
  · exact lv_ifnull hI.1 hI.2.1 hd (kf (fun q => by cases q) p ev s m args below meth cd H locs ls hI hR hS hl)
theorem g_ifnonnull {v : Value} {off : Int} {tgt : Nat} (hd : decode b pc = .ok (.ifnonnull off, 3)) (ht : (pc : Int) + off = (tgt : Int)) (hr : isRf v) (kt : v ≠ .null → G X own b mx rt nm R Qf c n tgt L st h) (kf : v = .null → G X own b mx rt nm R Qf c n (pc + 3) L st h) : G X own b mx rt nm R Qf c n pc L (v :: st) h := by
  intro p ev s m args below meth cd H locs ls hI hR hS hl
  rcases hr with rfl | ⟨a, rfl⟩
  · exact lv_ifnonnullN hI.1 hI.2.1 hd (kf rfl p ev s m args below meth cd H locs ls hI hR hS hl)
  · exact lv_ifnonnull hI.1 hI.2.1 hd ht (kt (fun q => by cases q) p ev s m args below meth cd H locs ls hI hR hS hl)
theorem g_tableOut {dflt lo hi : Int} {offs : Array Int} {len : Nat} {x : Int32} {tgt : Nat} (hd : decode b pc = .ok (.tableswitch dflt lo hi offs, len)) (hx : x.toInt < lo ∨ hi < x.toInt) (ht : (pc : Int) + dflt = (tgt : Int)) (k : G X own b mx rt nm R Qf c n tgt L st h) : G X own b mx rt nm R Qf c n pc L (.int x :: st) h :=
  fun p ev s m args below meth cd H locs ls hI hR hS hl => lv_tableOut hI.1 hI.2.1 hd hx ht (k p ev s m args below meth cd H locs ls hI hR hS hl)
theorem g_tableIn {dflt lo hi : Int} {offs : Array Int} {len : Nat} {x : Int32} {off : Int} {tgt : Nat} (hd : decode b pc = .ok (.tableswitch dflt lo hi offs, len)) (h1 : ¬ x.toInt < lo) (h2 : ¬ hi < x.toInt) (ho : offs[(x.toInt - lo).toNat]? = some off) (ht : (pc : Int) + off = (tgt : Int)) (k : G X own b mx rt nm R Qf c n tgt L st h) : G X own b mx rt nm R Qf c n pc L (.int x :: st) h :=
  fun p ev s m args below meth cd H locs ls hI hR hS hl => lv_tableIn hI.1 hI.2.1 hd h1 h2 ho ht (k p ev s m args below meth cd H locs ls hI hR hS hl)
theorem g_lookup {dflt : Int} {ps : Array (Int × Int)} {len : Nat} {x : Int32} {off : Int} {tgt : Nat} (hd : decode b pc = .ok (.lookupswitch dflt ps, len)) (hp : (ps.toList.zip (ps.toList.drop 1)).all (fun (a, next) => a.1 < next.1) = true) (ho : Op.lookupswitch.offset ps.toList dflt x.toInt = off) (ht : (pc : Int) + off = (tgt : Int)) (k : G X own b mx rt nm R Qf c n tgt L st h) : G X own b mx rt nm R Qf c n pc L (.int x :: st) h :=
  fun p ev s m args below meth cd H locs ls hI hR hS hl => lv_lookup hI.1 hI.2.1 hd hp ho ht (k p ev s m args below meth cd H locs ls hI hR hS hl)
theorem g_ldc {i : Nat} {v : Int32} (hd : decode b pc = .ok (.ldc i, 2)) (hw : Cond.constant own i v ∈ lw_tbl) (k : G X own b mx rt nm R Qf c n (pc + 2) L (.int v :: st) h) : G X own b mx rt nm R Qf c n pc L st h :=
  fun p ev s m args below meth cd H locs ls hI hR hS hl => lv_ldc hI.1 hI.2.1 hI.2.2.2.1 (hI.2.2.2.2.1 _ (inA hw rfl)) hd (k p ev s m args below meth cd H locs ls hI hR hS hl)
theorem g_ldc2 {i : Nat} {v : Int64} (hd : decode b pc = .ok (.ldc2_w i, 3)) (hw : Cond.constantLong own i v ∈ lw_tbl) (k : G X own b mx rt nm R Qf c n (pc + 3) L (.long v :: st) h) : G X own b mx rt nm R Qf c n pc L st h :=
  fun p ev s m args below meth cd H locs ls hI hR hS hl => lv_ldc2 hI.1 hI.2.1 hI.2.2.2.1 (hI.2.2.2.2.1 _ (inA hw rfl)) hd (k p ev s m args below meth cd H locs ls hI hR hS hl)
theorem g_ldcf {i : Nat} {v : UInt32} (hd : decode b pc = .ok (.ldc i, 2)) (hw : Cond.constantFloat own i v ∈ lw_tbl) (k : G X own b mx rt nm R Qf c n (pc + 2) L (.float v :: st) h) : G X own b mx rt nm R Qf c n pc L st h :=
  fun p ev s m args below meth cd H locs ls hI hR hS hl => lv_ldcf hI.1 hI.2.1 hI.2.2.2.1 (hI.2.2.2.2.1 _ (inA hw rfl)) hd (k p ev s m args below meth cd H locs ls hI hR hS hl)
theorem g_ldcw {i : Nat} {v : Int32} (hd : decode b pc = .ok (.ldc_w i, 3)) (hw : Cond.constant own i v ∈ lw_tbl) (k : G X own b mx rt nm R Qf c n (pc + 3) L (.int v :: st) h) : G X own b mx rt nm R Qf c n pc L st h :=
  fun p ev s m args below meth cd H locs ls hI hR hS hl => lv_ldcw hI.1 hI.2.1 hI.2.2.2.1 (hI.2.2.2.2.1 _ (inA hw rfl)) hd (k p ev s m args below meth cd H locs ls hI hR hS hl)
end GR
