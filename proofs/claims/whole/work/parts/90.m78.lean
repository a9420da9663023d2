theorem SysAt.kept {X : Cx} {h h1 : Hp} {A B m : Nat → Nat} {C : Nat → Nat → Nat} {r : Nat → Int32} {n tn : Nat} {rows : Nat → Nat → Int32} {tg : Nat → Int32} (k : SysAt X h A B m C r n rows tn tg) (f : ∀ q, ¬ outS A B m C q → h1 q = h q) (fs : ∀ i, i < 3 → h1 (X.2.2.2.2 i) = h (X.2.2.2.2 i)) : SysAt X h1 A B m C r n rows tn tg := by
  have nA : ∀ i, i < 194 → h1 (A i) = h (A i) := fun i hi => f _ (fun z => z.1 i hi rfl)
  have nB : ∀ i, i < 194 → h1 (B i) = h (B i) := fun i hi => f _ (fun z => z.2.1 i hi rfl)
  have nC : ∀ k, k < 5 → ∀ i, i < 194 → h1 (C k i) = h (C k i) := fun k hk i hi => f _ (fun z => z.2.2.1 k hk i hi rfl)
  have nm : ∀ i, i < 24 → h1 (m i) = h (m i) := fun i hi => f _ (fun z => z.2.2.2 i hi rfl)
  obtain ⟨y0, yA, ⟨t, yB⟩, y1, y2, yC, yT, ⟨wd, fp, fr, fc, pl, kd, fi, se, y5⟩, y6, y7, ⟨path, y8⟩, ⟨xs, yD⟩, yS⟩ := k
  exact ⟨(nm 0 (by omega)).trans y0, yA.kept nA, ⟨t, yB.kept nB⟩, (nm 1 (by omega)).trans y1, (nm 2 (by omega)).trans y2, fun k hk => by
    obtain ⟨t, a, b⟩ := yC k hk
    exact ⟨t, a.kept (nC k hk), b⟩, ⟨(nm 3 (by omega)).trans yT.1, (nm 4 (by omega)).trans yT.2⟩, ⟨wd, fp, fr, fc, pl, kd, fi, se, (nm 5 (by omega)).trans y5⟩, (nm 6 (by omega)).trans y6, (nm 7 (by omega)).trans y7, ⟨path, (nm 8 (by omega)).trans y8⟩, ⟨xs, fun k hk => (yD k hk).kept (nm (9 + 3 * k + 0) (by omega)) (nm (9 + 3 * k + 1) (by omega)) (nm (9 + 3 * k + 2) (by omega))⟩, ⟨(fs 0 (by omega)).trans yS.1, (fs 1 (by omega)).trans yS.2.1, (fs 2 (by omega)).trans yS.2.2⟩⟩
theorem SysAt.some {X : Cx} {h : Hp} {A B m : Nat → Nat} {C : Nat → Nat → Nat} {r : Nat → Int32} {n tn : Nat} {rows : Nat → Nat → Int32} {tg : Nat → Int32} (k : SysAt X h A B m C r n rows tn tg) : (∀ i, i < 194 → ∃ w, h (A i) = some w) ∧ (∀ i, i < 194 → ∃ w, h (B i) = some w) ∧ (∀ k, k < 5 → ∀ i, i < 194 → ∃ w, h (C k i) = some w) ∧ ∀ i, i < 24 → ∃ w, h (m i) = some w := by
  obtain ⟨y0, yA, ⟨t, yB⟩, y1, y2, yC, yT, ⟨wd, fp, fr, fc, pl, kd, fi, se, y5⟩, y6, y7, ⟨path, y8⟩, ⟨xs, yD⟩, yS⟩ := k
  refine ⟨fun i hi => ?_, fun i hi => ?_, fun k hk i hi => ?_, fun i hi => ?_⟩
  · obtain ⟨e, q, -⟩ := yA.cell hi
    exact ⟨e, q⟩
  · obtain ⟨e, q, -⟩ := yB.cell hi
    exact ⟨e, q⟩
  · obtain ⟨t, a, -⟩ := yC k hk
    obtain ⟨e, q, -⟩ := a.cell hi
    exact ⟨e, q⟩
  · by_cases h9 : i < 9
    · rcases (show i = 0 ∨ i = 1 ∨ i = 2 ∨ i = 3 ∨ i = 4 ∨ i = 5 ∨ i = 6 ∨ i = 7 ∨ i = 8 by omega) with rfl | rfl | rfl | rfl | rfl | rfl | rfl | rfl | rfl
      · exact ⟨_, y0⟩
      · exact ⟨_, y1⟩
      · exact ⟨_, y2⟩
      · exact ⟨_, yT.1⟩
      · exact ⟨_, yT.2⟩
      · exact ⟨_, y5⟩
      · exact ⟨_, y6⟩
      · exact ⟨_, y7⟩
      · exact ⟨_, y8⟩
    · obtain ⟨k, j, hk, hj, e⟩ : ∃ k j, k < 5 ∧ j < 3 ∧ i = 9 + 3 * k + j := ⟨(i - 9) / 3, (i - 9) % 3, by omega, by omega, by omega⟩
      obtain ⟨d0, d1, d2⟩ := yD k hk
      rw [e]
      rcases (show j = 0 ∨ j = 1 ∨ j = 2 by omega) with rfl | rfl | rfl
      · exact ⟨_, d0⟩
      · exact ⟨_, d1⟩
      · exact ⟨_, d2⟩
theorem outS_new {X : Cx} {h : Hp} {A B m : Nat → Nat} {C : Nat → Nat → Nat} {r : Nat → Int32} {n tn : Nat} {rows : Nat → Nat → Int32} {tg : Nat → Int32} {q : Nat} (k : SysAt X h A B m C r n rows tn tg) (e : h q = none) : outS A B m C q := by
  obtain ⟨sA, sB, sC, sm⟩ := k.some
  have ne : ∀ x, (∃ w, h x = some w) → q ≠ x := fun x z y => by
    obtain ⟨w, z⟩ := z
    rw [y, z] at e
    cases e
  exact ⟨fun i hi => ne _ (sA i hi), fun i hi => ne _ (sB i hi), fun k hk i hi => ne _ (sC k hk i hi), fun i hi => ne _ (sm i hi)⟩
theorem MdAt.kept {X : Cx} {h h1 : Hp} {M : Nat → Nat} {r : Nat → Int32} {n tn : Nat} {rows : Nat → Nat → Int32} {tg : Nat → Int32} (k : MdAt X h M r n rows tn tg) (f : ∀ i, i < 8 → h1 (M i) = h (M i)) : MdAt X h1 M r n rows tn tg := by
  obtain ⟨s, kd, ⟨at0, lt, fl, k0⟩, k1, ⟨g, k2, k2b⟩, k3, k4, ⟨w5, k5⟩, ⟨w6, k6⟩, w7, k7⟩ := k
  exact ⟨s, kd, ⟨at0, lt, fl, (f 0 (by omega)).trans k0⟩, (f 1 (by omega)).trans k1, ⟨g, (f 2 (by omega)).trans k2, k2b⟩, (f 3 (by omega)).trans k3, (f 4 (by omega)).trans k4, ⟨w5, (f 5 (by omega)).trans k5⟩, ⟨w6, (f 6 (by omega)).trans k6⟩, w7, (f 7 (by omega)).trans k7⟩
/-- what holds between two calls of the law: the class at A, B, m, C, the model at M, the script of L ints at b -/
def LInv (X : Cx) (h : Hp) (A B m M : Nat → Nat) (b L : Nat) (xs : Nat → Int32) (C : Nat → Nat → Nat) (r : Nat → Int32) (n : Nat) (rows : Nat → Nat → Int32) (tn : Nat) (tg : Nat → Int32) : Prop :=
  SepS A B m C ∧ SysAt X h A B m C r n rows tn tg ∧ MdAt X h M r n rows tn tg ∧ n ≤ 4 ∧ Ok r ∧ Ok2 r ∧ TOk tn tg ∧ (∀ k, k < n → Ok (rows k) ∧ Ok2 (rows k)) ∧ (∀ i, i < 8 → outS A B m C (M i)) ∧ outS A B m C b ∧ outM M b ∧ (∀ i, i < 3 → outM M (X.2.2.2.2 i)) ∧ h b = some (sI L xs)
section
variable {X : Cx} {h h1 h2 : Hp} {A B m M : Nat → Nat} {b L : Nat} {xs : Nat → Int32} {C : Nat → Nat → Nat} {r r2 : Nat → Int32} {n n2 tn tn2 : Nat} {rows rows2 : Nat → Nat → Int32} {tg tg2 : Nat → Int32}
theorem LInv.md (I : LInv X h A B m M b L xs C r n rows tn tg) (S : SysTo X h h1 A B m C r2 n2 rows2 tn2 tg2) : MdAt X h1 M r n rows tn tg ∧ h1 b = some (sI L xs) := by
  obtain ⟨-, -, hM, -, -, -, -, -, oM, ob0, -, -, hb⟩ := I
  obtain ⟨C2, -, -, -, f⟩ := S
  exact ⟨hM.kept (fun i hi => f _ (oM i hi)), (f _ ob0).trans hb⟩
theorem LInv.deed (I : LInv X h A B m M b L xs C r n rows tn tg) (S : SysTo X h h1 A B m C r2 n2 rows2 tn2 tg2) (D : MdTo X h1 h2 M r2 n2 rows2 tn2 tg2) (hn : n2 ≤ 4) (o : Ok r2) (o2 : Ok2 r2) (t : TOk tn2 tg2) (rs : ∀ k, k < n2 → Ok (rows2 k) ∧ Ok2 (rows2 k)) : ∃ C2, LInv X h2 A B m M b L xs C2 r2 n2 rows2 tn2 tg2 := by
  obtain ⟨-, -, hM, -, -, -, -, -, oM, ob0, om0, st0, hb⟩ := I
  obtain ⟨C2, k2, s2, g, f⟩ := S
  refine ⟨C2, s2, k2.kept (fun q hq => D.2 q (fun i hi e => hq ?_)) (fun i hi => D.2 _ (st0 i hi)), D.1, hn, o, o2, t, rs, fun i hi => g _ (oM i hi), g _ ob0, om0, st0, (D.2 _ om0).trans ((f _ ob0).trans hb)⟩
  rw [e]
  exact g _ (oM i hi)
theorem sysN_le {x : Int32} (h : n ≤ 4) : sysN x n ≤ 4 := by
  unfold sysN hstN
  split
  · exact h
  · split <;> omega
theorem sysR_ok {x : Int32} (h : n ≤ 4) (o : Ok r) (o2 : Ok2 r) (rs : ∀ k, k < n → Ok (rows k) ∧ Ok2 (rows k)) : ∀ k, k < sysN x n → Ok (sysR x n r rows k) ∧ Ok2 (sysR x n r rows k) := by
  intro k hk
  unfold sysN hstN at hk
  unfold sysR hstR
  by_cases hx : x < 0
  · rw [if_pos hx] at hk ⊢
    exact rs k hk
  · rw [if_neg hx] at hk ⊢
    by_cases h4 : n < 4
    · rw [if_pos h4] at hk ⊢
      show Ok (if k = n then r else rows k) ∧ Ok2 (if k = n then r else rows k)
      by_cases e : k = n
      · rw [if_pos e]
        exact ⟨o, o2⟩
      · rw [if_neg e]
        exact rs k (by omega)
    · rw [if_neg h4] at hk ⊢
      show Ok (if k = 3 then r else rows (k + 1)) ∧ Ok2 (if k = 3 then r else rows (k + 1))
      by_cases e : k = 3
      · rw [if_pos e]
        exact ⟨o, o2⟩
      · rw [if_neg e]
        exact rs (k + 1) (by omega)
theorem LInv.step (I : LInv X h A B m M b L xs C r n rows tn tg) {F : Int32 × (Nat → Int32)} (S : SysTo X h h1 A B m C F.2 (sysN F.1 n) (sysR F.1 n r rows) tn tg) (D : MdTo X h1 h2 M F.2 (sysN F.1 n) (sysR F.1 n r rows) tn tg) (o : Ok F.2) (o2 : Ok2 F.2) : ∃ C2, LInv X h2 A B m M b L xs C2 F.2 (sysN F.1 n) (sysR F.1 n r rows) tn tg := by
  obtain ⟨-, -, -, hn, p, p2, t, rs, -⟩ := id I
  exact I.deed S D (sysN_le hn) o o2 t (sysR_ok hn p p2 rs)
def unA (n : Nat) : Int32 := match n with
  | 0 => -2
  | k + 1 => nI k
def unR (r : Nat → Int32) (rows : Nat → Nat → Int32) (n : Nat) : Nat → Int32 := match n with
  | 0 => r
  | k + 1 => rows k
theorem SysTo.self (hS : SepS A B m C) (k : SysAt X h A B m C r n rows tn tg) : SysTo X h h A B m C r n rows tn tg := ⟨C, k, hS, fun _ z => z, fun _ _ => rfl⟩
theorem ct_undoA (hS : SepS A B m C) (hn : n ≤ 4) (hO : ∀ k, k < n → Ok (rows k) ∧ Ok2 (rows k)) (hY : SysAt X h A B m C r n rows tn tg) : Ct X mX9_undo 5 0 0 [.ref (m 0)] h (fun u h1 => u = some (.int (unA n)) ∧ SysTo X h h1 A B m C (unR r rows n) (n - 1) rows tn tg) := by
  cases n with
  | zero =>
    refine Ct.mono (ct_undo0 X hY) ?_
    rintro v h1 ⟨e, rfl⟩
    exact ⟨e, SysTo.self hS hY⟩
  | succ k => exact ct_undoS X hS hn (fun j hj => (hO j hj).1) hY
theorem ct_mUndoA (hn : n ≤ 4) (k : MdAt X h M r n rows tn tg) : Ct X mX10_undo 0 0 0 [.ref (M 0)] h (fun u h1 => u = some (.int (unA n)) ∧ MdTo X h h1 M (unR r rows n) (n - 1) rows tn tg) := by
  cases n with
  | zero =>
    refine Ct.mono (ct_mUndo0 X k) ?_
    rintro v h1 ⟨e, rfl⟩
    exact ⟨e, k, fun _ _ => rfl⟩
  | succ j => exact ct_mUndoS X hn k
theorem un_ok (o : Ok r) (o2 : Ok2 r) (rs : ∀ k, k < n → Ok (rows k) ∧ Ok2 (rows k)) : Ok (unR r rows n) ∧ Ok2 (unR r rows n) := by
  cases n with
  | zero => exact ⟨o, o2⟩
  | succ k => exact rs k (by omega)
end
theorem Ok2_0 : Ok2 row0 := by
  refine ⟨fun k => ?_, ?_⟩
  · unfold rackN
    rw [show row0 8 = nI 0 from rfl, cl_nI (by omega)]
    exact Nat.zero_le _
  · unfold unsN
    rw [show row0 9 = nI 0 from rfl, cl_nI (by omega)]
    exact Nat.zero_le _
theorem Ok2_pl {n : Nat} {g : Nat → Int32} : ∀ {f : Nat} {r : Nat → Int32} {p k : Nat}, Ok r → Ok2 r → Ok2 (plF n g f r p k).2.1
  | 0, r, p, k, _, h => h
  | f + 1, r, p, k, o, h => by
    by_cases hp : p < n
    · cases hr : rdW n g p with
      | none =>
        rw [plF_bad hp hr]
        exact h
      | some v =>
        obtain ⟨c, a, b, q2⟩ := v
        by_cases hz : (F_work (cl c) r a b).1 < 0
        · rw [plF_no hp hr hz]
          exact Ok2_work o h
        · rw [plF_go hp hr hz]
          exact Ok2_pl (Ok_work o) (Ok2_work o h)
    · rw [plF_end hp]
      exact h
theorem Ok_play {n : Nat} {g r : Nat → Int32} (o : Ok r) (o2 : Ok2 r) : Ok (F_play n g r).2 ∧ Ok2 (F_play n g r).2 := by
  unfold F_play
  cases (plF n g 60 r 0 0).1 with
  | none => exact ⟨Ok_pl o, Ok2_pl o o2⟩
  | some v => exact ⟨o, o2⟩
theorem TOk_type {n : Nat} {g : Nat → Int32} {c : Int32} (k : TOk n g) : TOk (typN n c) (typG n g c) := by
  unfold typN typG
  cases ht : typOk n c with
  | false => exact k
  | true =>
    unfold typOk at ht
    rw [Bool.and_eq_true] at ht
    have hlt := of_decide_eq_true ht.2
    obtain ⟨j, hj, e⟩ := ch_of ht.1
    refine ⟨hlt, fun p hp => ?_⟩
    show ∃ j, j < 127 ∧ upd g n c p = nI j
    have hp2 : p < n + 1 := hp
    by_cases q : p = n
    · rw [q, upd_s]
      exact ⟨j, hj, e⟩
    · rw [upd_n q]
      exact k.2 p (by omega)
