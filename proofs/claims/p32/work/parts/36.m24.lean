theorem HouseAt.cell {X : Cx} {h : Hp} {A : Nat → Nat} {r : Nat → Int32} (k : HouseAt X h A r) {i : Nat} (hi : i < 194) : ∃ e, h (A i) = some e ∧ ∀ n f, e ≠ sI n f := by
  obtain ⟨k0, k1, k2, k3, k4, k5, k6, kv, kl, ko⟩ := k
  rcases (show i = 0 ∨ i = 1 ∨ i = 2 ∨ i = 3 ∨ i = 4 ∨ i = 5 ∨ i = 6 ∨ i = 7 ∨ (8 ≤ i ∧ i < 14) ∨ (14 ≤ i ∧ i < 74) ∨ (74 ≤ i) by omega) with rfl | rfl | rfl | rfl | rfl | rfl | rfl | rfl | z | z | z
  · exact ⟨_, k0, ob_s⟩
  · exact ⟨_, k1, oR_s⟩
  · exact ⟨_, k2, oR_s⟩
  · exact ⟨_, k3, oR_s⟩
  · exact ⟨_, k4, oI_s⟩
  · exact ⟨_, k5, oI_s⟩
  · exact ⟨_, k6.1, ob_s⟩
  · exact ⟨_, k6.2, oI_s⟩
  · have e := kv (i - 8) (by omega)
    rw [show 8 + (i - 8) = i by omega] at e
    exact ⟨_, e, ob_s⟩
  · have e := kl ((i - 14) / 3) (by omega)
    rcases (show i = 14 + 3 * ((i - 14) / 3) ∨ i = 15 + 3 * ((i - 14) / 3) ∨ i = 16 + 3 * ((i - 14) / 3) by omega) with q | q | q
    · rw [q]
      exact ⟨_, e.1, ob_s⟩
    · rw [q]
      exact ⟨_, e.2.1, oI_s⟩
    · rw [q]
      exact ⟨_, e.2.2, oI_s⟩
  · have e := ko ((i - 74) / 2) (by omega)
    rcases (show i = 74 + 2 * ((i - 74) / 2) ∨ i = 75 + 2 * ((i - 74) / 2) by omega) with q | q
    · rw [q]
      exact ⟨_, e.1, ob_s⟩
    · rw [q]
      exact ⟨_, e.2, oI_s⟩
theorem HouseAt.outs {X : Cx} {h : Hp} {A : Nat → Nat} {r : Nat → Int32} (k : HouseAt X h A r) {q n : Nat} {f : Nat → Int32} (e : h q = some (sI n f)) : outA A q := by
  intro i hi z
  subst z
  obtain ⟨x, hx, hs⟩ := k.cell hi
  rw [e] at hx
  exact hs n f (Option.some.inj hx).symm
def DD (m : Nat → Nat) : Nat → Nat → Nat := fun k i => m (9 + 3 * k + i)
def SepS (A B m : Nat → Nat) (C : Nat → Nat → Nat) : Prop := InjA A ∧ InjA B ∧ (∀ k, k < 5 → InjA (C k)) ∧ Dj A B ∧ (∀ k, k < 5 → Dj A (C k)) ∧ (∀ k, k < 5 → Dj B (C k)) ∧ (∀ j k, j < 5 → k < 5 → j ≠ k → Dj (C j) (C k)) ∧ (∀ i, i < 24 → outA A (m i) ∧ outA B (m i) ∧ ∀ k, k < 5 → outA (C k) (m i)) ∧ ∀ i j, i < 24 → j < 24 → m i = m j → i = j
/-- the whole object -/
def SysAt (X : Cx) (h : Hp) (A B m : Nat → Nat) (C : Nat → Nat → Nat) (r : Nat → Int32) (n : Nat) (rows : Nat → Nat → Int32) (tn : Nat) (tg : Nat → Int32) : Prop :=
  h (m 0) = some (ob 9 [.ref (A 0), .ref (B 0), .ref (m 1), .ref (m 3), .ref (m 5), .ref (m 6)]) ∧ HouseAt X h A r ∧ (∃ t, HouseAt X h B t) ∧ h (m 1) = some (ob 0 [.ref (m 2), .int (nI n)]) ∧ h (m 2) = some (oR X 5 5 (stR C)) ∧ (∀ k, k < 5 → ∃ t, HouseAt X h (C k) t ∧ (k < n → t = rows k)) ∧ TxtAt X h (m 3) (m 4) tn tg ∧ (∃ wd fp fr fc pl kd fi se, h (m 5) = some (ob 5 (scrL wd fp fr fc pl kd fi se))) ∧ h (m 6) = some (ob 4 [.ref (m 7), .ref (m 8)]) ∧ h (m 7) = some (oR X 3 5 (dpR (DD m))) ∧ (∃ path : Nat → Int32, h (m 8) = some (oI X 4 (nr 4 path))) ∧ (∃ xs : Nat → Nat → Int32, ∀ k, k < 5 → LotAt X h (DD m k 0) (DD m k 1) (DD m k 2) (xs k)) ∧ StatAt X h
def outS (A B m : Nat → Nat) (C : Nat → Nat → Nat) (q : Nat) : Prop := outA A q ∧ outA B q ∧ (∀ k, k < 5 → outA (C k) q) ∧ ∀ i, i < 24 → q ≠ m i
theorem rot_in {C : Nat → Nat → Nat} {k : Nat} (hk : k < 5) : ∃ j, j < 5 ∧ rotC C k = C j := by
  unfold rotC
  by_cases e : k = 4
  · exact ⟨0, by omega, by rw [if_pos e]⟩
  · exact ⟨k + 1, by omega, by rw [if_neg e]⟩
theorem SepS.rot {A B m : Nat → Nat} {C : Nat → Nat → Nat} (k : SepS A B m C) : SepS A B m (rotC C) := by
  obtain ⟨k1, k2, k3, k4, k5, k6, k7, k8, k9⟩ := k
  refine ⟨k1, k2, fun j hj => ?_, k4, fun j hj => ?_, fun j hj => ?_, fun i j hi hj hn => ?_, fun i hi => ⟨(k8 i hi).1, (k8 i hi).2.1, fun j hj => ?_⟩, k9⟩
  · obtain ⟨z, hz, e⟩ := rot_in (C := C) hj
    rw [e]
    exact k3 z hz
  · obtain ⟨z, hz, e⟩ := rot_in (C := C) hj
    rw [e]
    exact k5 z hz
  · obtain ⟨z, hz, e⟩ := rot_in (C := C) hj
    rw [e]
    exact k6 z hz
  · unfold rotC
    by_cases e1 : i = 4
    · rw [if_pos e1, if_neg (by omega)]
      exact k7 _ _ (by omega) (by omega) (by omega)
    · by_cases e2 : j = 4
      · rw [if_neg e1, if_pos e2]
        exact k7 _ _ (by omega) (by omega) (by omega)
      · rw [if_neg e1, if_neg e2]
        exact k7 _ _ (by omega) (by omega) (by omega)
  · obtain ⟨z, hz, e⟩ := rot_in (C := C) hj
    rw [e]
    exact (k8 i hi).2.2 z hz
theorem outS.rot {A B m : Nat → Nat} {C : Nat → Nat → Nat} {q : Nat} (k : outS A B m C q) : outS A B m (rotC C) q := by
  obtain ⟨k1, k2, k3, k4⟩ := k
  refine ⟨k1, k2, fun j hj => ?_, k4⟩
  obtain ⟨z, hz, e⟩ := rot_in (C := C) hj
  rw [e]
  exact k3 z hz
def hstR (n : Nat) (r : Nat → Int32) (rows : Nat → Nat → Int32) : Nat → Nat → Int32 := if n < 4 then (fun k => if k = n then r else rows k) else (fun k => if k = 3 then r else rows (k + 1))
def sysN (x : Int32) (n : Nat) : Nat := if x < 0 then n else hstN n
def sysR (x : Int32) (n : Nat) (r : Nat → Int32) (rows : Nat → Nat → Int32) : Nat → Nat → Int32 := if x < 0 then rows else hstR n r rows
/-- what a method of the object leaves -/
def SysTo (X : Cx) (h h1 : Hp) (A B m : Nat → Nat) (C : Nat → Nat → Nat) (r : Nat → Int32) (n : Nat) (rows : Nat → Nat → Int32) (tn : Nat) (tg : Nat → Int32) : Prop := ∃ C2, SysAt X h1 A B m C2 r n rows tn tg ∧ SepS A B m C2 ∧ (∀ q, outS A B m C q → outS A B m C2 q) ∧ ∀ q, outS A B m C q → h1 q = h q
/-- a house of the object changed, nothing else -/
theorem SysAt.inA {X : Cx} {h h1 : Hp} {A B m : Nat → Nat} {C : Nat → Nat → Nat} {r r2 : Nat → Int32} {n tn : Nat} {rows : Nat → Nat → Int32} {tg : Nat → Int32} (hS : SepS A B m C) (k : SysAt X h A B m C r n rows tn tg) (hA : HouseAt X h1 A r2) (f : ∀ q, outA A q → h1 q = h q) : SysAt X h1 A B m C r2 n rows tn tg := by
  obtain ⟨s1, s2, s3, s4, s5, s6, s7, s8, s9⟩ := hS
  obtain ⟨k0, k1, ⟨t, k2⟩, k3, k4, k5, k6, ⟨wd, fp, fr, fc, pl, kd, fi, se, k7⟩, k8, k9, ⟨path, k10⟩, ⟨xs, k11⟩, k12⟩ := k
  have g : ∀ i, i < 24 → h1 (m i) = h (m i) := fun i hi => f _ (s8 i hi).1
  refine ⟨(g 0 (by omega)).trans k0, hA, ⟨t, k2.kept (fun i hi => f _ (fun j hj e => s4 j i hj hi e.symm))⟩, (g 1 (by omega)).trans k3, (g 2 (by omega)).trans k4, fun j hj => ?_, ⟨(g 3 (by omega)).trans k6.1, (g 4 (by omega)).trans k6.2⟩, ⟨wd, fp, fr, fc, pl, kd, fi, se, (g 5 (by omega)).trans k7⟩, (g 6 (by omega)).trans k8, (g 7 (by omega)).trans k9, ⟨path, (g 8 (by omega)).trans k10⟩, ⟨xs, fun j hj => (k11 j hj).kept (g _ (by omega)) (g _ (by omega)) (g _ (by omega))⟩, ?_⟩
  · obtain ⟨t2, q1, q2⟩ := k5 j hj
    exact ⟨t2, q1.kept (fun i hi => f _ (fun j2 hj2 e => s5 j hj j2 i hj2 hi e.symm)), q2⟩
  · exact ⟨(f _ (k1.outs k12.1)).trans k12.1, (f _ (k1.outs k12.2.1)).trans k12.2.1, (f _ (k1.outs k12.2.2)).trans k12.2.2⟩
theorem SysAt.inB {X : Cx} {h h1 : Hp} {A B m : Nat → Nat} {C : Nat → Nat → Nat} {r r2 : Nat → Int32} {n tn : Nat} {rows : Nat → Nat → Int32} {tg : Nat → Int32} (hS : SepS A B m C) (k : SysAt X h A B m C r n rows tn tg) (hB : HouseAt X h1 B r2) (f : ∀ q, outA B q → h1 q = h q) : SysAt X h1 A B m C r n rows tn tg := by
  obtain ⟨s1, s2, s3, s4, s5, s6, s7, s8, s9⟩ := hS
  obtain ⟨k0, k1, ⟨t, k2⟩, k3, k4, k5, k6, ⟨wd, fp, fr, fc, pl, kd, fi, se, k7⟩, k8, k9, ⟨path, k10⟩, ⟨xs, k11⟩, k12⟩ := k
  have g : ∀ i, i < 24 → h1 (m i) = h (m i) := fun i hi => f _ (s8 i hi).2.1
  refine ⟨(g 0 (by omega)).trans k0, k1.kept (fun i hi => f _ (fun j hj e => s4 i j hi hj e)), ⟨r2, hB⟩, (g 1 (by omega)).trans k3, (g 2 (by omega)).trans k4, fun j hj => ?_, ⟨(g 3 (by omega)).trans k6.1, (g 4 (by omega)).trans k6.2⟩, ⟨wd, fp, fr, fc, pl, kd, fi, se, (g 5 (by omega)).trans k7⟩, (g 6 (by omega)).trans k8, (g 7 (by omega)).trans k9, ⟨path, (g 8 (by omega)).trans k10⟩, ⟨xs, fun j hj => (k11 j hj).kept (g _ (by omega)) (g _ (by omega)) (g _ (by omega))⟩, ?_⟩
  · obtain ⟨t2, q1, q2⟩ := k5 j hj
    exact ⟨t2, q1.kept (fun i hi => f _ (fun j2 hj2 e => s6 j hj j2 i hj2 hi e.symm)), q2⟩
  · exact ⟨(f _ (k2.outs k12.1)).trans k12.1, (f _ (k2.outs k12.2.1)).trans k12.2.1, (f _ (k2.outs k12.2.2)).trans k12.2.2⟩
theorem SysAt.inC {X : Cx} {h h1 : Hp} {A B m : Nat → Nat} {C : Nat → Nat → Nat} {r r2 : Nat → Int32} {n tn : Nat} {rows : Nat → Nat → Int32} {tg : Nat → Int32} (hS : SepS A B m C) (hn : n < 5) (k : SysAt X h A B m C r n rows tn tg) (hC : HouseAt X h1 (C n) r2) (f : ∀ q, outA (C n) q → h1 q = h q) : SysAt X h1 A B m C r n rows tn tg := by
  obtain ⟨s1, s2, s3, s4, s5, s6, s7, s8, s9⟩ := hS
  obtain ⟨k0, k1, ⟨t, k2⟩, k3, k4, k5, k6, ⟨wd, fp, fr, fc, pl, kd, fi, se, k7⟩, k8, k9, ⟨path, k10⟩, ⟨xs, k11⟩, k12⟩ := k
  have g : ∀ i, i < 24 → h1 (m i) = h (m i) := fun i hi => f _ ((s8 i hi).2.2 n hn)
  obtain ⟨tc, kc, -⟩ := k5 n hn
  refine ⟨(g 0 (by omega)).trans k0, k1.kept (fun i hi => f _ (fun j hj e => s5 n hn i j hi hj e)), ⟨t, k2.kept (fun i hi => f _ (fun j hj e => s6 n hn i j hi hj e))⟩, (g 1 (by omega)).trans k3, (g 2 (by omega)).trans k4, fun j hj => ?_, ⟨(g 3 (by omega)).trans k6.1, (g 4 (by omega)).trans k6.2⟩, ⟨wd, fp, fr, fc, pl, kd, fi, se, (g 5 (by omega)).trans k7⟩, (g 6 (by omega)).trans k8, (g 7 (by omega)).trans k9, ⟨path, (g 8 (by omega)).trans k10⟩, ⟨xs, fun j hj => (k11 j hj).kept (g _ (by omega)) (g _ (by omega)) (g _ (by omega))⟩, ?_⟩
  · by_cases z : j = n
    · subst z
      exact ⟨r2, hC, fun q => absurd q (by omega)⟩
    · obtain ⟨t2, q1, q2⟩ := k5 j hj
      exact ⟨t2, q1.kept (fun i hi => f _ (fun j2 hj2 e => s7 j n hj hn z i j2 hi hj2 e)), q2⟩
  · exact ⟨(f _ (kc.outs k12.1)).trans k12.1, (f _ (kc.outs k12.2.1)).trans k12.2.1, (f _ (kc.outs k12.2.2)).trans k12.2.2⟩
theorem ne_bs {h : Hp} {a b ci n : Nat} {fs : List Value} {f : Nat → Int32} (h1 : h a = some (sI n f)) (h2 : h b = some (ob ci fs)) : a ≠ b := by
  intro z
  subst z
  rw [h1] at h2
  simp [ob, sI] at h2
theorem ne_rs {X : Cx} {h : Hp} {a b k j n : Nat} {g : Nat → Option Nat} {f : Nat → Int32} (h1 : h a = some (sI n f)) (h2 : h b = some (oR X k j g)) : a ≠ b := by
  intro z
  subst z
  rw [h1] at h2
  simp [oR, sI] at h2
/-- the history grew, or went round -/
theorem SysAt.keep {X : Cx} {h h1 : Hp} {A B m : Nat → Nat} {C : Nat → Nat → Nat} {r r0 : Nat → Int32} {n tn : Nat} {rows : Nat → Nat → Int32} {tg : Nat → Int32} (hS : SepS A B m C) (hn : n ≤ 4) (k : SysAt X h A B m C r n rows tn tg) (hC : HouseAt X h (C n) r0) (e1 : h1 (m 1) = some (ob 0 [.ref (m 2), .int (nI (hstN n))])) (e2 : h1 (m 2) = some (oR X 5 5 (stR (hstC n C)))) (f : ∀ q, q ≠ m 1 → q ≠ m 2 → h1 q = h q) : SysTo X h h1 A B m C r (hstN n) (hstR n r0 rows) tn tg := by
  obtain ⟨s1, s2, s3, s4, s5, s6, s7, s8, s9⟩ := id hS
  obtain ⟨k0, k1, ⟨t, k2⟩, k3, k4, k5, k6, ⟨wd, fp, fr, fc, pl, kd, fi, se, k7⟩, k8, k9, ⟨path, k10⟩, ⟨xs, k11⟩, k12⟩ := k
  have g : ∀ i, i < 24 → i ≠ 1 → i ≠ 2 → h1 (m i) = h (m i) := fun i hi h1 h2 => f _ (fun e => h1 (s9 _ _ hi (by omega) e)) (fun e => h2 (s9 _ _ hi (by omega) e))
  have hh : ∀ (Z : Nat → Nat) (t2 : Nat → Int32), outA Z (m 1) → outA Z (m 2) → HouseAt X h Z t2 → HouseAt X h1 Z t2 := fun Z t2 z1 z2 q => q.kept (fun i hi => f _ (Ne.symm (z1 i hi)) (Ne.symm (z2 i hi)))
  have hc : ∀ j, j < 5 → ∀ t2, HouseAt X h (C j) t2 → HouseAt X h1 (C j) t2 := fun j hj t2 q => hh _ _ ((s8 1 (by omega)).2.2 j hj) ((s8 2 (by omega)).2.2 j hj) q
  have st : ∀ q l (u : Nat → Int32), h q = some (sI l u) → h1 q = some (sI l u) := fun q l u e => (f q (ne_bs e k3) (ne_rs e k4)).trans e
  refine ⟨hstC n C, ⟨(g 0 (by omega) (by omega) (by omega)).trans k0, hh _ _ (s8 1 (by omega)).1 (s8 2 (by omega)).1 k1, ⟨t, hh _ _ (s8 1 (by omega)).2.1 (s8 2 (by omega)).2.1 k2⟩, e1, e2, fun j hj => ?_, ⟨(g 3 (by omega) (by omega) (by omega)).trans k6.1, (g 4 (by omega) (by omega) (by omega)).trans k6.2⟩, ⟨wd, fp, fr, fc, pl, kd, fi, se, (g 5 (by omega) (by omega) (by omega)).trans k7⟩, (g 6 (by omega) (by omega) (by omega)).trans k8, (g 7 (by omega) (by omega) (by omega)).trans k9, ⟨path, (g 8 (by omega) (by omega) (by omega)).trans k10⟩, ⟨xs, fun j hj => (k11 j hj).kept (g _ (by omega) (by omega) (by omega)) (g _ (by omega) (by omega) (by omega)) (g _ (by omega) (by omega) (by omega))⟩, ⟨st _ _ _ k12.1, st _ _ _ k12.2.1, st _ _ _ k12.2.2⟩⟩, ?_, ?_, fun q hq => f q (hq.2.2.2 1 (by omega)) (hq.2.2.2 2 (by omega))⟩
  · unfold hstC hstN hstR
    by_cases z : n < 4
    · rw [if_pos z, if_pos z, if_pos z]
      by_cases e : j = n
      · subst e
        exact ⟨r0, hc j hj _ hC, fun _ => (if_pos rfl).symm⟩
      · obtain ⟨t2, q1, q2⟩ := k5 j hj
        exact ⟨t2, hc j hj _ q1, fun q => (q2 (by omega)).trans (if_neg e).symm⟩
    · rw [if_neg z, if_neg z, if_neg z]
      have e4 : n = 4 := by omega
      subst e4
      unfold rotC
      by_cases e : j = 4
      · rw [if_pos e]
        obtain ⟨t2, q1, q2⟩ := k5 0 (by omega)
        exact ⟨t2, hc 0 (by omega) _ q1, fun q => absurd q (by omega)⟩
      · rw [if_neg e]
        by_cases e3 : j = 3
        · subst e3
          exact ⟨r0, hc 4 (by omega) _ hC, fun _ => (if_pos rfl).symm⟩
        · obtain ⟨t2, q1, q2⟩ := k5 (j + 1) (by omega)
          exact ⟨t2, hc (j + 1) (by omega) _ q1, fun q => (q2 (by omega)).trans (if_neg e3).symm⟩
  · unfold hstC
    by_cases z : n < 4
    · rw [if_pos z]
      exact hS
    · rw [if_neg z]
      exact hS.rot
  · intro q hq
    unfold hstC
    by_cases z : n < 4
    · rw [if_pos z]
      exact hq
    · rw [if_neg z]
      exact hq.rot
