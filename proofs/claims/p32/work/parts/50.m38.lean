/-- what stood stays, the cell a aside -/
def Kp (h h1 : Hp) (a : Nat) : Prop := ∀ q w, q ≠ a → h q = some w → h1 q = some w
theorem Kp.none {h h1 : Hp} {a q : Nat} (k : Kp h h1 a) (n : q ≠ a) (z : h1 q = none) : h q = none := by
  cases e : h q with
  | none => rfl
  | some w =>
    rw [k q w n e] at z
    cases z
def row0 : Nat → Int32 := fun j => if j < 7 then firstF j else 0
theorem r0_hi {j : Nat} (h : 7 ≤ j) : row0 j = 0 := if_neg (by omega)
theorem HB.house {X : Cx} {h : Hp} {A : Nat → Nat} {a : Nat} (k : HB X h A a 6 20 60) (hA : A 0 = a) : HouseAt X h A row0 := by
  obtain ⟨k0, k1, k2, k3, k4, k5, k6, kv, kl, ko⟩ := k
  have ev : ∀ v, vt row0 v = zrow := fun v => funext (fun j => r0_hi (by omega))
  have el : ∀ l, ltx row0 l = zrow := fun l => funext (fun j => r0_hi (by omega))
  have eo : ∀ o, od row0 o = zrow := fun o => funext (fun j => r0_hi (by omega))
  have e6 : nr 7 row0 = nr 7 firstF := by
    funext j
    unfold nr
    by_cases z : j < 7
    · rw [if_pos z, if_pos z]
      exact if_pos z
    · rw [if_neg z, if_neg z]
  refine ⟨(congrArg h hA).trans k0, k1, k2, k3, ?_, ?_, ⟨k6.1, ?_⟩, fun v hv => ?_, fun l hl => ?_, fun o ho => ?_⟩
  · rw [show (fun d => row0 (11 + d)) = zrow from funext (fun d => r0_hi (by omega))]
    exact k4
  · rw [show (fun d => row0 (15 + d)) = zrow from funext (fun d => r0_hi (by omega))]
    exact k5
  · rw [e6]
    exact k6.2
  · rw [ev]
    exact kv v hv
  · rw [el]
    exact kl l hl
  · rw [eo]
    exact ko o ho
theorem Fr.keep {h h2 : Hp} {A : Nat → Nat} {k l : Nat} {e : va_E} (f : Fr (hu h l e) h2 A k) (hA : A 0 = l) (hl : h l = none) : ∀ q w, h q = some w → h2 q = some w := fun q w hq => by
  have n : q ≠ l := fun z => by
    rw [z, hl] at hq
    cases hq
  have g : hu h l e q = some w := hu_n1 n hq
  rw [f.2.2.2 q (fun i hi z => ?_)]
  · exact g
  · by_cases c : i = 0
    · rw [c, hA] at z
      exact n z
    · have y := f.1 i (by omega) hi
      rw [← z, g] at y
      cases y
theorem Fr.nn {h h2 : Hp} {A : Nat → Nat} {k l : Nat} {e : va_E} (f : Fr (hu h l e) h2 A k) (hA : A 0 = l) (hl : h l = none) : ∀ i, i < k → h (A i) = none := fun i hi => by
  by_cases c : i = 0
  · rw [c, hA]
    exact hl
  · exact (hu_fresh (f.1 i (by omega) hi)).2
theorem HouseAt.keep {X : Cx} {h h2 : Hp} {C : Nat → Nat} {r : Nat → Int32} (k : HouseAt X h C r) (f : ∀ q w, h q = some w → h2 q = some w) : HouseAt X h2 C r := k.kept (fun i hi => by
  obtain ⟨e, he, -⟩ := k.cell hi
  rw [f _ _ he, he])
theorem StatAt.keep {X : Cx} {h h2 : Hp} (k : StatAt X h) (f : ∀ q w, h q = some w → h2 q = some w) : StatAt X h2 := ⟨f _ _ k.1, f _ _ k.2.1, f _ _ k.2.2⟩
theorem LotAt.keep {X : Cx} {h h2 : Hp} {a b c : Nat} {x : Nat → Int32} (k : LotAt X h a b c x) (f : ∀ q w, h q = some w → h2 q = some w) : LotAt X h2 a b c x := ⟨f _ _ k.1, f _ _ k.2.1, f _ _ k.2.2⟩
theorem HouseAt.nn {X : Cx} {h : Hp} {C : Nat → Nat} {r : Nat → Int32} {q : Nat} (k : HouseAt X h C r) (hq : h q = none) : outA C q := fun i hi z => by
  obtain ⟨e, he, -⟩ := k.cell hi
  rw [← z, hq] at he
  cases he
def HsP (X : Cx) (h h1 : Hp) (b n : Nat) (C : Nat → Nat → Nat) : Prop := (∀ k, k < n → HouseAt X h1 (C k) row0) ∧ (∀ k, k < n → InjA (C k)) ∧ (∀ k i, k < n → i < 194 → h (C k i) = none ∧ C k i ≠ b) ∧ ∀ j k, j < n → k < n → j ≠ k → Dj (C j) (C k)
def uC (C : Nat → Nat → Nat) (i : Nat) (A : Nat → Nat) : Nat → Nat → Nat := fun k => if k = i then A else C k
theorem uC_s {C : Nat → Nat → Nat} {i : Nat} {A : Nat → Nat} : uC C i A i = A := if_pos rfl
theorem uC_n {C : Nat → Nat → Nat} {i k : Nat} {A : Nat → Nat} (h : k ≠ i) : uC C i A k = C k := if_neg h
theorem HsP.add {X : Cx} {h h1 h2 : Hp} {b n a l : Nat} {C : Nat → Nat → Nat} {A : Nat → Nat} {e eb : va_E} (k : HsP X h h1 b n C) (kp : Kp h h1 a) (hb : h1 b = some eb) (hal : h1 a ≠ none) (f : Fr (hu h1 l e) h2 A 194) (hA : A 0 = l) (hl : h1 l = none) (B : HB X h2 A l 6 20 60) : HsP X h h2 b (n + 1) (uC C n A) := by
  obtain ⟨k1, k2, k3, k4⟩ := k
  have fn := f.nn hA hl
  have fk := f.keep hA hl
  have dj : ∀ k, k < n → Dj (C k) A := fun k hk i j hi hj z => (k1 k hk).nn (fn j hj) i hi z.symm
  refine ⟨fun k hk => ?_, fun k hk => ?_, fun k i hk hi => ?_, fun j k hj hk hn => ?_⟩
  · by_cases c : k = n
    · rw [c, uC_s]
      exact B.house hA
    · rw [uC_n c]
      exact (k1 k (by omega)).keep fk
  · by_cases c : k = n
    · rw [c, uC_s]
      exact f.2.1
    · rw [uC_n c]
      exact k2 k (by omega)
  · by_cases c : k = n
    · rw [c, uC_s]
      refine ⟨kp.none (fun z => hal (by rw [← z]; exact fn i hi)) (fn i hi), no_ne (fn i hi) hb⟩
    · rw [uC_n c]
      exact k3 k i (by omega) hi
  · by_cases c : j = n
    · by_cases d : k = n
      · omega
      · rw [c, uC_s, uC_n d]
        exact fun p q hp hq z => dj k (by omega) q p hq hp z.symm
    · by_cases d : k = n
      · rw [d, uC_s, uC_n c]
        exact dj j (by omega)
      · rw [uC_n c, uC_n d]
        exact k4 j k (by omega) (by omega) hn
theorem HsP.put {X : Cx} {h h1 : Hp} {b n : Nat} {C : Nat → Nat → Nat} {e : va_E} (k : HsP X h h1 b n C) : HsP X h (hu h1 b e) b n C := ⟨fun j hj => (k.1 j hj).kept (fun i hi => hu_ne (k.2.2.1 j i hj hi).2), k.2.1, k.2.2.1, k.2.2.2⟩
def hrefs (C : Nat → Nat → Nat) (n : Nat) : Nat → Option Nat := fun k => if k < n then some (C k 0) else none
theorem hrefs_up {C : Nat → Nat → Nat} {i b : Nat} {A : Nat → Nat} (e : A 0 = b) : va_up (hrefs C i) i (some b) = hrefs (uC C i A) (i + 1) := by
  funext j
  unfold va_up
  by_cases z : j = i
  · subst z
    rw [if_pos rfl]
    show _ = if _ then _ else _
    rw [if_pos (by omega), uC_s, e]
  · rw [if_neg z]
    show (if _ then _ else _) = if _ then _ else _
    by_cases y : j < i
    · rw [if_pos y, if_pos (by omega), uC_n z]
    · rw [if_neg y, if_neg (by omega)]

set_option maxHeartbeats 4000000 in
set_option maxRecDepth 100000 in
theorem ct_X0_init (X : Cx) {h : Hp} {a : Nat}  (ha : h a = some (ob 0 [.null, .int 0])) (hs : StatAt X h) : Ct X mX0_init 3 971 4185 [.ref a] h (fun u h1 => u = none ∧ ∃ (b : Nat) (C : Nat → Nat → Nat), h b = none ∧ b ≠ a ∧ HsP X h h1 b 5 C ∧ h1 a = some (ob 0 [.ref b, .int 0]) ∧ h1 b = some (oR X 5 5 (hrefs C 5)) ∧ Kp h h1 a ∧ StatAt X h1) := by
  refine Ct.ofG vX0_init.1.2.2.1 (Nat.le_of_ble_eq_true rfl) ?_
  show G X RX0 cX0_init 2 none "<init>" (Rm 3 971 4185) (Fm X (fun u h1 => u = none ∧ ∃ (b : Nat) (C : Nat → Nat → Nat), h b = none ∧ b ≠ a ∧ HsP X h h1 b 5 C ∧ h1 a = some (ob 0 [.ref b, .int 0]) ∧ h1 b = some (oR X 5 5 (hrefs C 5)) ∧ Kp h h1 a ∧ StatAt X h1) 971 4185) 0 0 0 [(0, .ref a)] [] h
  refine g_aload_n dX0_init_0 (by rfl) (by first | exact isRf_r | exact isRf_n | exact isRf_o | assumption) ?_
  refine g_objInit dX0_init_1 lX0_3 kOI_i kOI_c (by first | exact Nat.le_of_ble_eq_true rfl | (dsimp only [Rm]; omega)) (by first | exact Nat.le_of_ble_eq_true rfl | (dsimp only [Rm]; omega)) ?_
  refine g_aload_n dX0_init_4 (by rfl) (by first | exact isRf_r | exact isRf_n | exact isRf_o | assumption) ?_
  refine g_iconst (v := 5) dX0_init_5 (by decide) ?_
  refine g_newR (N := 5) (t := 5) dX0_init_6 qX0_11 (fun U H k => k.2.2.2.2.2.2.2.1) rfl (by decide) (by decide) (by first | exact Nat.le_of_ble_eq_true rfl | (dsimp only [Rm]; omega)) (by first | exact Nat.le_of_ble_eq_true rfl | (dsimp only [Rm]; omega)) ?_
  intro p hn_p
  have npa := no_ne hn_p ha
  refine g_putF (ty := (.array (.object "DarkVats$House"))) dX0_init_9 fX0_13 (by decide +kernel) (by rfl) (by rfl) rfl (by intro q hq; cases hq; rfl) (by first | assumption | (repeat' (first | assumption | exact hu_same | exact Ne.symm (by assumption) | apply hu_n1))) (by exact Nat.le_of_ble_eq_true rfl) ?_
  refine g_iconst (v := 0) dX0_init_12 (by decide) ?_
  refine g_istore_n (L1 := [(0, _), (1, _)]) dX0_init_13 (by decide) (by rfl) ?_
  have loop14 : ∀ i, i ≤ 5 → ∀ (h1 : Hp) (C : Nat → Nat → Nat), HsP X h h1 p i C → h1 a = some (ob 0 [.ref p, .int 0]) → h1 p = some (oR X 5 5 (hrefs C i)) → Kp h h1 a → StatAt X h1 → G X RX0 cX0_init 2 none "<init>" (Rm 3 971 4185) (Fm X (fun u h1 => u = none ∧ ∃ (b : Nat) (C : Nat → Nat → Nat), h b = none ∧ b ≠ a ∧ HsP X h h1 b 5 C ∧ h1 a = some (ob 0 [.ref b, .int 0]) ∧ h1 b = some (oR X 5 5 (hrefs C 5)) ∧ Kp h h1 a ∧ StatAt X h1) 971 4185) (1 + 194 * i) (5 + 836 * i) 14 [(0, .ref a), (1, .int (nI i))] [] h1 := by
    refine up_ind 5 (fun i hi ih => ?_)
    intro h1 C sH k0 k1 kp sa
    refine g_iload_n dX0_init_14 (by rfl) ?_
    refine g_aload_n dX0_init_15 (by rfl) (by first | exact isRf_r | exact isRf_n | exact isRf_o | assumption) ?_
    refine g_getf dX0_init_16 fX0_13 (by first | assumption | (repeat' (first | assumption | exact hu_same | exact Ne.symm (by assumption) | apply hu_n1))) (by rfl) ?_
    refine g_alenR dX0_init_19 (by first | assumption | (repeat' (first | assumption | exact hu_same | exact Ne.symm (by assumption) | apply hu_n1))) (by decide) ?_
    refine g_icmp_ge (tgt := 42) dX0_init_20 (by decide) (fun c1 => ?_) (fun c1 => ?_)
    · skip
      have hie : i = 5 := Nat.le_antisymm hi (c_ge (a := 5) (by omega) (by omega) c1)
      subst hie
      refine g_vret dX0_init_42 rfl (by first | exact Nat.le_of_ble_eq_true rfl | (dsimp only [Rm]; omega)) (by first | exact Nat.le_of_ble_eq_true rfl | (dsimp only [Rm]; omega)) ?_
      exact ⟨rfl, p, C, hn_p, npa, sH, k0, k1, kp, sa⟩
    · skip
      have hlt : i < 5 := c_nge (a := 5) (b := i) (by omega) (by omega) c1
      refine g_aload_n dX0_init_23 (by rfl) (by first | exact isRf_r | exact isRf_n | exact isRf_o | assumption) ?_
      refine g_getf dX0_init_24 fX0_13 (by first | assumption | (repeat' (first | assumption | exact hu_same | exact Ne.symm (by assumption) | apply hu_n1))) (by rfl) ?_
      refine g_iload_n dX0_init_27 (by rfl) ?_
      refine g_new (ci := 1) (fs := [.null, .null, .null, .int 0, .int 0, .int 0, .int 0, .null, .null, .null]) dX0_init_28 rfl qX0_11 kX1_w kX1_n tyX1_ok (by intro j hj; revert j; decide) (by first | exact Nat.le_of_ble_eq_true rfl | (dsimp only [Rm]; omega)) (by first | exact Nat.le_of_ble_eq_true rfl | (dsimp only [Rm]; omega)) ?_
      intro l hn_l
      have nla := no_ne hn_l k0
      have nlp := no_ne hn_l k1
      refine g_dup dX0_init_31 (by rfl) ?_
      refine g_cI0 dX0_init_32 lX0_17 vX1_init (ct_X1_init X hu_same (sa.hu0 hn_l)) ⟨by first | exact Nat.le_of_ble_eq_true rfl | (dsimp only [Rm]; omega), by first | exact Nat.le_of_ble_eq_true rfl | (dsimp only [Rm]; omega)⟩ (by first | exact Nat.le_of_ble_eq_true rfl | (dsimp only [Rm]; omega)) ⟨by first | exact Nat.le_of_ble_eq_true rfl | (dsimp only [Rm]; omega), by first | exact Nat.le_of_ble_eq_true rfl | (dsimp only [Rm]; omega)⟩ ?_
      rintro _ h2 ⟨rfl, A, hA0, F, B⟩
      have fk := F.keep hA0 hn_l
      have e0 := fk _ _ k0
      have e1 := fk _ _ k1
      have eL := B.1
      have S2 := sH.add kp k1 (by rw [k0]; exact fun z => nomatch z) F hA0 hn_l B
      refine g_asN dX0_init_35 (by first | assumption | (repeat' (first | assumption | exact hu_same | exact Ne.symm (by assumption) | apply hu_n1))) rfl (by first | assumption | (repeat' (first | assumption | exact hu_same | exact Ne.symm (by assumption) | apply hu_n1))) rfl (by omega) (by omega) ?_
      refine g_iinc (v := nI (i + 1)) (L1 := [(0, _), (1, _)]) dX0_init_36 (by rfl) (nI_1 i) (by decide) (by rfl) ?_
      refine g_goto (tgt := 14) dX0_init_39 (by decide) ?_
      rw [hrefs_up hA0]
      exact ih (by omega) _ (uC C i A) S2.put (hu_n1 (Ne.symm npa) e0) hu_same (fun q w n hq => hu_n1 (fun z => by rw [z, hn_p] at hq; cases hq) (fk _ _ (kp q w n hq))) ((sa.keep fk).hu1 e1 oR_s)
  refine loop14 0 (by omega) _ (fun _ _ => 0) ⟨fun k hk => absurd hk (by omega), fun k hk => absurd hk (by omega), fun k i hk => absurd hk (by omega), fun j k hj => absurd hj (by omega)⟩ hu_same ?_ (fun q w n hq => hu_n1 n (hu_n1 (fun z => by rw [z, hn_p] at hq; cases hq) hq)) ((hs.hu0 hn_p).hu1 (hu_n1 (Ne.symm npa) ha) ob_s)
  rw [show hrefs (fun _ _ => 0) 0 = fun _ => none from funext (fun k => if_neg (by omega))]
  exact hu_n1 npa hu_same
