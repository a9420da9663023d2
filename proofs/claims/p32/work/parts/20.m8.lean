def cl (x : Int32) : Nat := x.toNatClampNeg
theorem cl_nI {j : Nat} (h : j < 2 ^ 31) : cl (nI j) = j := nI_clamp h
def rngB (lo hi x : Int32) : Bool := decide (lo ≤ x) && decide (x ≤ hi)
def okB (n w : Int32) : Bool := decide (0 ≤ w) && decide (w < n)
theorem rngB_t {lo hi x : Int32} (h1 : lo ≤ x) (h2 : x ≤ hi) : rngB lo hi x = true := by simp [rngB, h1, h2]
theorem rngB_f1 {lo hi x : Int32} (h1 : ¬ lo ≤ x) : rngB lo hi x = false := by simp [rngB, h1]
theorem rngB_f2 {lo hi x : Int32} (h2 : ¬ x ≤ hi) : rngB lo hi x = false := by simp [rngB, h2]
theorem rngB_i {lo hi x : Int32} : rngB lo hi x = true ↔ lo ≤ x ∧ x ≤ hi := by simp [rngB]
theorem i_nle {x y : Int32} (h : x < y) : ¬ y ≤ x := by
  simp only [i_lt, i_le] at *
  omega
theorem i_nlt {x y : Int32} (h : ¬ x < y) : y ≤ x := by
  simp only [i_lt, i_le] at *
  omega
theorem i_ngt {x y : Int32} (h : ¬ x ≤ y) : y < x := by
  simp only [i_lt, i_le] at *
  omega
theorem okB_t {n j : Nat} (hj : j < n) (hn : n ≤ 1000) : okB (nI n) (nI j) = true := by
  have h1 : (0 : Int32) ≤ nI j := nI_pos' (by omega)
  have h2 : nI j < nI n := nI_lt hj (by omega)
  simp [okB, h1, h2]
theorem okB_f {n : Nat} {w : Int32} (hn : n ≤ 1000) (hb : ¬ ∃ j, j < n ∧ w = nI j) : okB (nI n) w = false := by
  cases h : okB (nI n) w with
  | false => rfl
  | true =>
    exfalso
    simp only [okB, Bool.and_eq_true, decide_eq_true_eq] at h
    refine hb (fnd (by omega) ?_ ?_)
    · intro z
      simp only [i_lt, i_le] at *
      omega
    · intro z
      simp only [i_lt, i_le] at *
      omega
theorem dye_rng {d : Int32} : decide (0 ≤ d ∧ d < 4) = rngB 0 3 d := by
  unfold rngB
  rw [← Bool.decide_and]
  refine decide_eq_decide.mpr ?_
  have e3 : (3 : Int32).toInt = 3 := by decide
  have e4 : (4 : Int32).toInt = 4 := by decide
  simp only [i_lt, i_le, e3, e4]
  omega
theorem ask_rng {d : Int32} : decide (0 ≤ d ∧ d ≤ 20000) = rngB 0 20000 d := by
  unfold rngB
  rw [← Bool.decide_and]
theorem dye_nI {d : Int32} (h : rngB 0 3 d = true) : ∃ j, j < 4 ∧ d = nI j := by
  have h2 := rngB_i.mp h
  have e3 : (3 : Int32).toInt = 3 := by decide
  have e0 : (0 : Int32).toInt = 0 := by decide
  simp only [i_le, e3, e0] at h2
  exact i_sm (by omega) (by omega) (by omega)
theorem vaR_j {A : Nat → Nat} {j : Nat} (h : j < 6) : vaR A j = some (A (8 + j)) := if_pos h
theorem laR_j {A : Nat → Nat} {j : Nat} (h : j < 20) : laR A j = some (A (14 + 3 * j)) := if_pos h
theorem oaR_j {A : Nat → Nat} {j : Nat} (h : j < 60) : oaR A j = some (A (74 + 2 * j)) := if_pos h
/-- what holds of the rows that come -/
def SOk (r : Nat → Int32) : Prop := ∀ j, j < 7 → leastF j ≤ r j ∧ r j ≤ mostF j
def VOk (y : Nat → Int32) : Prop := (∃ d, d < 4 ∧ y 0 = nI d) ∧ 10 ≤ (y 1).toInt ∧ (y 1).toInt ≤ 1000 ∧ 0 ≤ (y 2).toInt
def LOk (x : Nat → Int32) : Prop := bz (x 0) ∧ 100 ≤ (x 1).toInt ∧ (x 1).toInt ≤ 5000 ∧ (∀ k, 2 ≤ k → k < 10 → 0 ≤ (x k).toInt) ∧ bz (x 10) ∧ bz (x 11) ∧ bz (x 12) ∧ 0 ≤ (x 13).toInt ∧ (x 13).toInt ≤ 60
def gsum (r : Nat → Int32) (d : Nat) : Nat → Int
  | 0 => 0
  | k + 1 => gsum r d k + (if vt r k 0 = nI d then (vt r k 2).toInt else 0)
def WOk (r : Nat → Int32) (d : Nat) : Prop := 0 ≤ (r (11 + d)).toInt ∧ (r (11 + d)).toInt ≤ 1000000 ∧ ∀ l, l < 20 → (ltx r l (2 + d)).toInt + (ltx r l (6 + d)).toInt + gsum r d 6 ≤ (r (11 + d)).toInt
def Ok (r : Nat → Int32) : Prop := ∃ nv nl no : Nat, nv ≤ 6 ∧ nl ≤ 20 ∧ no ≤ 60 ∧ r 7 = nI nv ∧ r 8 = nI nl ∧ r 9 = nI no ∧ SOk r ∧ (∀ v, v < nv → VOk (vt r v)) ∧ (∀ v, nv ≤ v → v < 6 → ∀ k, k < 4 → vt r v k = 0) ∧ (∀ l, l < nl → LOk (ltx r l)) ∧ (∀ l, nl ≤ l → l < 20 → ∀ k, k < 15 → ltx r l k = 0) ∧ (∀ o, o < no → bz (od r o 4)) ∧ (∀ o, no ≤ o → o < 60 → ∀ k, k < 5 → od r o k = 0) ∧ ∀ d, d < 4 → WOk r d
theorem Ok.rb {r : Nat → Int32} (k : Ok r) : Rb r := by
  obtain ⟨nv, nl, no, hnv, hnl, hno, e7, e8, e9, hset, hvok, hvz, hlok, hlz, hok, hoz, hw⟩ := k
  refine ⟨fun l hl => ?_, fun o ho => ?_⟩
  · rcases Nat.lt_or_ge l nl with z | z
    · obtain ⟨-, -, -, -, b1, b2, b3, -⟩ := hlok l z
      exact ⟨b1, b2, b3⟩
    · exact ⟨Or.inl (hlz l z hl 10 (by omega)), Or.inl (hlz l z hl 11 (by omega)), Or.inl (hlz l z hl 12 (by omega))⟩
  · rcases Nat.lt_or_ge o no with z | z
    · exact hok o z
    · exact Or.inl (hoz o z ho 4 (by omega))
theorem SOk.bath {r : Nat → Int32} (k : SOk r) : 0 < (r 0).toInt ∧ (r 0).toInt ≤ 100 := by
  obtain ⟨h1, h2⟩ := k 0 (by omega)
  have e1 : (leastF 0).toInt = 1 := by decide
  have e2 : (mostF 0).toInt = 100 := by decide
  simp only [i_le, e1, e2] at h1 h2
  omega
theorem dok_of {r x y : Nat → Int32} (hs : SOk r) (hv : VOk y) (hl : LOk x) : Dok (r 0) (y 1) x := by
  obtain ⟨-, v1, v2, -⟩ := hv
  obtain ⟨l0, l1, l2, -⟩ := hl
  have b := hs.bath
  exact ⟨l0, by omega, l2, b.1, b.2, by omega, v2⟩
/-- updates of one cell of a house -/
theorem HouseAt.wei {X : Cx} {h : Hp} {A : Nat → Nat} {r : Nat → Int32} {d : Nat} {x : Int32} (hI : InjA A) (k : HouseAt X h A r) (hd : d < 4) : HouseAt X (hu h (A 4) (oI X 4 (upd (nr 4 (fun d => r (11 + d))) d x))) A (upd r (11 + d) x) := by
  obtain ⟨k0, k1, k2, k3, k4, k5, k6, -⟩ := id k
  refine HouseAt.own hI k ?_ ?_ ?_ ?_ (fun q n0 n4 n5 n7 => hu_ne n4) (fun p hp h19 => (upd_n (by omega)).symm)
  · rw [hu_ne (hI.ne (by omega) (by omega) (by omega)), k0]
    unfold hobC
    rw [upd_n (by omega), upd_n (by omega), upd_n (by omega), upd_n (by omega)]
  · rw [hu_same, nr_up hd]
    congr 2
    refine nr_ext (fun j hj => ?_)
    by_cases e : j = d
    · subst e; rw [upd_s, upd_s]
    · rw [upd_n e, upd_n (by omega)]
  · rw [hu_ne (hI.ne (by omega) (by omega) (by omega)), k5]
    congr 2
    exact nr_ext (fun j hj => (upd_n (by omega)).symm)
  · rw [hu_ne (hI.ne (by omega) (by omega) (by omega)), k6.2]
    congr 2
    exact nr_ext (fun j hj => (upd_n (by omega)).symm)
theorem HouseAt.was {X : Cx} {h : Hp} {A : Nat → Nat} {r : Nat → Int32} {d : Nat} {x : Int32} (hI : InjA A) (k : HouseAt X h A r) (hd : d < 4) : HouseAt X (hu h (A 5) (oI X 4 (upd (nr 4 (fun d => r (15 + d))) d x))) A (upd r (15 + d) x) := by
  obtain ⟨k0, k1, k2, k3, k4, k5, k6, -⟩ := id k
  refine HouseAt.own hI k ?_ ?_ ?_ ?_ (fun q n0 n4 n5 n7 => hu_ne n5) (fun p hp h19 => (upd_n (by omega)).symm)
  · rw [hu_ne (hI.ne (by omega) (by omega) (by omega)), k0]
    unfold hobC
    rw [upd_n (by omega), upd_n (by omega), upd_n (by omega), upd_n (by omega)]
  · rw [hu_ne (hI.ne (by omega) (by omega) (by omega)), k4]
    congr 2
    exact nr_ext (fun j hj => (upd_n (by omega)).symm)
  · rw [hu_same, nr_up hd]
    congr 2
    refine nr_ext (fun j hj => ?_)
    by_cases e : j = d
    · subst e; rw [upd_s, upd_s]
    · rw [upd_n e, upd_n (by omega)]
  · rw [hu_ne (hI.ne (by omega) (by omega) (by omega)), k6.2]
    congr 2
    exact nr_ext (fun j hj => (upd_n (by omega)).symm)
theorem HouseAt.stg {X : Cx} {h : Hp} {A : Nat → Nat} {r : Nat → Int32} {j : Nat} {x : Int32} (hI : InjA A) (k : HouseAt X h A r) (hj : j < 7) : HouseAt X (hu h (A 7) (oI X 7 (nr 7 (upd r j x)))) A (upd r j x) := by
  obtain ⟨k0, k1, k2, k3, k4, k5, k6, -⟩ := id k
  refine HouseAt.own hI k ?_ ?_ ?_ hu_same (fun q n0 n4 n5 n7 => hu_ne n7) (fun p hp h19 => (upd_n (by omega)).symm)
  · rw [hu_ne (hI.ne (by omega) (by omega) (by omega)), k0]
    unfold hobC
    rw [upd_n (by omega), upd_n (by omega), upd_n (by omega), upd_n (by omega)]
  · rw [hu_ne (hI.ne (by omega) (by omega) (by omega)), k4]
    congr 2
    exact nr_ext (fun j hj => (upd_n (by omega)).symm)
  · rw [hu_ne (hI.ne (by omega) (by omega) (by omega)), k5]
    congr 2
    exact nr_ext (fun j hj => (upd_n (by omega)).symm)
theorem HouseAt.fld {X : Cx} {h : Hp} {A : Nat → Nat} {r r2 : Nat → Int32} {e : va_E} (hI : InjA A) (k : HouseAt X h A r) (he : e = ob 1 (hobC A r2)) (e2 : ∀ p, p ≠ 7 → p ≠ 8 → p ≠ 9 → p ≠ 10 → r2 p = r p) : HouseAt X (hu h (A 0) e) A r2 := by
  obtain ⟨k0, k1, k2, k3, k4, k5, k6, -⟩ := id k
  subst he
  refine HouseAt.own hI k hu_same ?_ ?_ ?_ (fun q n0 n4 n5 n7 => hu_ne n0) (fun p hp h19 => (e2 p (by omega) (by omega) (by omega) (by omega)).symm)
  · rw [hu_ne (hI.ne (by omega) (by omega) (by omega)), k4]
    congr 2
    exact nr_ext (fun j hj => (e2 _ (by omega) (by omega) (by omega) (by omega)).symm)
  · rw [hu_ne (hI.ne (by omega) (by omega) (by omega)), k5]
    congr 2
    exact nr_ext (fun j hj => (e2 _ (by omega) (by omega) (by omega) (by omega)).symm)
  · rw [hu_ne (hI.ne (by omega) (by omega) (by omega)), k6.2]
    congr 2
    exact nr_ext (fun j hj => (e2 _ (by omega) (by omega) (by omega) (by omega)).symm)
theorem HouseAt.vatU {X : Cx} {h : Hp} {A : Nat → Nat} {r r2 : Nat → Int32} {v : Nat} {y0 y1 y2 y3 : Int32} (hI : InjA A) (k : HouseAt X h A r) (hv : v < 6) (d0 : y0 = r2 (19 + 4 * v + 0)) (d1 : y1 = r2 (19 + 4 * v + 1)) (d2 : y2 = r2 (19 + 4 * v + 2)) (d3 : y3 = r2 (19 + 4 * v + 3)) (e2 : ∀ p, p < 643 → (p < 19 + 4 * v ∨ 23 + 4 * v ≤ p) → r p = r2 p) : HouseAt X (hu h (A (8 + v)) (ob 8 [.int y0, .int y1, .int y2, .int y3])) A r2 := by
  subst d0; subst d1; subst d2; subst d3
  exact HouseAt.vat (y := vt r2 v) hI k hv hu_same (fun q n => hu_ne n) (fun j hj => rfl) e2
theorem HouseAt.lotU {X : Cx} {h : Hp} {A : Nat → Nat} {r r2 : Nat → Int32} {l : Nat} {e : va_E} (hI : InjA A) (k : HouseAt X h A r) (hl : l < 20) (he : e = lotC (A (15 + 3 * l)) (A (16 + 3 * l)) (ltx r2 l)) (e1 : ∀ j, 2 ≤ j → j < 10 → r (43 + 15 * l + j) = r2 (43 + 15 * l + j)) (e2 : ∀ p, p < 643 → (p < 43 + 15 * l ∨ 58 + 15 * l ≤ p) → r p = r2 p) : HouseAt X (hu h (A (14 + 3 * l)) e) A r2 := by
  subst he
  obtain ⟨-, -, -, -, -, -, -, -, kl, -⟩ := id k
  obtain ⟨l1, l2, l3⟩ := kl l hl
  refine HouseAt.lot (x := ltx r2 l) hI k hl ⟨hu_same, ?_, ?_⟩ (fun q n1 n2 n3 => hu_ne n1) (fun j hj => rfl) e2
  · rw [hu_ne (hI.ne (by omega) (by omega) (by omega)), l2]
    unfold fixA
    congr 2
    exact nr_ext (fun j hj => e1 (2 + j) (by omega) (by omega))
  · rw [hu_ne (hI.ne (by omega) (by omega) (by omega)), l3]
    unfold looA
    congr 2
    exact nr_ext (fun j hj => e1 (6 + j) (by omega) (by omega))
/-- what a call does to a row, and its answer -/
def sold (r : Nat → Int32) (l : Nat) : Bool := decide (¬ ltx r l 13 = 0)
def hangs (r : Nat → Int32) (l : Nat) : Bool := decide (¬ ltx r l 10 = 0)
def F_vat (r : Nat → Int32) (d li : Int32) : Int32 × (Nat → Int32) :=
  cond (rngB 0 3 d && rngB 10 1000 li) (cond (decide (r 7 < 6)) (r 7, upd (upd (upd r (19 + 4 * cl (r 7) + 0) d) (19 + 4 * cl (r 7) + 1) li) 7 (r 7 + 1)) (-3, r)) (-1, r)
def F_weigh (r : Nat → Int32) (w g : Int32) : Int32 × (Nat → Int32) :=
  cond (okB (r 7) w && rngB 1 100000 g) (cond (decide (r (11 + cl (vt r (cl w) 0)) + g ≤ 1000000)) (vt r (cl w) 2 + g, upd (upd r (11 + cl (vt r (cl w) 0)) (r (11 + cl (vt r (cl w) 0)) + g)) (19 + 4 * cl w + 2) (vt r (cl w) 2 + g)) (-3, r)) (-1, r)
def F_drain (r : Nat → Int32) (w : Int32) : Int32 × (Nat → Int32) :=
  cond (okB (r 7) w) (vt r (cl w) 2, upd (upd (upd r (15 + cl (vt r (cl w) 0)) (r (15 + cl (vt r (cl w) 0)) + vt r (cl w) 2)) (19 + 4 * cl w + 2) 0) (19 + 4 * cl w + 3) 0) (-1, r)
theorem fin_err {X : Cx} {h : Hp} {A : Nat → Nat} {r : Nat → Int32} {F : Int32 × (Nat → Int32)} {x : Int32} (hA : HouseAt X h A r) (e : F = (x, r)) : some (Value.int x) = some (.int F.1) ∧ HouseAt X h A F.2 ∧ ∀ q, outA A q → h q = h q := by
  rw [e]
  exact ⟨rfl, hA, fun q _ => rfl⟩
theorem fin_ok {X : Cx} {h h1 : Hp} {A : Nat → Nat} {r2 : Nat → Int32} {F : Int32 × (Nat → Int32)} {x : Int32} (e : F = (x, r2)) (k : HouseAt X h1 A r2) (f : ∀ q, outA A q → h1 q = h q) : some (Value.int x) = some (.int F.1) ∧ HouseAt X h1 A F.2 ∧ ∀ q, outA A q → h1 q = h q := by
  rw [e]
  exact ⟨rfl, k, f⟩
def F_lot (r : Nat → Int32) (c w : Int32) : Int32 × (Nat → Int32) :=
  cond (rngB 0 1 c && rngB 100 5000 w) (cond (decide (r 8 < 20)) (r 8, upd (upd (upd r (43 + 15 * cl (r 8) + 0) c) (43 + 15 * cl (r 8) + 1) w) 8 (r 8 + 1)) (-3, r)) (-1, r)

set_option maxHeartbeats 4000000 in
set_option maxRecDepth 100000 in
theorem ct_X1_weighInto (X : Cx) {h : Hp} {A : Nat → Nat} {r : Nat → Int32} {w g : Int32}  (hI : InjA A) (hO : Ok r) (hA : HouseAt X h A r) : Ct X mX1_weighInto 1 0 0 [.ref (A 0), .int w, .int g] h (fun u h1 => u = some (.int (F_weigh r w g).1) ∧ HouseAt X h1 A (F_weigh r w g).2 ∧ ∀ q, outA A q → h1 q = h q) := by
  have hO0 := hO
  obtain ⟨nv, nl, no, hnv, hnl, hno, e7, e8, e9, hset, hvok, hvz, hlok, hlz, hok, hoz, hw⟩ := hO0
  have hA0 := hA
  obtain ⟨a0, a1, a2, a3, a4, a5, a6, av, al, ao⟩ := hA0
  unfold hobC at a0
  rw [e7, e8, e9] at a0
  refine Ct.ofG vX1_weighInto.1.2.2.1 (Nat.le_of_ble_eq_true rfl) ?_
  show G X RX1 cX1_weighInto 4 (some .int) "weighInto" (Rm 1 0 0) (Fm X (fun u h1 => u = some (.int (F_weigh r w g).1) ∧ HouseAt X h1 A (F_weigh r w g).2 ∧ ∀ q, outA A q → h1 q = h q) 0 0) 0 0 0 [(0, .ref (A 0)), (1, .int w), (2, .int g)] [] h
  refine g_aload_n dX1_weighInto_0 (by rfl) (by first | exact isRf_r | exact isRf_n | exact isRf_o | assumption) ?_
  refine g_iload_n dX1_weighInto_1 (by rfl) ?_
  by_cases hvj : ∃ j, j < nv ∧ w = nI j
  · skip
    obtain ⟨j, hj, rfl⟩ := hvj
    obtain ⟨⟨d, hd, ed⟩, hli1, hli2, hgr⟩ := hvok j hj
    have avj := av j (by omega)
    unfold VatAt at avj
    rw [ed] at avj
    have nv4 : A (8 + j) ≠ A 4 := hI.ne (by omega) (by omega) (by omega)
    have nv5 : A (8 + j) ≠ A 5 := hI.ne (by omega) (by omega) (by omega)
    refine g_cV1x dX1_weighInto_2 lX1_92 vX1_findVat (ct_findVat X (by omega) a0 a1 hj (vaR_j (by omega))) (by first | assumption | (repeat' (first | assumption | exact hu_same | exact Ne.symm (by assumption) | apply hu_n1))) rfl ⟨Nat.le_of_ble_eq_true rfl, Nat.le_of_ble_eq_true rfl⟩ (Nat.le_of_ble_eq_true rfl) ⟨Nat.le_of_ble_eq_true rfl, Nat.le_of_ble_eq_true rfl⟩ ?_
    refine g_astore_n (L1 := [(0, _), (1, _), (2, _), (3, _)]) dX1_weighInto_5 (by first | exact isRf_r | exact isRf_n | exact isRf_o | assumption) (by decide) (by rfl) ?_
    refine g_aload_n dX1_weighInto_6 (by rfl) (by first | exact isRf_r | exact isRf_n | exact isRf_o | assumption) ?_
    refine g_ifnull (tgt := 21) dX1_weighInto_7 (by decide) (by first | exact isRf_r | exact isRf_n | exact isRf_o | assumption) (fun c1 => nomatch c1) (fun c1 => ?_)
    refine g_iload_n dX1_weighInto_10 (by rfl) ?_
    refine g_iconst (v := 1) dX1_weighInto_11 (by decide) ?_
    refine g_icmp_lt (tgt := 21) dX1_weighInto_12 (by decide) (fun c2 => ?_) (fun c2 => ?_)
    · skip
      refine g_iconst (v := (-1)) dX1_weighInto_21 (by decide) ?_
      refine g_iret dX1_weighInto_22 rfl (Nat.le_refl _) (Nat.le_refl _) ?_
      refine fin_err hA ?_
      unfold F_weigh
      first
        | (rw [e7, okB_f (by omega) hvj]; rfl)
        | (rw [rngB_f1 (i_nle (by assumption)), Bool.and_false]; rfl)
        | (rw [rngB_f2 (by assumption), Bool.and_false]; rfl)
    · skip
      refine g_iload_n dX1_weighInto_15 (by rfl) ?_
      refine g_ldc dX1_weighInto_16 cX1_102 ?_
      refine g_icmp_le (tgt := 23) dX1_weighInto_18 (by decide) (fun c3 => ?_) (fun c3 => ?_)
      · skip
        refine g_aload_n dX1_weighInto_23 (by rfl) (by first | exact isRf_r | exact isRf_n | exact isRf_o | assumption) ?_
        refine g_getf dX1_weighInto_24 fX1_29 (by first | assumption | (repeat' (first | assumption | exact hu_same | exact Ne.symm (by assumption) | apply hu_n1))) (by rfl) ?_
        refine g_aload_n dX1_weighInto_27 (by rfl) (by first | exact isRf_r | exact isRf_n | exact isRf_o | assumption) ?_
        refine g_getf dX1_weighInto_28 fX1_96 (by first | assumption | (repeat' (first | assumption | exact hu_same | exact Ne.symm (by assumption) | apply hu_n1))) (by rfl) ?_
        refine g_cN2x dX1_weighInto_31 lX1_103 vX9_cellAt (ct_X9_cellAtI X hd (by omega) a4) ⟨Nat.le_of_ble_eq_true rfl, Nat.le_of_ble_eq_true rfl⟩ (Nat.le_of_ble_eq_true rfl) ⟨Nat.le_of_ble_eq_true rfl, Nat.le_of_ble_eq_true rfl⟩ ?_
        rw [nr_lt hd]
        refine g_iload_n dX1_weighInto_34 (by rfl) ?_
        refine g_iadd dX1_weighInto_35 ?_
        refine g_ldc dX1_weighInto_36 cX1_107 ?_
        refine g_icmp_le (tgt := 44) dX1_weighInto_38 (by decide) (fun c4 => ?_) (fun c4 => ?_)
        · skip
          refine g_aload_n dX1_weighInto_44 (by rfl) (by first | exact isRf_r | exact isRf_n | exact isRf_o | assumption) ?_
          refine g_getf dX1_weighInto_45 fX1_29 (by first | assumption | (repeat' (first | assumption | exact hu_same | exact Ne.symm (by assumption) | apply hu_n1))) (by rfl) ?_
          refine g_aload_n dX1_weighInto_48 (by rfl) (by first | exact isRf_r | exact isRf_n | exact isRf_o | assumption) ?_
          refine g_getf dX1_weighInto_49 fX1_96 (by first | assumption | (repeat' (first | assumption | exact hu_same | exact Ne.symm (by assumption) | apply hu_n1))) (by rfl) ?_
          refine g_iload_n dX1_weighInto_52 (by rfl) ?_
          refine g_cN3v dX1_weighInto_53 lX1_108 vX9_addTo (ct_X9_addTo X hd (by omega) a4) ⟨Nat.le_of_ble_eq_true rfl, Nat.le_of_ble_eq_true rfl⟩ (Nat.le_of_ble_eq_true rfl) ⟨Nat.le_of_ble_eq_true rfl, Nat.le_of_ble_eq_true rfl⟩ ?_
          refine g_aload_n dX1_weighInto_56 (by rfl) (by first | exact isRf_r | exact isRf_n | exact isRf_o | assumption) ?_
          refine g_dup dX1_weighInto_57 (by rfl) ?_
          refine g_getf dX1_weighInto_58 fX1_112 (by first | assumption | (repeat' (first | assumption | exact hu_same | exact Ne.symm (by assumption) | apply hu_n1))) (by rfl) ?_
          refine g_iload_n dX1_weighInto_61 (by rfl) ?_
          refine g_iadd dX1_weighInto_62 ?_
          refine g_putf (ty := .int) dX1_weighInto_63 fX1_112 (by decide +kernel) (by rfl) (by rfl) (by first | assumption | (repeat' (first | assumption | exact hu_same | exact Ne.symm (by assumption) | apply hu_n1))) (by exact Nat.le_of_ble_eq_true rfl) ?_
          refine g_aload_n dX1_weighInto_66 (by rfl) (by first | exact isRf_r | exact isRf_n | exact isRf_o | assumption) ?_
          refine g_getf dX1_weighInto_67 fX1_112 (by first | assumption | (repeat' (first | assumption | exact hu_same | exact Ne.symm (by assumption) | apply hu_n1))) (by rfl) ?_
          refine g_iret dX1_weighInto_70 rfl (Nat.le_refl _) (Nat.le_refl _) ?_
          refine fin_ok (x := vt r j 2 + g) (r2 := upd (upd r (11 + d) (r (11 + d) + g)) (19 + 4 * j + 2) (vt r j 2 + g)) ?_ ?_ ?_
          · unfold F_weigh
            rw [e7, okB_t hj (by omega), cl_nI (by omega), ed, cl_nI (by omega), rngB_t (i_nlt (by assumption)) (by assumption), decide_eq_true (by assumption)]
            rfl
          · rw [nr_lt hd]
            exact HouseAt.vatU hI (HouseAt.wei hI hA hd) (by omega) (by rw [upd_n (by omega), upd_n (by omega), ← ed]; rfl) (by rw [upd_n (by omega), upd_n (by omega)]; rfl) (by rw [upd_s]) (by rw [upd_n (by omega), upd_n (by omega)]; rfl) (fun p hp h2 => (upd_n (by omega)).symm)
          · intro q hq
            rw [hu_ne (hq _ (by omega)), hu_ne (hq _ (by omega))]
        · skip
          refine g_bipush (v := (-3)) dX1_weighInto_41 (by decide) ?_
          refine g_iret dX1_weighInto_43 rfl (Nat.le_refl _) (Nat.le_refl _) ?_
          refine fin_err hA ?_
          unfold F_weigh
          rw [e7, okB_t hj (by omega), cl_nI (by omega), ed, cl_nI (by omega), rngB_t (i_nlt (by assumption)) (by assumption), decide_eq_false (by assumption)]
          rfl
      · skip
        refine g_iconst (v := (-1)) dX1_weighInto_21 (by decide) ?_
        refine g_iret dX1_weighInto_22 rfl (Nat.le_refl _) (Nat.le_refl _) ?_
        refine fin_err hA ?_
        unfold F_weigh
        first
          | (rw [e7, okB_f (by omega) hvj]; rfl)
          | (rw [rngB_f1 (i_nle (by assumption)), Bool.and_false]; rfl)
          | (rw [rngB_f2 (by assumption), Bool.and_false]; rfl)
  · skip
    refine g_cV1x dX1_weighInto_2 lX1_92 vX1_findVat (ct_findVatN X (by omega) a0 a1 hvj) (by first | assumption | (repeat' (first | assumption | exact hu_same | exact Ne.symm (by assumption) | apply hu_n1))) rfl ⟨Nat.le_of_ble_eq_true rfl, Nat.le_of_ble_eq_true rfl⟩ (Nat.le_of_ble_eq_true rfl) ⟨Nat.le_of_ble_eq_true rfl, Nat.le_of_ble_eq_true rfl⟩ ?_
    refine g_astore_n (L1 := [(0, _), (1, _), (2, _), (3, _)]) dX1_weighInto_5 (by first | exact isRf_r | exact isRf_n | exact isRf_o | assumption) (by decide) (by rfl) ?_
    refine g_aload_n dX1_weighInto_6 (by rfl) (by first | exact isRf_r | exact isRf_n | exact isRf_o | assumption) ?_
    refine g_ifnull (tgt := 21) dX1_weighInto_7 (by decide) (by first | exact isRf_r | exact isRf_n | exact isRf_o | assumption) (fun c5 => ?_) (fun c5 => absurd rfl c5)
    refine g_iconst (v := (-1)) dX1_weighInto_21 (by decide) ?_
    refine g_iret dX1_weighInto_22 rfl (Nat.le_refl _) (Nat.le_refl _) ?_
    refine fin_err hA ?_
    unfold F_weigh
    first
      | (rw [e7, okB_f (by omega) hvj]; rfl)
      | (rw [rngB_f1 (i_nle (by assumption)), Bool.and_false]; rfl)
      | (rw [rngB_f2 (by assumption), Bool.and_false]; rfl)
