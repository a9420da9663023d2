def soakG (x r : Nat → Int32) (d : Nat) (t : Int32) : Nat → Int32 := upd (upd (upd x (6 + d) (x (6 + d) + t * r 5 / 100)) (2 + d) (x (2 + d) + (t - t * r 5 / 100))) 14 (x 14 + 1)
def spoP (x y r : Nat → Int32) (d : Nat) (t : Int32) : Prop := x 12 = 0 ∧ (r 2 < y 3 ∨ r 3 < depC (soakG x r d t))
def soakS (x y r : Nat → Int32) (d : Nat) (t : Int32) (s : Int32) : Prop := (spoP x y r d t ∧ s = 1) ∨ (¬ spoP x y r d t ∧ s = x 11)
def savP (x r : Nat → Int32) (d : Nat) (t : Int32) (s : Int32) : Prop := ¬ s = 0 ∧ d = 3 ∧ r 6 ≤ shF (soakG x r d t) 3
/-- the lot behind the dip -/
def soakX (x y r : Nat → Int32) (d : Nat) (t : Int32) (x2 : Nat → Int32) : Prop := ∃ s, soakS x y r d t s ∧ ((savP x r d t s ∧ x2 = upd (upd (soakG x r d t) 11 0) 12 1) ∨ (¬ savP x r d t s ∧ x2 = upd (soakG x r d t) 11 s))
def soakY (x y r : Nat → Int32) (t : Int32) : Nat → Int32 := upd (upd y 2 (y 2 - t)) 3 (y 3 + (x 1 * r 1 + 999) / 1000)
theorem soakG_o {x r : Nat → Int32} {d : Nat} {t : Int32} {j : Nat} (hd : d < 4) (h : j < 2 ∨ 9 < j) (h2 : j ≠ 14) : soakG x r d t j = x j := by
  unfold soakG
  rw [upd_n h2, upd_n (by omega), upd_n (by omega)]
theorem soak_cell {x r : Nat → Int32} {d af al : Nat} {t : Int32} (hd : d < 4) : lotC af al (soakG x r d t) = ob 2 [.int (x 0), .int (x 1), .int (x 10), .int (x 11), .int (x 12), .int (x 13 - 1), .int (x 14 + 1), .ref af, .ref al] := by
  unfold lotC
  rw [soakG_o hd (by omega) (by omega), soakG_o hd (by omega) (by omega), soakG_o hd (by omega) (by omega), soakG_o hd (by omega) (by omega), soakG_o hd (by omega) (by omega), soakG_o hd (by omega) (by omega)]
  have e : soakG x r d t 14 = x 14 + 1 := upd_s
  rw [e]
theorem soak_cell11 {x r : Nat → Int32} {d af al : Nat} {t s : Int32} (hd : d < 4) : lotC af al (upd (soakG x r d t) 11 s) = ob 2 [.int (x 0), .int (x 1), .int (x 10), .int s, .int (x 12), .int (x 13 - 1), .int (x 14 + 1), .ref af, .ref al] := by
  have e : lotC af al (upd (soakG x r d t) 11 s) = ob 2 [.int (soakG x r d t 0), .int (soakG x r d t 1), .int (soakG x r d t 10), .int s, .int (soakG x r d t 12), .int (soakG x r d t 13 - 1), .int (soakG x r d t 14), .ref af, .ref al] := rfl
  have e2 : soakG x r d t 14 = x 14 + 1 := upd_s
  rw [e, soakG_o hd (by omega) (by omega), soakG_o hd (by omega) (by omega), soakG_o hd (by omega) (by omega), soakG_o hd (by omega) (by omega), soakG_o hd (by omega) (by omega), e2]
theorem soak_cell12 {x r : Nat → Int32} {d af al : Nat} {t s u : Int32} (hd : d < 4) : lotC af al (upd (upd (soakG x r d t) 11 s) 12 u) = ob 2 [.int (x 0), .int (x 1), .int (x 10), .int s, .int u, .int (x 13 - 1), .int (x 14 + 1), .ref af, .ref al] := by
  have e : lotC af al (upd (upd (soakG x r d t) 11 s) 12 u) = ob 2 [.int (soakG x r d t 0), .int (soakG x r d t 1), .int (soakG x r d t 10), .int s, .int u, .int (soakG x r d t 13 - 1), .int (soakG x r d t 14), .ref af, .ref al] := rfl
  have e2 : soakG x r d t 14 = x 14 + 1 := upd_s
  rw [e, soakG_o hd (by omega) (by omega), soakG_o hd (by omega) (by omega), soakG_o hd (by omega) (by omega), soakG_o hd (by omega) (by omega), e2]
theorem soak_fix {X : Cx} {x r : Nat → Int32} {d : Nat} {t : Int32} (hd : d < 4) : fixA X (soakG x r d t) = oI X 4 (upd (nr 4 (fun j => x (2 + j))) d (nr 4 (fun j => x (2 + j)) d + (t - t * r 5 / 100))) := by
  unfold fixA
  rw [nr_lt hd, nr_up hd]
  congr 1
  refine nr_ext (fun j hj => ?_)
  unfold soakG
  by_cases e : j = d
  · subst e
    rw [upd_n (by omega), upd_s, upd_s]
  · rw [upd_n (by omega), upd_n (by omega), upd_n (by omega), upd_n e]
theorem soak_loo {X : Cx} {x r : Nat → Int32} {d : Nat} {t : Int32} (hd : d < 4) : looA X (soakG x r d t) = oI X 4 (upd (nr 4 (fun j => x (6 + j))) d (nr 4 (fun j => x (6 + j)) d + t * r 5 / 100)) := by
  unfold looA
  rw [nr_lt hd, nr_up hd]
  congr 1
  refine nr_ext (fun j hj => ?_)
  unfold soakG
  by_cases e : j = d
  · subst e
    rw [upd_n (by omega), upd_n (by omega), upd_s, upd_s]
  · rw [upd_n (by omega), upd_n (by omega), upd_n (by omega), upd_n e]
theorem fix_hi {X : Cx} {g : Nat → Int32} {k : Nat} {s : Int32} (hk : 9 < k) : fixA X (upd g k s) = fixA X g := by
  unfold fixA
  congr 1
  exact nr_ext (fun j hj => upd_n (by omega))
theorem loo_hi {X : Cx} {g : Nat → Int32} {k : Nat} {s : Int32} (hk : 9 < k) : looA X (upd g k s) = looA X g := by
  unfold looA
  congr 1
  exact nr_ext (fun j hj => upd_n (by omega))
theorem dep_hi {g : Nat → Int32} {k : Nat} {s : Int32} (hk : 9 < k) : depC (upd g k s) = depC g := by
  unfold depC
  simp only [sumI]
  repeat rw [upd_n (by omega)]
theorem sh_hi {g : Nat → Int32} {k j : Nat} {s : Int32} (hk : 9 < k) (hj : j < 4) : shF (upd g k s) j = shF g j := by
  unfold shF
  rw [upd_n (by omega), upd_n (by omega), upd_n (by omega)]

set_option maxHeartbeats 4000000 in
set_option maxRecDepth 100000 in
theorem ct_X2_soakIn (X : Cx) {h : Hp} {a af al b s v d : Nat} {t : Int32} {x y r : Nat → Int32}  (ht : takF (r 0) x (y 2) (y 1) = t) (hk : Dok (r 0) (y 1) x) (hd : d < 4) (hy : y 0 = nI d) (hx : LotAt X h a af al x) (hb : VatAt h b y) (hs : SetAt X h s v r) (n1 : af ≠ al) : Ct X mX2_soakIn 2 0 0 [.ref a, .ref b, .ref s] h (fun u h1 => u = some (.int t) ∧ (∃ x2, soakX x y r d t x2 ∧ LotAt X h1 a af al x2) ∧ VatAt h1 b (soakY x y r t) ∧ ∀ q, q ≠ a → q ≠ af → q ≠ al → q ≠ b → h1 q = h q) := by
  have l0 := hx
  obtain ⟨l1, l2, l3⟩ := l0
  unfold lotC at l1
  unfold fixA at l2
  unfold looA at l3
  have hb0 := hb
  unfold VatAt at hb0
  rw [hy] at hb0
  have hs0 := hs
  obtain ⟨s1, s2⟩ := hs0
  have a1 := ne_oo l1 l2
  have a2 := ne_oo l1 l3
  have b1 := ne_oo hb0 l2
  have b2 := ne_oo hb0 l3
  have b3 := ne_ob hb0 l1 (by decide)
  have k1 := ne_ob s1 l1 (by decide)
  have k2 := ne_ob s1 hb0 (by decide)
  have k3 := ne_oo s1 l2
  have k4 := ne_oo s1 l3
  have k5 := ne_oo s1 s2
  have d1 := ne_ii s2 l2 (by decide)
  have d2 := ne_ii s2 l3 (by decide)
  have d3 := (ne_oo l1 s2)
  have d4 := (ne_oo hb0 s2)
  refine Ct.ofG vX2_soakIn.1.2.2.1 (Nat.le_of_ble_eq_true rfl) ?_
  show G X RX2 cX2_soakIn 6 (some .int) "soakIn" (Rm 2 0 0) (Fm X (fun u h1 => u = some (.int t) ∧ (∃ x2, soakX x y r d t x2 ∧ LotAt X h1 a af al x2) ∧ VatAt h1 b (soakY x y r t) ∧ ∀ q, q ≠ a → q ≠ af → q ≠ al → q ≠ b → h1 q = h q) 0 0) 0 0 0 [(0, .ref a), (1, .ref b), (2, .ref s)] [] h
  have J108 : ∀ hh, LotAt X hh a af al (soakG x r d t) → VatAt hh b (soakY x y r t) → SetAt X hh s v r → (∀ q, q ≠ a → q ≠ af → q ≠ al → q ≠ b → hh q = h q) → G X RX2 cX2_soakIn 6 (some .int) "soakIn" (Rm 2 0 0) (Fm X (fun u h1 => u = some (.int t) ∧ (∃ x2, soakX x y r d t x2 ∧ LotAt X h1 a af al x2) ∧ VatAt h1 b (soakY x y r t) ∧ ∀ q, q ≠ a → q ≠ af → q ≠ al → q ≠ b → h1 q = h q) 0 0) 0 0 108 [(0, .ref a), (1, .ref b), (2, .ref s), (3, .int t), (4, .int (t * r 5 / 100)), (5, .int (bI (decide (r 2 < y 3))))] [] hh := by
    intro hh hL hV hS hF
    have hL0 := hL
    obtain ⟨m1, m2, m3⟩ := hL0
    have hS0 := hS
    obtain ⟨t1, t2⟩ := hS0
    have hV0 := hV
    unfold VatAt at hV0
    rw [soak_cell hd] at m1
    have g11 : soakG x r d t 11 = x 11 := soakG_o hd (by omega) (by omega)
    have g12 : soakG x r d t 12 = x 12 := soakG_o hd (by omega) (by omega)
    have g1 : soakG x r d t 1 = x 1 := soakG_o hd (by omega) (by omega)
    have y0 : soakY x y r t 0 = nI d := hy
    have J137 : ∀ h3 s0, soakS x y r d t s0 → LotAt X h3 a af al (upd (soakG x r d t) 11 s0) → VatAt h3 b (soakY x y r t) → SetAt X h3 s v r → (∀ q, q ≠ a → q ≠ af → q ≠ al → q ≠ b → h3 q = h q) → G X RX2 cX2_soakIn 6 (some .int) "soakIn" (Rm 2 0 0) (Fm X (fun u h1 => u = some (.int t) ∧ (∃ x2, soakX x y r d t x2 ∧ LotAt X h1 a af al x2) ∧ VatAt h1 b (soakY x y r t) ∧ ∀ q, q ≠ a → q ≠ af → q ≠ al → q ≠ b → h1 q = h q) 0 0) 0 0 137 [(0, .ref a), (1, .ref b), (2, .ref s), (3, .int t)] [] h3 := by
      intro h3 s0 e0 kL kV kS kF
      have kL0 := kL
      obtain ⟨p1, p2, p3⟩ := kL0
      have kS0 := kS
      obtain ⟨r1, r2⟩ := kS0
      have kV0 := kV
      unfold VatAt at kV0
      rw [soak_cell11 hd] at p1
      rw [y0] at kV0
      refine g_aload_n dX2_soakIn_137 (by rfl) (by first | exact isRf_r | exact isRf_n | exact isRf_o | assumption) ?_
      refine g_getf dX2_soakIn_138 fX2_32 (by first | assumption | (repeat' (first | assumption | exact hu_same | exact Ne.symm (by assumption) | apply hu_n1))) (by rfl) ?_
      refine g_if_eq (tgt := 176) dX2_soakIn_141 (by decide) (fun c1 => ?_) (fun c1 => ?_)
      · skip
        have hsv : ¬ savP x r d t s0 := fun z => z.1 c1
        refine g_iload_n dX2_soakIn_176 (by rfl) ?_
        refine g_iret dX2_soakIn_177 rfl (Nat.le_refl _) (Nat.le_refl _) ?_
        first
          | exact ⟨rfl, ⟨_, ⟨s0, e0, Or.inr ⟨hsv, rfl⟩⟩, kL⟩, kV, kF⟩
          | (refine ⟨rfl, ⟨_, ⟨s0, e0, Or.inl ⟨hsv, rfl⟩⟩, ⟨?_, ?_, ?_⟩⟩, ?_, ?_⟩
             · rw [soak_cell12 hd]
               exact (by first | assumption | (repeat' (first | assumption | exact hu_same | exact Ne.symm (by assumption) | apply hu_n1)))
             · rw [fix_hi (by omega), fix_hi (by omega)]
               rw [fix_hi (by omega)] at p2
               exact (by first | assumption | (repeat' (first | assumption | exact hu_same | exact Ne.symm (by assumption) | apply hu_n1)))
             · rw [loo_hi (by omega), loo_hi (by omega)]
               rw [loo_hi (by omega)] at p3
               exact (by first | assumption | (repeat' (first | assumption | exact hu_same | exact Ne.symm (by assumption) | apply hu_n1)))
             · unfold VatAt
               rw [y0]
               exact (by first | assumption | (repeat' (first | assumption | exact hu_same | exact Ne.symm (by assumption) | apply hu_n1)))
             · intro q q1 q2 q3 q4
               simp only [hu_ne q1]
               exact kF q q1 q2 q3 q4)
      · skip
        have cS := c1
        refine g_aload_n dX2_soakIn_144 (by rfl) (by first | exact isRf_r | exact isRf_n | exact isRf_o | assumption) ?_
        refine g_getf dX2_soakIn_145 fX2_78 (by first | assumption | (repeat' (first | assumption | exact hu_same | exact Ne.symm (by assumption) | apply hu_n1))) (by rfl) ?_
        refine g_iconst (v := 3) dX2_soakIn_148 (by decide) ?_
        refine g_icmp_ne (tgt := 176) dX2_soakIn_149 (by decide) (fun c2 => ?_) (fun c2 => ?_)
        · skip
          have hsv : ¬ savP x r d t s0 := fun z => c2 (by rw [z.2.1]; rfl)
          refine g_iload_n dX2_soakIn_176 (by rfl) ?_
          refine g_iret dX2_soakIn_177 rfl (Nat.le_refl _) (Nat.le_refl _) ?_
          first
            | exact ⟨rfl, ⟨_, ⟨s0, e0, Or.inr ⟨hsv, rfl⟩⟩, kL⟩, kV, kF⟩
            | (refine ⟨rfl, ⟨_, ⟨s0, e0, Or.inl ⟨hsv, rfl⟩⟩, ⟨?_, ?_, ?_⟩⟩, ?_, ?_⟩
               · rw [soak_cell12 hd]
                 exact (by first | assumption | (repeat' (first | assumption | exact hu_same | exact Ne.symm (by assumption) | apply hu_n1)))
               · rw [fix_hi (by omega), fix_hi (by omega)]
                 rw [fix_hi (by omega)] at p2
                 exact (by first | assumption | (repeat' (first | assumption | exact hu_same | exact Ne.symm (by assumption) | apply hu_n1)))
               · rw [loo_hi (by omega), loo_hi (by omega)]
                 rw [loo_hi (by omega)] at p3
                 exact (by first | assumption | (repeat' (first | assumption | exact hu_same | exact Ne.symm (by assumption) | apply hu_n1)))
               · unfold VatAt
                 rw [y0]
                 exact (by first | assumption | (repeat' (first | assumption | exact hu_same | exact Ne.symm (by assumption) | apply hu_n1)))
               · intro q q1 q2 q3 q4
                 simp only [hu_ne q1]
                 exact kF q q1 q2 q3 q4)
        · skip
          have cD : nI d = nI 3 := c2
          refine g_aload_n dX2_soakIn_152 (by rfl) (by first | exact isRf_r | exact isRf_n | exact isRf_o | assumption) ?_
          refine g_iconst (v := 3) dX2_soakIn_153 (by decide) ?_
          refine g_cV1x dX2_soakIn_154 lX2_92 vX2_shadeOf (ct_X2_shadeOf X (j := 3) (by omega) (by rw [upd_n (by omega), g1]; exact hk.2.1) kL) (by first | assumption | (repeat' (first | assumption | exact hu_same | exact Ne.symm (by assumption) | apply hu_n1))) rfl ⟨Nat.le_of_ble_eq_true rfl, Nat.le_of_ble_eq_true rfl⟩ (Nat.le_of_ble_eq_true rfl) ⟨Nat.le_of_ble_eq_true rfl, Nat.le_of_ble_eq_true rfl⟩ ?_
          refine g_aload_n dX2_soakIn_157 (by rfl) (by first | exact isRf_r | exact isRf_n | exact isRf_o | assumption) ?_
          refine g_bipush (v := 6) dX2_soakIn_158 (by decide) ?_
          refine g_cV1x dX2_soakIn_160 lX2_59 vX6_valueOf (ct_X6_valueOf X (j := 6) (by omega) kS) (by first | assumption | (repeat' (first | assumption | exact hu_same | exact Ne.symm (by assumption) | apply hu_n1))) rfl ⟨Nat.le_of_ble_eq_true rfl, Nat.le_of_ble_eq_true rfl⟩ (Nat.le_of_ble_eq_true rfl) ⟨Nat.le_of_ble_eq_true rfl, Nat.le_of_ble_eq_true rfl⟩ ?_
          refine g_icmp_lt (tgt := 176) dX2_soakIn_163 (by decide) (fun c3 => ?_) (fun c3 => ?_)
          · skip
            have hsv : ¬ savP x r d t s0 := by
              intro z
              have z2 := z.2.2
              rw [sh_hi (by omega) (by omega)] at c3
              simp only [i_lt, i_le] at *
              omega
            refine g_iload_n dX2_soakIn_176 (by rfl) ?_
            refine g_iret dX2_soakIn_177 rfl (Nat.le_refl _) (Nat.le_refl _) ?_
            first
              | exact ⟨rfl, ⟨_, ⟨s0, e0, Or.inr ⟨hsv, rfl⟩⟩, kL⟩, kV, kF⟩
              | (refine ⟨rfl, ⟨_, ⟨s0, e0, Or.inl ⟨hsv, rfl⟩⟩, ⟨?_, ?_, ?_⟩⟩, ?_, ?_⟩
                 · rw [soak_cell12 hd]
                   exact (by first | assumption | (repeat' (first | assumption | exact hu_same | exact Ne.symm (by assumption) | apply hu_n1)))
                 · rw [fix_hi (by omega), fix_hi (by omega)]
                   rw [fix_hi (by omega)] at p2
                   exact (by first | assumption | (repeat' (first | assumption | exact hu_same | exact Ne.symm (by assumption) | apply hu_n1)))
                 · rw [loo_hi (by omega), loo_hi (by omega)]
                   rw [loo_hi (by omega)] at p3
                   exact (by first | assumption | (repeat' (first | assumption | exact hu_same | exact Ne.symm (by assumption) | apply hu_n1)))
                 · unfold VatAt
                   rw [y0]
                   exact (by first | assumption | (repeat' (first | assumption | exact hu_same | exact Ne.symm (by assumption) | apply hu_n1)))
                 · intro q q1 q2 q3 q4
                   simp only [hu_ne q1]
                   exact kF q q1 q2 q3 q4)
          · skip
            have hsv : savP x r d t s0 := by
              refine ⟨cS, ?_, ?_⟩
              · exact (nI_eq (by omega) (by omega)).mp cD
              · rw [sh_hi (by omega) (by omega)] at c3
                simp only [i_lt, i_le] at *
                omega
            refine g_aload_n dX2_soakIn_166 (by rfl) (by first | exact isRf_r | exact isRf_n | exact isRf_o | assumption) ?_
            refine g_iconst (v := 0) dX2_soakIn_167 (by decide) ?_
            refine g_putf (ty := .boolean) dX2_soakIn_168 fX2_32 (by decide +kernel) (by decide) (by decide) (by first | assumption | (repeat' (first | assumption | exact hu_same | exact Ne.symm (by assumption) | apply hu_n1))) (by exact Nat.le_of_ble_eq_true rfl) ?_
            refine g_aload_n dX2_soakIn_171 (by rfl) (by first | exact isRf_r | exact isRf_n | exact isRf_o | assumption) ?_
            refine g_iconst (v := 1) dX2_soakIn_172 (by decide) ?_
            refine g_putf (ty := .boolean) dX2_soakIn_173 fX2_35 (by decide +kernel) (by decide) (by decide) (by first | assumption | (repeat' (first | assumption | exact hu_same | exact Ne.symm (by assumption) | apply hu_n1))) (by exact Nat.le_of_ble_eq_true rfl) ?_
            refine g_iload_n dX2_soakIn_176 (by rfl) ?_
            refine g_iret dX2_soakIn_177 rfl (Nat.le_refl _) (Nat.le_refl _) ?_
            first
              | exact ⟨rfl, ⟨_, ⟨s0, e0, Or.inr ⟨hsv, rfl⟩⟩, kL⟩, kV, kF⟩
              | (refine ⟨rfl, ⟨_, ⟨s0, e0, Or.inl ⟨hsv, rfl⟩⟩, ⟨?_, ?_, ?_⟩⟩, ?_, ?_⟩
                 · rw [soak_cell12 hd]
                   exact (by first | assumption | (repeat' (first | assumption | exact hu_same | exact Ne.symm (by assumption) | apply hu_n1)))
                 · rw [fix_hi (by omega), fix_hi (by omega)]
                   rw [fix_hi (by omega)] at p2
                   exact (by first | assumption | (repeat' (first | assumption | exact hu_same | exact Ne.symm (by assumption) | apply hu_n1)))
                 · rw [loo_hi (by omega), loo_hi (by omega)]
                   rw [loo_hi (by omega)] at p3
                   exact (by first | assumption | (repeat' (first | assumption | exact hu_same | exact Ne.symm (by assumption) | apply hu_n1)))
                 · unfold VatAt
                   rw [y0]
                   exact (by first | assumption | (repeat' (first | assumption | exact hu_same | exact Ne.symm (by assumption) | apply hu_n1)))
                 · intro q q1 q2 q3 q4
                   simp only [hu_ne q1]
                   exact kF q q1 q2 q3 q4)
    refine g_aload_n dX2_soakIn_108 (by rfl) (by first | exact isRf_r | exact isRf_n | exact isRf_o | assumption) ?_
    refine g_getf dX2_soakIn_109 fX2_35 (by first | assumption | (repeat' (first | assumption | exact hu_same | exact Ne.symm (by assumption) | apply hu_n1))) (by rfl) ?_
    refine g_if_ne (tgt := 137) dX2_soakIn_112 (by decide) (fun c4 => ?_) (fun c4 => ?_)
    · skip
      have hsp : ¬ spoP x y r d t := fun z => c4 z.1
      refine g_pick [0, 1, 2, 3] rfl ?_
      first
        | (refine J137 _ 1 (Or.inl ⟨hsp, rfl⟩) ⟨?_, ?_, ?_⟩ ?_ ⟨?_, ?_⟩ ?_
           · rw [soak_cell11 hd]
             exact (by first | assumption | (repeat' (first | assumption | exact hu_same | exact Ne.symm (by assumption) | apply hu_n1)))
           · rw [fix_hi (by omega)]
             exact (by first | assumption | (repeat' (first | assumption | exact hu_same | exact Ne.symm (by assumption) | apply hu_n1)))
           · rw [loo_hi (by omega)]
             exact (by first | assumption | (repeat' (first | assumption | exact hu_same | exact Ne.symm (by assumption) | apply hu_n1)))
           · unfold VatAt
             exact (by first | assumption | (repeat' (first | assumption | exact hu_same | exact Ne.symm (by assumption) | apply hu_n1)))
           · exact (by first | assumption | (repeat' (first | assumption | exact hu_same | exact Ne.symm (by assumption) | apply hu_n1)))
           · exact (by first | assumption | (repeat' (first | assumption | exact hu_same | exact Ne.symm (by assumption) | apply hu_n1)))
           · intro q q1 q2 q3 q4
             simp only [hu_ne q1]
             exact hF q q1 q2 q3 q4)
        | exact J137 _ (x 11) (Or.inr ⟨hsp, rfl⟩) (by rw [← g11, upd_self]; exact hL) hV hS hF
    · skip
      have cdk := c4
      refine g_iload dX2_soakIn_115 (by rfl) ?_
      refine g_if_ne (tgt := 132) dX2_soakIn_117 (by decide) (fun c5 => ?_) (fun c5 => ?_)
      · skip
        have hsp : spoP x y r d t := ⟨cdk, Or.inl (bI_d1 _ c5)⟩
        refine g_aload_n dX2_soakIn_132 (by rfl) (by first | exact isRf_r | exact isRf_n | exact isRf_o | assumption) ?_
        refine g_iconst (v := 1) dX2_soakIn_133 (by decide) ?_
        refine g_putf (ty := .boolean) dX2_soakIn_134 fX2_32 (by decide +kernel) (by decide) (by decide) (by first | assumption | (repeat' (first | assumption | exact hu_same | exact Ne.symm (by assumption) | apply hu_n1))) (by exact Nat.le_of_ble_eq_true rfl) ?_
        refine g_pick [0, 1, 2, 3] rfl ?_
        first
          | (refine J137 _ 1 (Or.inl ⟨hsp, rfl⟩) ⟨?_, ?_, ?_⟩ ?_ ⟨?_, ?_⟩ ?_
             · rw [soak_cell11 hd]
               exact (by first | assumption | (repeat' (first | assumption | exact hu_same | exact Ne.symm (by assumption) | apply hu_n1)))
             · rw [fix_hi (by omega)]
               exact (by first | assumption | (repeat' (first | assumption | exact hu_same | exact Ne.symm (by assumption) | apply hu_n1)))
             · rw [loo_hi (by omega)]
               exact (by first | assumption | (repeat' (first | assumption | exact hu_same | exact Ne.symm (by assumption) | apply hu_n1)))
             · unfold VatAt
               exact (by first | assumption | (repeat' (first | assumption | exact hu_same | exact Ne.symm (by assumption) | apply hu_n1)))
             · exact (by first | assumption | (repeat' (first | assumption | exact hu_same | exact Ne.symm (by assumption) | apply hu_n1)))
             · exact (by first | assumption | (repeat' (first | assumption | exact hu_same | exact Ne.symm (by assumption) | apply hu_n1)))
             · intro q q1 q2 q3 q4
               simp only [hu_ne q1]
               exact hF q q1 q2 q3 q4)
          | exact J137 _ (x 11) (Or.inr ⟨hsp, rfl⟩) (by rw [← g11, upd_self]; exact hL) hV hS hF
      · skip
        have cdi := c5
        refine g_aload_n dX2_soakIn_120 (by rfl) (by first | exact isRf_r | exact isRf_n | exact isRf_o | assumption) ?_
        refine g_cV0x dX2_soakIn_121 lX2_88 vX2_depth (ct_X2_depth X (by rw [g1]; exact hk.2.1) hL) (by first | assumption | (repeat' (first | assumption | exact hu_same | exact Ne.symm (by assumption) | apply hu_n1))) rfl ⟨Nat.le_of_ble_eq_true rfl, Nat.le_of_ble_eq_true rfl⟩ (Nat.le_of_ble_eq_true rfl) ⟨Nat.le_of_ble_eq_true rfl, Nat.le_of_ble_eq_true rfl⟩ ?_
        refine g_aload_n dX2_soakIn_124 (by rfl) (by first | exact isRf_r | exact isRf_n | exact isRf_o | assumption) ?_
        refine g_iconst (v := 3) dX2_soakIn_125 (by decide) ?_
        refine g_cV1x dX2_soakIn_126 lX2_59 vX6_valueOf (ct_X6_valueOf X (j := 3) (by omega) hS) (by first | assumption | (repeat' (first | assumption | exact hu_same | exact Ne.symm (by assumption) | apply hu_n1))) rfl ⟨Nat.le_of_ble_eq_true rfl, Nat.le_of_ble_eq_true rfl⟩ (Nat.le_of_ble_eq_true rfl) ⟨Nat.le_of_ble_eq_true rfl, Nat.le_of_ble_eq_true rfl⟩ ?_
        refine g_icmp_le (tgt := 137) dX2_soakIn_129 (by decide) (fun c6 => ?_) (fun c6 => ?_)
        · skip
          have hsp : ¬ spoP x y r d t := by
            rintro ⟨-, z | z⟩
            · exact bI_d0 _ cdi z
            · simp only [i_lt, i_le] at *
              omega
          refine g_pick [0, 1, 2, 3] rfl ?_
          first
            | (refine J137 _ 1 (Or.inl ⟨hsp, rfl⟩) ⟨?_, ?_, ?_⟩ ?_ ⟨?_, ?_⟩ ?_
               · rw [soak_cell11 hd]
                 exact (by first | assumption | (repeat' (first | assumption | exact hu_same | exact Ne.symm (by assumption) | apply hu_n1)))
               · rw [fix_hi (by omega)]
                 exact (by first | assumption | (repeat' (first | assumption | exact hu_same | exact Ne.symm (by assumption) | apply hu_n1)))
               · rw [loo_hi (by omega)]
                 exact (by first | assumption | (repeat' (first | assumption | exact hu_same | exact Ne.symm (by assumption) | apply hu_n1)))
               · unfold VatAt
                 exact (by first | assumption | (repeat' (first | assumption | exact hu_same | exact Ne.symm (by assumption) | apply hu_n1)))
               · exact (by first | assumption | (repeat' (first | assumption | exact hu_same | exact Ne.symm (by assumption) | apply hu_n1)))
               · exact (by first | assumption | (repeat' (first | assumption | exact hu_same | exact Ne.symm (by assumption) | apply hu_n1)))
               · intro q q1 q2 q3 q4
                 simp only [hu_ne q1]
                 exact hF q q1 q2 q3 q4)
            | exact J137 _ (x 11) (Or.inr ⟨hsp, rfl⟩) (by rw [← g11, upd_self]; exact hL) hV hS hF
        · skip
          have hsp : spoP x y r d t := ⟨cdk, Or.inr (by simp only [i_lt, i_le] at *; omega)⟩
          refine g_aload_n dX2_soakIn_132 (by rfl) (by first | exact isRf_r | exact isRf_n | exact isRf_o | assumption) ?_
          refine g_iconst (v := 1) dX2_soakIn_133 (by decide) ?_
          refine g_putf (ty := .boolean) dX2_soakIn_134 fX2_32 (by decide +kernel) (by decide) (by decide) (by first | assumption | (repeat' (first | assumption | exact hu_same | exact Ne.symm (by assumption) | apply hu_n1))) (by exact Nat.le_of_ble_eq_true rfl) ?_
          refine g_pick [0, 1, 2, 3] rfl ?_
          first
            | (refine J137 _ 1 (Or.inl ⟨hsp, rfl⟩) ⟨?_, ?_, ?_⟩ ?_ ⟨?_, ?_⟩ ?_
               · rw [soak_cell11 hd]
                 exact (by first | assumption | (repeat' (first | assumption | exact hu_same | exact Ne.symm (by assumption) | apply hu_n1)))
               · rw [fix_hi (by omega)]
                 exact (by first | assumption | (repeat' (first | assumption | exact hu_same | exact Ne.symm (by assumption) | apply hu_n1)))
               · rw [loo_hi (by omega)]
                 exact (by first | assumption | (repeat' (first | assumption | exact hu_same | exact Ne.symm (by assumption) | apply hu_n1)))
               · unfold VatAt
                 exact (by first | assumption | (repeat' (first | assumption | exact hu_same | exact Ne.symm (by assumption) | apply hu_n1)))
               · exact (by first | assumption | (repeat' (first | assumption | exact hu_same | exact Ne.symm (by assumption) | apply hu_n1)))
               · exact (by first | assumption | (repeat' (first | assumption | exact hu_same | exact Ne.symm (by assumption) | apply hu_n1)))
               · intro q q1 q2 q3 q4
                 simp only [hu_ne q1]
                 exact hF q q1 q2 q3 q4)
            | exact J137 _ (x 11) (Or.inr ⟨hsp, rfl⟩) (by rw [← g11, upd_self]; exact hL) hV hS hF
  refine g_aload_n dX2_soakIn_0 (by rfl) (by first | exact isRf_r | exact isRf_n | exact isRf_o | assumption) ?_
  refine g_aload_n dX2_soakIn_1 (by rfl) (by first | exact isRf_r | exact isRf_n | exact isRf_o | assumption) ?_
  refine g_getf dX2_soakIn_2 fX2_62 (by first | assumption | (repeat' (first | assumption | exact hu_same | exact Ne.symm (by assumption) | apply hu_n1))) (by rfl) ?_
  refine g_aload_n dX2_soakIn_5 (by rfl) (by first | exact isRf_r | exact isRf_n | exact isRf_o | assumption) ?_
  refine g_getf dX2_soakIn_6 fX2_67 (by first | assumption | (repeat' (first | assumption | exact hu_same | exact Ne.symm (by assumption) | apply hu_n1))) (by rfl) ?_
  refine g_aload_n dX2_soakIn_9 (by rfl) (by first | exact isRf_r | exact isRf_n | exact isRf_o | assumption) ?_
  refine g_cV3x dX2_soakIn_10 lX2_70 vX2_grainsTaken (ct_X2_grainsTaken X hk hx hs) (by first | assumption | (repeat' (first | assumption | exact hu_same | exact Ne.symm (by assumption) | apply hu_n1))) rfl ⟨Nat.le_of_ble_eq_true rfl, Nat.le_of_ble_eq_true rfl⟩ (Nat.le_of_ble_eq_true rfl) ⟨Nat.le_of_ble_eq_true rfl, Nat.le_of_ble_eq_true rfl⟩ ?_
  rw [ht]
  refine g_istore_n (L1 := [(0, _), (1, _), (2, _), (3, _)]) dX2_soakIn_13 (by decide) (by rfl) ?_
  refine g_iload_n dX2_soakIn_14 (by rfl) ?_
  refine g_aload_n dX2_soakIn_15 (by rfl) (by first | exact isRf_r | exact isRf_n | exact isRf_o | assumption) ?_
  refine g_iconst (v := 5) dX2_soakIn_16 (by decide) ?_
  refine g_cV1x dX2_soakIn_17 lX2_59 vX6_valueOf (ct_X6_valueOf X (j := 5) (by omega) hs) (by first | assumption | (repeat' (first | assumption | exact hu_same | exact Ne.symm (by assumption) | apply hu_n1))) rfl ⟨Nat.le_of_ble_eq_true rfl, Nat.le_of_ble_eq_true rfl⟩ (Nat.le_of_ble_eq_true rfl) ⟨Nat.le_of_ble_eq_true rfl, Nat.le_of_ble_eq_true rfl⟩ ?_
  refine g_imul dX2_soakIn_20 ?_
  refine g_bipush (v := 100) dX2_soakIn_21 (by decide) ?_
  refine g_idiv dX2_soakIn_23 (by decide) ?_
  refine g_istore (L1 := [(0, _), (1, _), (2, _), (3, _), (4, _)]) dX2_soakIn_24 (by decide) (by rfl) ?_
  refine g_aload_n dX2_soakIn_26 (by rfl) (by first | exact isRf_r | exact isRf_n | exact isRf_o | assumption) ?_
  refine g_aload_n dX2_soakIn_27 (by rfl) (by first | exact isRf_r | exact isRf_n | exact isRf_o | assumption) ?_
  refine g_cV1x dX2_soakIn_28 lX2_74 vX8_spoils (ct_X8_spoils X hs hb) (by first | assumption | (repeat' (first | assumption | exact hu_same | exact Ne.symm (by assumption) | apply hu_n1))) rfl ⟨Nat.le_of_ble_eq_true rfl, Nat.le_of_ble_eq_true rfl⟩ (Nat.le_of_ble_eq_true rfl) ⟨Nat.le_of_ble_eq_true rfl, Nat.le_of_ble_eq_true rfl⟩ ?_
  refine g_istore (L1 := [(0, _), (1, _), (2, _), (3, _), (4, _), (5, _)]) dX2_soakIn_31 (by decide) (by rfl) ?_
  refine g_aload_n dX2_soakIn_33 (by rfl) (by first | exact isRf_r | exact isRf_n | exact isRf_o | assumption) ?_
  refine g_getf dX2_soakIn_34 fX2_19 (by first | assumption | (repeat' (first | assumption | exact hu_same | exact Ne.symm (by assumption) | apply hu_n1))) (by rfl) ?_
  refine g_aload_n dX2_soakIn_37 (by rfl) (by first | exact isRf_r | exact isRf_n | exact isRf_o | assumption) ?_
  refine g_getf dX2_soakIn_38 fX2_78 (by first | assumption | (repeat' (first | assumption | exact hu_same | exact Ne.symm (by assumption) | apply hu_n1))) (by rfl) ?_
  refine g_iload dX2_soakIn_41 (by rfl) ?_
  refine g_cN3v dX2_soakIn_43 lX2_81 vX9_addTo (ct_X9_addTo X (N := 4) (j := d) hd (by omega) l3) ⟨Nat.le_of_ble_eq_true rfl, Nat.le_of_ble_eq_true rfl⟩ (Nat.le_of_ble_eq_true rfl) ⟨Nat.le_of_ble_eq_true rfl, Nat.le_of_ble_eq_true rfl⟩ ?_
  refine g_aload_n dX2_soakIn_46 (by rfl) (by first | exact isRf_r | exact isRf_n | exact isRf_o | assumption) ?_
  refine g_getf dX2_soakIn_47 fX2_15 (by first | assumption | (repeat' (first | assumption | exact hu_same | exact Ne.symm (by assumption) | apply hu_n1))) (by rfl) ?_
  refine g_aload_n dX2_soakIn_50 (by rfl) (by first | exact isRf_r | exact isRf_n | exact isRf_o | assumption) ?_
  refine g_getf dX2_soakIn_51 fX2_78 (by first | assumption | (repeat' (first | assumption | exact hu_same | exact Ne.symm (by assumption) | apply hu_n1))) (by rfl) ?_
  refine g_iload_n dX2_soakIn_54 (by rfl) ?_
  refine g_iload dX2_soakIn_55 (by rfl) ?_
  refine g_isub dX2_soakIn_57 ?_
  refine g_cN3v dX2_soakIn_58 lX2_81 vX9_addTo (ct_X9_addTo X (N := 4) (j := d) hd (by omega) (by first | assumption | (repeat' (first | assumption | exact hu_same | exact Ne.symm (by assumption) | apply hu_n1)))) ⟨Nat.le_of_ble_eq_true rfl, Nat.le_of_ble_eq_true rfl⟩ (Nat.le_of_ble_eq_true rfl) ⟨Nat.le_of_ble_eq_true rfl, Nat.le_of_ble_eq_true rfl⟩ ?_
  refine g_aload_n dX2_soakIn_61 (by rfl) (by first | exact isRf_r | exact isRf_n | exact isRf_o | assumption) ?_
  refine g_dup dX2_soakIn_62 (by rfl) ?_
  refine g_getf dX2_soakIn_63 fX2_38 (by first | assumption | (repeat' (first | assumption | exact hu_same | exact Ne.symm (by assumption) | apply hu_n1))) (by rfl) ?_
  refine g_iconst (v := 1) dX2_soakIn_66 (by decide) ?_
  refine g_iadd dX2_soakIn_67 ?_
  refine g_putf (ty := .int) dX2_soakIn_68 fX2_38 (by decide +kernel) (by rfl) (by rfl) (by first | assumption | (repeat' (first | assumption | exact hu_same | exact Ne.symm (by assumption) | apply hu_n1))) (by exact Nat.le_of_ble_eq_true rfl) ?_
  refine g_aload_n dX2_soakIn_71 (by rfl) (by first | exact isRf_r | exact isRf_n | exact isRf_o | assumption) ?_
  refine g_dup dX2_soakIn_72 (by rfl) ?_
  refine g_getf dX2_soakIn_73 fX2_62 (by first | assumption | (repeat' (first | assumption | exact hu_same | exact Ne.symm (by assumption) | apply hu_n1))) (by rfl) ?_
  refine g_iload_n dX2_soakIn_76 (by rfl) ?_
  refine g_isub dX2_soakIn_77 ?_
  refine g_putf (ty := .int) dX2_soakIn_78 fX2_62 (by decide +kernel) (by rfl) (by rfl) (by first | assumption | (repeat' (first | assumption | exact hu_same | exact Ne.symm (by assumption) | apply hu_n1))) (by exact Nat.le_of_ble_eq_true rfl) ?_
  refine g_aload_n dX2_soakIn_81 (by rfl) (by first | exact isRf_r | exact isRf_n | exact isRf_o | assumption) ?_
  refine g_dup dX2_soakIn_82 (by rfl) ?_
  refine g_getf dX2_soakIn_83 fX2_85 (by first | assumption | (repeat' (first | assumption | exact hu_same | exact Ne.symm (by assumption) | apply hu_n1))) (by rfl) ?_
  refine g_aload_n dX2_soakIn_86 (by rfl) (by first | exact isRf_r | exact isRf_n | exact isRf_o | assumption) ?_
  refine g_getf dX2_soakIn_87 fX2_25 (by first | assumption | (repeat' (first | assumption | exact hu_same | exact Ne.symm (by assumption) | apply hu_n1))) (by rfl) ?_
  refine g_aload_n dX2_soakIn_90 (by rfl) (by first | exact isRf_r | exact isRf_n | exact isRf_o | assumption) ?_
  refine g_iconst (v := 1) dX2_soakIn_91 (by decide) ?_
  refine g_cV1x dX2_soakIn_92 lX2_59 vX6_valueOf (ct_X6_valueOf X (s := s) (v := v) (r := r) (j := 1) (by omega) ⟨(by first | assumption | (repeat' (first | assumption | exact hu_same | exact Ne.symm (by assumption) | apply hu_n1))), (by first | assumption | (repeat' (first | assumption | exact hu_same | exact Ne.symm (by assumption) | apply hu_n1)))⟩) (by first | assumption | (repeat' (first | assumption | exact hu_same | exact Ne.symm (by assumption) | apply hu_n1))) rfl ⟨Nat.le_of_ble_eq_true rfl, Nat.le_of_ble_eq_true rfl⟩ (Nat.le_of_ble_eq_true rfl) ⟨Nat.le_of_ble_eq_true rfl, Nat.le_of_ble_eq_true rfl⟩ ?_
  refine g_imul dX2_soakIn_95 ?_
  refine g_sipush (v := 999) dX2_soakIn_96 (by decide) ?_
  refine g_iadd dX2_soakIn_99 ?_
  refine g_sipush (v := 1000) dX2_soakIn_100 (by decide) ?_
  refine g_idiv dX2_soakIn_103 (by decide) ?_
  refine g_iadd dX2_soakIn_104 ?_
  refine g_putf (ty := .int) dX2_soakIn_105 fX2_85 (by decide +kernel) (by rfl) (by rfl) (by first | assumption | (repeat' (first | assumption | exact hu_same | exact Ne.symm (by assumption) | apply hu_n1))) (by exact Nat.le_of_ble_eq_true rfl) ?_
  refine J108 _ ⟨?_, ?_, ?_⟩ ?_ ⟨?_, ?_⟩ ?_
  · rw [soak_cell hd]
    exact (by first | assumption | (repeat' (first | assumption | exact hu_same | exact Ne.symm (by assumption) | apply hu_n1)))
  · rw [soak_fix hd]
    exact (by first | assumption | (repeat' (first | assumption | exact hu_same | exact Ne.symm (by assumption) | apply hu_n1)))
  · rw [soak_loo hd]
    exact (by first | assumption | (repeat' (first | assumption | exact hu_same | exact Ne.symm (by assumption) | apply hu_n1)))
  · unfold VatAt
    rw [show soakY x y r t 0 = nI d from hy]
    exact (by first | assumption | (repeat' (first | assumption | exact hu_same | exact Ne.symm (by assumption) | apply hu_n1)))
  · exact (by first | assumption | (repeat' (first | assumption | exact hu_same | exact Ne.symm (by assumption) | apply hu_n1)))
  · exact (by first | assumption | (repeat' (first | assumption | exact hu_same | exact Ne.symm (by assumption) | apply hu_n1)))
  · intro q q1 q2 q3 q4
    simp only [hu_ne q1, hu_ne q2, hu_ne q3, hu_ne q4]
