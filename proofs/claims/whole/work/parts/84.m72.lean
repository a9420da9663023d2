def PlU (X : Cx) (M : Nat → Nat) (R : Option (Nat × Int32 × Int32) × (Nat → Int32) × Nat) (u : Option Value) (h1 : Hp) (r2 : Nat → Int32) : Prop := match R with
  | (none, r3, k) => u = some (.int (nI k)) ∧ r2 = r3
  | (some (q, y, z), _, _) => u = some (.int (-4)) ∧ ∃ w, h1 (M 7) = some (oI X 3 (nr 3 w)) ∧ w 0 = nI q ∧ w 1 = y ∧ w 2 = cond (decide (y = 1)) (-4) z
theorem i_nlt0 {x : Int32} (h : 0 ≤ x) : ¬ x < 0 := fun z => i_nle z h
theorem i_lt0 {x : Int32} (h : ¬ 0 ≤ x) : x < 0 := i_ngt h
theorem md_m {X : Cx} {h : Hp} {M : Nat → Nat} {r s : Nat → Int32} {n tn : Nat} {rows : Nat → Nat → Int32} {tg : Nat → Int32} (k : MdS X h M r s n rows tn tg) : ∃ p lt fl, h (M 0) = some (md M n tn p lt fl) := k.2.1

set_option maxHeartbeats 4000000 in
set_option maxRecDepth 100000 in
theorem ct_X10_plays (X : Cx) {h : Hp} {M : Nat → Nat} {r s : Nat → Int32} {n tn : Nat} {rows : Nat → Nat → Int32} {tg : Nat → Int32} {RES : Option (Nat × Int32 × Int32) × (Nat → Int32) × Nat}  (hk : TOk tn tg) (hS : MdS X h M r s n rows tn tg) (hO : Ok r) (hO2 : Ok2 r) (hRES : plF tn tg 60 r 0 0 = RES) : Ct X mX10_plays 6 0 0 [.ref (M 0)] h (fun u h1 => ∃ r2, MdS X h1 M r2 s n rows tn tg ∧ (∀ q, outM M q → h1 q = h q) ∧ PlU X M RES u h1 r2) := by
  have htn := hk.1
  obtain ⟨p0, lt0, fl0, m0⟩ := md_m hS
  have n70 : M 0 ≠ M 7 := hS.ne (by omega) (by omega) (by omega)
  have n40 : M 4 ≠ M 0 := hS.ne (by omega) (by omega) (by omega)
  have n46 : M 4 ≠ M 6 := hS.ne (by omega) (by omega) (by omega)
  have n60 : M 6 ≠ M 0 := hS.ne (by omega) (by omega) (by omega)
  refine Ct.ofG vX10_plays.1.2.2.1 (Nat.le_of_ble_eq_true rfl) ?_
  show G X RX10 cX10_plays 4 (some .int) "plays" (Rm 6 0 0) (Fm X (fun u h1 => ∃ r2, MdS X h1 M r2 s n rows tn tg ∧ (∀ q, outM M q → h1 q = h q) ∧ PlU X M RES u h1 r2) 0 0) 0 0 0 [(0, .ref (M 0))] [] h
  refine g_iconst (v := 0) dX10_plays_0 (by decide) ?_
  refine g_istore_n (L1 := [(0, _), (1, _)]) dX10_plays_1 (by decide) (by rfl) ?_
  refine g_aload_n dX10_plays_2 (by rfl) (by first | exact isRf_r | exact isRf_n | exact isRf_o | assumption) ?_
  refine g_iconst (v := 0) dX10_plays_3 (by decide) ?_
  refine g_putf (ty := .int) dX10_plays_4 fX10_185 (by decide +kernel) (by rfl) (by rfl) (by first | exact m0 | exact x0 | exact xa | exact y0 | exact hu_same | exact y7 | exact (hu_n1 n70 y0) | exact (hu_n1 n70 (hu_n1 n70 y0)) | exact (hu_n1 n70 (hu_n1 n70 (hu_n1 n70 y0)))) (by exact Nat.le_of_ble_eq_true rfl) ?_
  have loop7 : ∀ j, j ≤ 60 → ∀ (p k : Nat) (r1 : Nat → Int32) (hh : Hp) (lt fl : Int32), tn ≤ p + (60 - j) → p ≤ 100 → Ok r1 → Ok2 r1 → MdS X hh M r1 s n rows tn tg → hh (M 0) = some (md M n tn (nI p) lt fl) → (∀ q, outM M q → hh q = h q) → plF tn tg (60 - j) r1 p k = RES → G X RX10 cX10_plays 4 (some .int) "plays" (Rm 6 0 0) (Fm X (fun u h1 => ∃ r2, MdS X h1 M r2 s n rows tn tg ∧ (∀ q, outM M q → h1 q = h q) ∧ PlU X M RES u h1 r2) 0 0) 0 0 7 [(0, .ref (M 0)), (1, .int (nI k))] [] hh := by
    refine up_ind 60 (fun j hj ih => ?_)
    intro p k r1 hh lt fl hfu hp hO1 hO21 hS1 m0 hf1 hR1
    refine g_aload_n dX10_plays_7 (by rfl) (by first | exact isRf_r | exact isRf_n | exact isRf_o | assumption) ?_
    refine g_getf dX10_plays_8 fX10_185 (by first | exact m0 | exact x0 | exact xa | exact y0 | exact hu_same | exact y7 | exact (hu_n1 n70 y0) | exact (hu_n1 n70 (hu_n1 n70 y0)) | exact (hu_n1 n70 (hu_n1 n70 (hu_n1 n70 y0)))) (by rfl) ?_
    refine g_aload_n dX10_plays_11 (by rfl) (by first | exact isRf_r | exact isRf_n | exact isRf_o | assumption) ?_
    refine g_getf dX10_plays_12 fX10_179 (by first | exact m0 | exact x0 | exact xa | exact y0 | exact hu_same | exact y7 | exact (hu_n1 n70 y0) | exact (hu_n1 n70 (hu_n1 n70 y0)) | exact (hu_n1 n70 (hu_n1 n70 (hu_n1 n70 y0)))) (by rfl) ?_
    refine g_icmp_ge (tgt := 107) dX10_plays_15 (by decide) (fun c1 => ?_) (fun c1 => ?_)
    · skip
      have hge := c_ge (a := tn) (b := p) (by omega) (by omega) c1
      refine g_iload_n dX10_plays_107 (by rfl) ?_
      refine g_iret dX10_plays_108 rfl (Nat.le_refl _) (Nat.le_refl _) ?_
      rw [plF_end (by omega)] at hR1
      subst hR1
      exact ⟨r1, hS1, hf1, rfl, rfl⟩
    · skip
      have hlt : p < tn := c_nge (a := tn) (b := p) (by omega) (by omega) c1
      refine g_aload_n dX10_plays_18 (by rfl) (by first | exact isRf_r | exact isRf_n | exact isRf_o | assumption) ?_
      refine g_getf dX10_plays_19 fX10_185 (by first | exact m0 | exact x0 | exact xa | exact y0 | exact hu_same | exact y7 | exact (hu_n1 n70 y0) | exact (hu_n1 n70 (hu_n1 n70 y0)) | exact (hu_n1 n70 (hu_n1 n70 (hu_n1 n70 y0)))) (by rfl) ?_
      refine g_istore_n (L1 := [(0, _), (1, _), (2, _)]) dX10_plays_22 (by decide) (by rfl) ?_
      refine g_aload_n dX10_plays_23 (by rfl) (by first | exact isRf_r | exact isRf_n | exact isRf_o | assumption) ?_
      obtain ⟨-, -, -, -, -, k4, -, ⟨w6, k6⟩, -⟩ := id hS1
      refine g_cV0 dX10_plays_24 lX10_208 vX10_reads (ct_X10_reads X (w := w6) htn (by omega) n40 n46 n60 m0 k4 k6) (by first | exact m0 | exact x0 | exact xa | exact y0 | exact hu_same | exact y7 | exact (hu_n1 n70 y0) | exact (hu_n1 n70 (hu_n1 n70 y0)) | exact (hu_n1 n70 (hu_n1 n70 (hu_n1 n70 y0)))) rfl ⟨Nat.le_of_ble_eq_true rfl, Nat.le_of_ble_eq_true rfl⟩ (Nat.le_of_ble_eq_true rfl) ⟨Nat.le_of_ble_eq_true rfl, Nat.le_of_ble_eq_true rfl⟩ ?_
      rintro _ hx ⟨rfl, q, b, w, hq, hW, x0, x6, xf⟩
      have hSx := hS1.rd x0 x6 xf
      have hfx : ∀ q, outM M q → hx q = h q := fun q hq => (xf q (hq 0 (by omega)) (hq 6 (by omega))).trans (hf1 q hq)
      refine g_aload_n dX10_plays_27 (by rfl) (by first | exact isRf_r | exact isRf_n | exact isRf_o | assumption) ?_
      refine g_getf dX10_plays_28 fX10_188 (by first | exact m0 | exact x0 | exact xa | exact y0 | exact hu_same | exact y7 | exact (hu_n1 n70 y0) | exact (hu_n1 n70 (hu_n1 n70 y0)) | exact (hu_n1 n70 (hu_n1 n70 (hu_n1 n70 y0)))) (by rfl) ?_
      have J54 : ∀ (b : Bool) (v : Int32) (hz : Hp) (r3 r4 : Nat → Int32) (q3 : Nat) (c3 : Int32), MdS X hz M r3 s n rows tn tg → hz (M 0) = some (md M n tn (nI q3) c3 (bI b)) → (∀ q, outM M q → hz q = h q) → RES = (some (p, cond b 2 1, cond b v 0), r4, k) → G X RX10 cX10_plays 4 (some .int) "plays" (Rm 6 0 0) (Fm X (fun u h1 => ∃ r2, MdS X h1 M r2 s n rows tn tg ∧ (∀ q, outM M q → h1 q = h q) ∧ PlU X M RES u h1 r2) 0 0) 0 0 54 [(0, .ref (M 0)), (1, .int (nI k)), (2, .int (nI p)), (3, .int v)] [] hz := by
        intro b v hz r3 r4 q3 c3 hSz y0 fz eRES
        obtain ⟨-, -, -, -, -, -, -, -, w7, y7⟩ := id hSz
        refine g_aload_n dX10_plays_54 (by rfl) (by first | exact isRf_r | exact isRf_n | exact isRf_o | assumption) ?_
        refine g_getf dX10_plays_55 fX10_28 (by first | exact m0 | exact x0 | exact xa | exact y0 | exact hu_same | exact y7 | exact (hu_n1 n70 y0) | exact (hu_n1 n70 (hu_n1 n70 y0)) | exact (hu_n1 n70 (hu_n1 n70 (hu_n1 n70 y0)))) (by rfl) ?_
        refine g_iconst (v := 0) dX10_plays_58 (by decide) ?_
        refine g_iload_n dX10_plays_59 (by rfl) ?_
        refine g_isN dX10_plays_60 (by first | exact m0 | exact x0 | exact xa | exact y0 | exact hu_same | exact y7 | exact (hu_n1 n70 y0) | exact (hu_n1 n70 (hu_n1 n70 y0)) | exact (hu_n1 n70 (hu_n1 n70 (hu_n1 n70 y0)))) (show 0 < 3 by omega) (by omega) ?_
        rw [nr_up (show 0 < 3 by omega)]
        refine g_aload_n dX10_plays_61 (by rfl) (by first | exact isRf_r | exact isRf_n | exact isRf_o | assumption) ?_
        refine g_getf dX10_plays_62 fX10_28 (by first | exact m0 | exact x0 | exact xa | exact y0 | exact hu_same | exact y7 | exact (hu_n1 n70 y0) | exact (hu_n1 n70 (hu_n1 n70 y0)) | exact (hu_n1 n70 (hu_n1 n70 (hu_n1 n70 y0)))) (by rfl) ?_
        refine g_iconst (v := 1) dX10_plays_65 (by decide) ?_
        refine g_aload_n dX10_plays_66 (by rfl) (by first | exact isRf_r | exact isRf_n | exact isRf_o | assumption) ?_
        refine g_getf dX10_plays_67 fX10_188 (by first | exact m0 | exact x0 | exact xa | exact y0 | exact hu_same | exact y7 | exact (hu_n1 n70 y0) | exact (hu_n1 n70 (hu_n1 n70 y0)) | exact (hu_n1 n70 (hu_n1 n70 (hu_n1 n70 y0)))) (by rfl) ?_
        refine g_if_eq (tgt := 77) dX10_plays_70 (by decide) (fun c2 => ?_) (fun c2 => ?_)
        · skip
          refine g_iconst (v := 1) dX10_plays_77 (by decide) ?_
          refine g_isN dX10_plays_78 (by first | exact m0 | exact x0 | exact xa | exact y0 | exact hu_same | exact y7 | exact (hu_n1 n70 y0) | exact (hu_n1 n70 (hu_n1 n70 y0)) | exact (hu_n1 n70 (hu_n1 n70 (hu_n1 n70 y0)))) (show 1 < 3 by omega) (by omega) ?_
          rw [nr_up (show 1 < 3 by omega)]
          refine g_aload_n dX10_plays_79 (by rfl) (by first | exact isRf_r | exact isRf_n | exact isRf_o | assumption) ?_
          refine g_getf dX10_plays_80 fX10_28 (by first | exact m0 | exact x0 | exact xa | exact y0 | exact hu_same | exact y7 | exact (hu_n1 n70 y0) | exact (hu_n1 n70 (hu_n1 n70 y0)) | exact (hu_n1 n70 (hu_n1 n70 (hu_n1 n70 y0)))) (by rfl) ?_
          refine g_iconst (v := 2) dX10_plays_83 (by decide) ?_
          refine g_aload_n dX10_plays_84 (by rfl) (by first | exact isRf_r | exact isRf_n | exact isRf_o | assumption) ?_
          refine g_getf dX10_plays_85 fX10_188 (by first | exact m0 | exact x0 | exact xa | exact y0 | exact hu_same | exact y7 | exact (hu_n1 n70 y0) | exact (hu_n1 n70 (hu_n1 n70 y0)) | exact (hu_n1 n70 (hu_n1 n70 (hu_n1 n70 y0)))) (by rfl) ?_
          refine g_if_eq (tgt := 95) dX10_plays_88 (by decide) (fun c3 => ?_) (fun c3 => ?_)
          · skip
            refine g_bipush (v := (-4)) dX10_plays_95 (by decide) ?_
            refine g_isN dX10_plays_97 (by first | exact m0 | exact x0 | exact xa | exact y0 | exact hu_same | exact y7 | exact (hu_n1 n70 y0) | exact (hu_n1 n70 (hu_n1 n70 y0)) | exact (hu_n1 n70 (hu_n1 n70 (hu_n1 n70 y0)))) (show 2 < 3 by omega) (by omega) ?_
            rw [nr_up (show 2 < 3 by omega)]
            try rw [hu_hu]
            try rw [hu_hu]
            refine g_bipush (v := (-4)) dX10_plays_98 (by decide) ?_
            refine g_iret dX10_plays_100 rfl (Nat.le_refl _) (Nat.le_refl _) ?_
            subst eRES
            cases b with
            | false =>
              first
                | exact absurd rfl (by assumption : ¬ bI false = 0)
                | exact ⟨r3, hSz.met, fun q hq => (hu_ne (hq 7 (by omega))).trans (fz q hq), rfl, _, hu_same, by rw [upd_n (by omega), upd_n (by omega), upd_s], by rw [upd_n (by omega), upd_s]; rfl, upd_s⟩
            | true =>
              first
                | exact absurd (by assumption : bI true = 0) (by decide)
                | exact ⟨r3, hSz.met, fun q hq => (hu_ne (hq 7 (by omega))).trans (fz q hq), rfl, _, hu_same, by rw [upd_n (by omega), upd_n (by omega), upd_s], by rw [upd_n (by omega), upd_s]; rfl, upd_s⟩
          · skip
            refine g_iload_n dX10_plays_91 (by rfl) ?_
            refine g_goto (tgt := 97) dX10_plays_92 (by decide) ?_
            refine g_isN dX10_plays_97 (by first | exact m0 | exact x0 | exact xa | exact y0 | exact hu_same | exact y7 | exact (hu_n1 n70 y0) | exact (hu_n1 n70 (hu_n1 n70 y0)) | exact (hu_n1 n70 (hu_n1 n70 (hu_n1 n70 y0)))) (show 2 < 3 by omega) (by omega) ?_
            rw [nr_up (show 2 < 3 by omega)]
            try rw [hu_hu]
            try rw [hu_hu]
            refine g_bipush (v := (-4)) dX10_plays_98 (by decide) ?_
            refine g_iret dX10_plays_100 rfl (Nat.le_refl _) (Nat.le_refl _) ?_
            subst eRES
            cases b with
            | false =>
              first
                | exact absurd rfl (by assumption : ¬ bI false = 0)
                | exact ⟨r3, hSz.met, fun q hq => (hu_ne (hq 7 (by omega))).trans (fz q hq), rfl, _, hu_same, by rw [upd_n (by omega), upd_n (by omega), upd_s], by rw [upd_n (by omega), upd_s]; rfl, upd_s⟩
            | true =>
              first
                | exact absurd (by assumption : bI true = 0) (by decide)
                | exact ⟨r3, hSz.met, fun q hq => (hu_ne (hq 7 (by omega))).trans (fz q hq), rfl, _, hu_same, by rw [upd_n (by omega), upd_n (by omega), upd_s], by rw [upd_n (by omega), upd_s]; rfl, upd_s⟩
        · skip
          refine g_iconst (v := 2) dX10_plays_73 (by decide) ?_
          refine g_goto (tgt := 78) dX10_plays_74 (by decide) ?_
          refine g_isN dX10_plays_78 (by first | exact m0 | exact x0 | exact xa | exact y0 | exact hu_same | exact y7 | exact (hu_n1 n70 y0) | exact (hu_n1 n70 (hu_n1 n70 y0)) | exact (hu_n1 n70 (hu_n1 n70 (hu_n1 n70 y0)))) (show 1 < 3 by omega) (by omega) ?_
          rw [nr_up (show 1 < 3 by omega)]
          refine g_aload_n dX10_plays_79 (by rfl) (by first | exact isRf_r | exact isRf_n | exact isRf_o | assumption) ?_
          refine g_getf dX10_plays_80 fX10_28 (by first | exact m0 | exact x0 | exact xa | exact y0 | exact hu_same | exact y7 | exact (hu_n1 n70 y0) | exact (hu_n1 n70 (hu_n1 n70 y0)) | exact (hu_n1 n70 (hu_n1 n70 (hu_n1 n70 y0)))) (by rfl) ?_
          refine g_iconst (v := 2) dX10_plays_83 (by decide) ?_
          refine g_aload_n dX10_plays_84 (by rfl) (by first | exact isRf_r | exact isRf_n | exact isRf_o | assumption) ?_
          refine g_getf dX10_plays_85 fX10_188 (by first | exact m0 | exact x0 | exact xa | exact y0 | exact hu_same | exact y7 | exact (hu_n1 n70 y0) | exact (hu_n1 n70 (hu_n1 n70 y0)) | exact (hu_n1 n70 (hu_n1 n70 (hu_n1 n70 y0)))) (by rfl) ?_
          refine g_if_eq (tgt := 95) dX10_plays_88 (by decide) (fun c4 => ?_) (fun c4 => ?_)
          · skip
            refine g_bipush (v := (-4)) dX10_plays_95 (by decide) ?_
            refine g_isN dX10_plays_97 (by first | exact m0 | exact x0 | exact xa | exact y0 | exact hu_same | exact y7 | exact (hu_n1 n70 y0) | exact (hu_n1 n70 (hu_n1 n70 y0)) | exact (hu_n1 n70 (hu_n1 n70 (hu_n1 n70 y0)))) (show 2 < 3 by omega) (by omega) ?_
            rw [nr_up (show 2 < 3 by omega)]
            try rw [hu_hu]
            try rw [hu_hu]
            refine g_bipush (v := (-4)) dX10_plays_98 (by decide) ?_
            refine g_iret dX10_plays_100 rfl (Nat.le_refl _) (Nat.le_refl _) ?_
            subst eRES
            cases b with
            | false =>
              first
                | exact absurd rfl (by assumption : ¬ bI false = 0)
                | exact ⟨r3, hSz.met, fun q hq => (hu_ne (hq 7 (by omega))).trans (fz q hq), rfl, _, hu_same, by rw [upd_n (by omega), upd_n (by omega), upd_s], by rw [upd_n (by omega), upd_s]; rfl, upd_s⟩
            | true =>
              first
                | exact absurd (by assumption : bI true = 0) (by decide)
                | exact ⟨r3, hSz.met, fun q hq => (hu_ne (hq 7 (by omega))).trans (fz q hq), rfl, _, hu_same, by rw [upd_n (by omega), upd_n (by omega), upd_s], by rw [upd_n (by omega), upd_s]; rfl, upd_s⟩
          · skip
            refine g_iload_n dX10_plays_91 (by rfl) ?_
            refine g_goto (tgt := 97) dX10_plays_92 (by decide) ?_
            refine g_isN dX10_plays_97 (by first | exact m0 | exact x0 | exact xa | exact y0 | exact hu_same | exact y7 | exact (hu_n1 n70 y0) | exact (hu_n1 n70 (hu_n1 n70 y0)) | exact (hu_n1 n70 (hu_n1 n70 (hu_n1 n70 y0)))) (show 2 < 3 by omega) (by omega) ?_
            rw [nr_up (show 2 < 3 by omega)]
            try rw [hu_hu]
            try rw [hu_hu]
            refine g_bipush (v := (-4)) dX10_plays_98 (by decide) ?_
            refine g_iret dX10_plays_100 rfl (Nat.le_refl _) (Nat.le_refl _) ?_
            subst eRES
            cases b with
            | false =>
              first
                | exact absurd rfl (by assumption : ¬ bI false = 0)
                | exact ⟨r3, hSz.met, fun q hq => (hu_ne (hq 7 (by omega))).trans (fz q hq), rfl, _, hu_same, by rw [upd_n (by omega), upd_n (by omega), upd_s], by rw [upd_n (by omega), upd_s]; rfl, upd_s⟩
            | true =>
              first
                | exact absurd (by assumption : bI true = 0) (by decide)
                | exact ⟨r3, hSz.met, fun q hq => (hu_ne (hq 7 (by omega))).trans (fz q hq), rfl, _, hu_same, by rw [upd_n (by omega), upd_n (by omega), upd_s], by rw [upd_n (by omega), upd_s]; rfl, upd_s⟩
      refine g_if_eq (tgt := 41) dX10_plays_31 (by decide) (fun c5 => ?_) (fun c5 => ?_)
      · skip
        have hb := bI_0 c5
        subst hb
        have hbad := plF_bad (f := 60 - (j + 1)) (r := r1) (k := k) hlt hW
        rw [show 60 - (j + 1) + 1 = 60 - j by omega] at hbad
        refine g_iconst (v := 0) dX10_plays_41 (by decide) ?_
        refine g_istore_n (L1 := [(0, _), (1, _), (2, _), (3, _)]) dX10_plays_42 (by decide) (by rfl) ?_
        refine g_aload_n dX10_plays_43 (by rfl) (by first | exact isRf_r | exact isRf_n | exact isRf_o | assumption) ?_
        refine g_getf dX10_plays_44 fX10_188 (by first | exact m0 | exact x0 | exact xa | exact y0 | exact hu_same | exact y7 | exact (hu_n1 n70 y0) | exact (hu_n1 n70 (hu_n1 n70 y0)) | exact (hu_n1 n70 (hu_n1 n70 (hu_n1 n70 y0)))) (by rfl) ?_
        refine g_if_eq (tgt := 54) dX10_plays_47 (by decide) (fun c6 => ?_) (fun c6 => ?_)
        · skip
          first
            | exact absurd rfl (by assumption : ¬ bI false = 0)
            | exact absurd (by assumption : bI true = 0) (by decide)
            | exact J54 false 0 _ _ _ _ _ hSx x0 hfx (hR1.symm.trans hbad)
            | (have hj2 : 60 - j = (60 - (j + 1)) + 1 := by omega
               have hng : (F_work (cl (nI kc)) r1 (w 0) (cond (twoB (nI kc)) (w 1) 0)).1 < 0 := by rw [hcl, workB hkc]; exact hcode
               have hno := plF_no (f := 60 - (j + 1)) (k := k) hlt hW hng
               rw [hcl, workB hkc, ← hj2, hR1] at hno
               exact J54 true _ _ _ _ _ _ hSx.row xa (fun q hq => (hr_out q hq).trans (hfx q hq)) hno)
        · skip
          refine g_iload_n dX10_plays_50 (by rfl) ?_
          refine g_if_ge (tgt := 101) dX10_plays_51 (by decide) (fun c7 => ?_) (fun c7 => ?_)
          · skip
            have hcode := i_nlt0 c7
            refine g_iinc (v := nI (k + 1)) (L1 := [(0, _), (1, _), (2, _), (3, _)]) dX10_plays_101 (by rfl) (nI_1 k) (by decide) (by rfl) ?_
            refine g_goto (tgt := 7) dX10_plays_104 (by decide) ?_
            refine g_pick [0, 1] rfl ?_
            first
              | exact absurd rfl (by assumption : ¬ bI false = 0)
              | (have hj2 : 60 - j = (60 - (j + 1)) + 1 := by omega
                 have hng : ¬ (F_work (cl (nI kc)) r1 (w 0) (cond (twoB (nI kc)) (w 1) 0)).1 < 0 := by rw [hcl, workB hkc]; exact hcode
                 have hgo := plF_go (f := 60 - (j + 1)) (k := k) hlt hW hng
                 rw [hcl, workB hkc] at hgo
                 exact ih (by omega) q (k + 1) _ _ _ _ (by have z := (rdW_c hW).2; omega) (by have z := (rdW_c hW).2; omega) (Ok_work hO1) (Ok2_work hO1 hO21) hSx.row xa (fun q hq => (hr_out q hq).trans (hfx q hq)) (by rw [← hgo, ← hj2]; exact hR1))
          · skip
            have hcode := i_lt0 c7
            first
              | exact absurd rfl (by assumption : ¬ bI false = 0)
              | exact absurd (by assumption : bI true = 0) (by decide)
              | exact J54 false 0 _ _ _ _ _ hSx x0 hfx (hR1.symm.trans hbad)
              | (have hj2 : 60 - j = (60 - (j + 1)) + 1 := by omega
                 have hng : (F_work (cl (nI kc)) r1 (w 0) (cond (twoB (nI kc)) (w 1) 0)).1 < 0 := by rw [hcl, workB hkc]; exact hcode
                 have hno := plF_no (f := 60 - (j + 1)) (k := k) hlt hW hng
                 rw [hcl, workB hkc, ← hj2, hR1] at hno
                 exact J54 true _ _ _ _ _ _ hSx.row xa (fun q hq => (hr_out q hq).trans (hfx q hq)) hno)
      · skip
        have hb := bI_1 c5
        subst hb
        refine g_aload_n dX10_plays_34 (by rfl) (by first | exact isRf_r | exact isRf_n | exact isRf_o | assumption) ?_
        obtain ⟨kc, hkc, ekc⟩ := (rdW_c hW).1
        rw [ekc] at x0 hW
        have hcl : cl (nI kc) = kc := cl_nI (by rcases hkc with e | e | e | e | e | e <;> omega)
        refine g_cV0x dX10_plays_35 lX10_211 vX10_does (ct_mDoes X hkc hSx.mo hO1 hO21.1 x0 x6) (by first | exact m0 | exact x0 | exact xa | exact y0 | exact hu_same | exact y7 | exact (hu_n1 n70 y0) | exact (hu_n1 n70 (hu_n1 n70 y0)) | exact (hu_n1 n70 (hu_n1 n70 (hu_n1 n70 y0)))) rfl ⟨Nat.le_of_ble_eq_true rfl, Nat.le_of_ble_eq_true rfl⟩ (Nat.le_of_ble_eq_true rfl) ⟨Nat.le_of_ble_eq_true rfl, Nat.le_of_ble_eq_true rfl⟩ ?_
        have xa := hr_a (X := X) (r := (F_work kc r1 (w 0) (w 1)).2) (hSx.ne (i := 0) (j := 1) (by omega) (by omega) (by omega)) x0
        refine g_goto (tgt := 42) dX10_plays_38 (by decide) ?_
        refine g_istore_n (L1 := [(0, _), (1, _), (2, _), (3, _)]) dX10_plays_42 (by decide) (by rfl) ?_
        refine g_aload_n dX10_plays_43 (by rfl) (by first | exact isRf_r | exact isRf_n | exact isRf_o | assumption) ?_
        refine g_getf dX10_plays_44 fX10_188 (by first | exact m0 | exact x0 | exact xa | exact y0 | exact hu_same | exact y7 | exact (hu_n1 n70 y0) | exact (hu_n1 n70 (hu_n1 n70 y0)) | exact (hu_n1 n70 (hu_n1 n70 (hu_n1 n70 y0)))) (by rfl) ?_
        refine g_if_eq (tgt := 54) dX10_plays_47 (by decide) (fun c8 => ?_) (fun c8 => ?_)
        · skip
          first
            | exact absurd rfl (by assumption : ¬ bI false = 0)
            | exact absurd (by assumption : bI true = 0) (by decide)
            | exact J54 false 0 _ _ _ _ _ hSx x0 hfx (hR1.symm.trans hbad)
            | (have hj2 : 60 - j = (60 - (j + 1)) + 1 := by omega
               have hng : (F_work (cl (nI kc)) r1 (w 0) (cond (twoB (nI kc)) (w 1) 0)).1 < 0 := by rw [hcl, workB hkc]; exact hcode
               have hno := plF_no (f := 60 - (j + 1)) (k := k) hlt hW hng
               rw [hcl, workB hkc, ← hj2, hR1] at hno
               exact J54 true _ _ _ _ _ _ hSx.row xa (fun q hq => (hr_out q hq).trans (hfx q hq)) hno)
        · skip
          refine g_iload_n dX10_plays_50 (by rfl) ?_
          refine g_if_ge (tgt := 101) dX10_plays_51 (by decide) (fun c9 => ?_) (fun c9 => ?_)
          · skip
            have hcode := i_nlt0 c9
            refine g_iinc (v := nI (k + 1)) (L1 := [(0, _), (1, _), (2, _), (3, _)]) dX10_plays_101 (by rfl) (nI_1 k) (by decide) (by rfl) ?_
            refine g_goto (tgt := 7) dX10_plays_104 (by decide) ?_
            refine g_pick [0, 1] rfl ?_
            first
              | exact absurd rfl (by assumption : ¬ bI false = 0)
              | (have hj2 : 60 - j = (60 - (j + 1)) + 1 := by omega
                 have hng : ¬ (F_work (cl (nI kc)) r1 (w 0) (cond (twoB (nI kc)) (w 1) 0)).1 < 0 := by rw [hcl, workB hkc]; exact hcode
                 have hgo := plF_go (f := 60 - (j + 1)) (k := k) hlt hW hng
                 rw [hcl, workB hkc] at hgo
                 exact ih (by omega) q (k + 1) _ _ _ _ (by have z := (rdW_c hW).2; omega) (by have z := (rdW_c hW).2; omega) (Ok_work hO1) (Ok2_work hO1 hO21) hSx.row xa (fun q hq => (hr_out q hq).trans (hfx q hq)) (by rw [← hgo, ← hj2]; exact hR1))
          · skip
            have hcode := i_lt0 c9
            first
              | exact absurd rfl (by assumption : ¬ bI false = 0)
              | exact absurd (by assumption : bI true = 0) (by decide)
              | exact J54 false 0 _ _ _ _ _ hSx x0 hfx (hR1.symm.trans hbad)
              | (have hj2 : 60 - j = (60 - (j + 1)) + 1 := by omega
                 have hng : (F_work (cl (nI kc)) r1 (w 0) (cond (twoB (nI kc)) (w 1) 0)).1 < 0 := by rw [hcl, workB hkc]; exact hcode
                 have hno := plF_no (f := 60 - (j + 1)) (k := k) hlt hW hng
                 rw [hcl, workB hkc, ← hj2, hR1] at hno
                 exact J54 true _ _ _ _ _ _ hSx.row xa (fun q hq => (hr_out q hq).trans (hfx q hq)) hno)
  exact loop7 0 (by omega) 0 0 r _ lt0 fl0 (by omega) (by omega) hO hO2 (hS.rd hu_same ((hu_ne n60).trans hS.2.2.2.2.2.2.2.1.choose_spec) (fun x x0 x6 => hu_ne x0)) hu_same (fun q hq => hu_ne (hq 0 (by omega))) hRES
