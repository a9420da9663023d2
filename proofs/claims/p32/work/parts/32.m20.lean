def twoB (c : Int32) : Bool := decide (c = 100) || (decide (c = 104) || decide (c = 115))
def oneB (c : Int32) : Bool := decide (c = 114) || (decide (c = 116) || decide (c = 101))
/-- an order of work that begins at p: its letter, its numbers, the place behind it -/
def rdW (n : Nat) (g : Nat → Int32) (p : Nat) : Option (Int32 × Int32 × Int32 × Nat) :=
  cond (twoB (sg n g p))
    (cond (decide (0 ≤ (rdN n g (p + 1)).1) && decide (sg n g (rdN n g (p + 1)).2 = 44))
      (cond (decide (0 ≤ (rdN n g ((rdN n g (p + 1)).2 + 1)).1) && decide (sg n g (rdN n g ((rdN n g (p + 1)).2 + 1)).2 = 59))
        (some (sg n g p, (rdN n g (p + 1)).1, (rdN n g ((rdN n g (p + 1)).2 + 1)).1, (rdN n g ((rdN n g (p + 1)).2 + 1)).2 + 1)) none) none)
    (cond (oneB (sg n g p)) (cond (decide (0 ≤ (rdN n g (p + 1)).1) && decide (sg n g (rdN n g (p + 1)).2 = 59)) (some (sg n g p, (rdN n g (p + 1)).1, 0, (rdN n g (p + 1)).2 + 1)) none) none)

set_option maxHeartbeats 4000000 in
set_option maxRecDepth 100000 in
theorem ct_passesT (X : Cx) {h : Hp} {a b sb n p : Nat} {c : Int32} {g : Nat → Int32} {wd fp fr fc kd fi se : Int32}  (hk : TOk n g) (hp : p < 900) (ht : TxtAt X h b sb n g) (hs : h a = some (ob 5 (scrL wd fp fr fc (nI p) kd fi se))) (he : sg n g p = c) : Ct X mX5_passes 1 0 0 [.ref a, .ref b, .int c] h (Ex (.int 1) (hu h a (ob 5 (scrL wd fp fr fc (nI (p + 1)) kd fi se)))) := by
  unfold scrL at hs
  have hb0 := ht.1
  refine Ct.ofG vX5_passes.1.2.2.1 (Nat.le_of_ble_eq_true rfl) ?_
  show G X RX5 cX5_passes 3 (some .boolean) "passes" (Rm 1 0 0) (Fm X (Ex (.int 1) (hu h a (ob 5 (scrL wd fp fr fc (nI (p + 1)) kd fi se)))) 0 0) 0 0 0 [(0, .ref a), (1, .ref b), (2, .int c)] [] h
  refine g_aload_n dX5_passes_0 (by rfl) (by first | exact isRf_r | exact isRf_n | exact isRf_o | assumption) ?_
  refine g_aload_n dX5_passes_1 (by rfl) (by first | exact isRf_r | exact isRf_n | exact isRf_o | assumption) ?_
  refine g_getf dX5_passes_2 fX5_16 (by first | assumption | (repeat' (first | assumption | exact hu_same | exact Ne.symm (by assumption) | apply hu_n1))) (by rfl) ?_
  refine g_cV1x dX5_passes_5 lX5_54 vX7_signAt (ct_X7_signAt X hk (by omega) ht) (by first | assumption | (repeat' (first | assumption | exact hu_same | exact Ne.symm (by assumption) | apply hu_n1))) rfl ⟨Nat.le_of_ble_eq_true rfl, Nat.le_of_ble_eq_true rfl⟩ (Nat.le_of_ble_eq_true rfl) ⟨Nat.le_of_ble_eq_true rfl, Nat.le_of_ble_eq_true rfl⟩ ?_
  refine g_iload_n dX5_passes_8 (by rfl) ?_
  refine g_icmp_eq (tgt := 14) dX5_passes_9 (by decide) (fun c1 => ?_) (fun c1 => absurd he c1)
  refine g_aload_n dX5_passes_14 (by rfl) (by first | exact isRf_r | exact isRf_n | exact isRf_o | assumption) ?_
  refine g_dup dX5_passes_15 (by rfl) ?_
  refine g_getf dX5_passes_16 fX5_16 (by first | assumption | (repeat' (first | assumption | exact hu_same | exact Ne.symm (by assumption) | apply hu_n1))) (by rfl) ?_
  refine g_iconst (v := 1) dX5_passes_19 (by decide) ?_
  refine g_iadd dX5_passes_20 ?_
  rw [nI_1]
  refine g_putf (ty := .int) dX5_passes_21 fX5_16 (by decide +kernel) (by rfl) (by rfl) (by first | assumption | (repeat' (first | assumption | exact hu_same | exact Ne.symm (by assumption) | apply hu_n1))) (by exact Nat.le_of_ble_eq_true rfl) ?_
  refine g_iconst (v := 1) dX5_passes_24 (by decide) ?_
  refine g_zret dX5_passes_25 rfl (by decide) (Nat.le_refl _) (Nat.le_refl _) ?_
  exact ⟨rfl, rfl⟩

set_option maxHeartbeats 4000000 in
set_option maxRecDepth 100000 in
theorem ct_passesF (X : Cx) {h : Hp} {a b sb n p : Nat} {c : Int32} {g : Nat → Int32} {wd fp fr fc kd fi se : Int32}  (hk : TOk n g) (hp : p < 900) (ht : TxtAt X h b sb n g) (hs : h a = some (ob 5 (scrL wd fp fr fc (nI p) kd fi se))) (he : ¬ sg n g p = c) : Ct X mX5_passes 1 0 0 [.ref a, .ref b, .int c] h (Ex (.int 0) h) := by
  unfold scrL at hs
  have hb0 := ht.1
  refine Ct.ofG vX5_passes.1.2.2.1 (Nat.le_of_ble_eq_true rfl) ?_
  show G X RX5 cX5_passes 3 (some .boolean) "passes" (Rm 1 0 0) (Fm X (Ex (.int 0) h) 0 0) 0 0 0 [(0, .ref a), (1, .ref b), (2, .int c)] [] h
  refine g_aload_n dX5_passes_0 (by rfl) (by first | exact isRf_r | exact isRf_n | exact isRf_o | assumption) ?_
  refine g_aload_n dX5_passes_1 (by rfl) (by first | exact isRf_r | exact isRf_n | exact isRf_o | assumption) ?_
  refine g_getf dX5_passes_2 fX5_16 (by first | assumption | (repeat' (first | assumption | exact hu_same | exact Ne.symm (by assumption) | apply hu_n1))) (by rfl) ?_
  refine g_cV1x dX5_passes_5 lX5_54 vX7_signAt (ct_X7_signAt X hk (by omega) ht) (by first | assumption | (repeat' (first | assumption | exact hu_same | exact Ne.symm (by assumption) | apply hu_n1))) rfl ⟨Nat.le_of_ble_eq_true rfl, Nat.le_of_ble_eq_true rfl⟩ (Nat.le_of_ble_eq_true rfl) ⟨Nat.le_of_ble_eq_true rfl, Nat.le_of_ble_eq_true rfl⟩ ?_
  refine g_iload_n dX5_passes_8 (by rfl) ?_
  refine g_icmp_eq (tgt := 14) dX5_passes_9 (by decide) (fun c1 => absurd c1 he) (fun c1 => ?_)
  refine g_iconst (v := 0) dX5_passes_12 (by decide) ?_
  refine g_zret dX5_passes_13 rfl (by decide) (Nat.le_refl _) (Nat.le_refl _) ?_
  exact ⟨rfl, rfl⟩

set_option maxHeartbeats 4000000 in
set_option maxRecDepth 100000 in
theorem ct_readWork100 (X : Cx) {h : Hp} {a b sb n p : Nat} {g : Nat → Int32} {wd fp fr fc kd fi se : Int32}  (hk : TOk n g) (hp : p < 800) (ht : TxtAt X h b sb n g) (hs : h a = some (ob 5 (scrL wd fp fr fc (nI p) kd fi se))) (hkc : sg n g p = 100) : Ct X mX5_readWork 2 0 0 [.ref a, .ref b] h (fun u h1 => u = some (.int (bI (rdW n g p).isSome)) ∧ ∃ pl2 kd2 fi2 se2, h1 a = some (ob 5 (scrL wd fp fr fc pl2 kd2 fi2 se2)) ∧ (∀ k f s p2, rdW n g p = some (k, f, s, p2) → kd2 = k ∧ fi2 = f ∧ se2 = s ∧ pl2 = nI p2) ∧ ∀ q, q ≠ a → h1 q = h q) := by
  unfold scrL at hs
  have hb0 := ht.1
  have nb := ne_ob hb0 hs (by decide)
  have nsb : sb ≠ a := Ne.symm (ne_bc hs ht.2)
  have gn := sg_nar (p := p) hk
  have gf := sg_fit (p := p) hk
  have r1 := rdN_2 (n := n) (p := p + 1) (g := g)
  have r2 := rdN_2 (n := n) (p := (rdN n g (p + 1)).2 + 1) (g := g)
  have tw : twoB (sg n g p) = true := by rw [hkc]; decide
  have on : oneB (sg n g p) = false := by rw [hkc]; decide
  have kf : ∀ (x y z w : Int32) (hh : Hp), (∀ q, q ≠ a → hh q = h q) → ∀ q, q ≠ a → hu hh a (ob 5 (scrL wd fp fr fc x y z w)) q = h q := fun x y z w hh e q q1 => (hu_ne q1).trans (e q q1)
  refine Ct.ofG vX5_readWork.1.2.2.1 (Nat.le_of_ble_eq_true rfl) ?_
  show G X RX5 cX5_readWork 3 (some .boolean) "readWork" (Rm 2 0 0) (Fm X (fun u h1 => u = some (.int (bI (rdW n g p).isSome)) ∧ ∃ pl2 kd2 fi2 se2, h1 a = some (ob 5 (scrL wd fp fr fc pl2 kd2 fi2 se2)) ∧ (∀ k f s p2, rdW n g p = some (k, f, s, p2) → kd2 = k ∧ fi2 = f ∧ se2 = s ∧ pl2 = nI p2) ∧ ∀ q, q ≠ a → h1 q = h q) 0 0) 0 0 0 [(0, .ref a), (1, .ref b)] [] h
  refine g_aload_n dX5_readWork_0 (by rfl) (by first | exact isRf_r | exact isRf_n | exact isRf_o | assumption) ?_
  refine g_aload_n dX5_readWork_1 (by rfl) (by first | exact isRf_r | exact isRf_n | exact isRf_o | assumption) ?_
  refine g_aload_n dX5_readWork_2 (by rfl) (by first | exact isRf_r | exact isRf_n | exact isRf_o | assumption) ?_
  refine g_getf dX5_readWork_3 fX5_16 (by first | assumption | (repeat' (first | assumption | exact hu_same | exact Ne.symm (by assumption) | apply hu_n1))) (by rfl) ?_
  refine g_cV1x dX5_readWork_6 lX5_54 vX7_signAt (ct_X7_signAt X hk (by omega) ht) (by first | assumption | (repeat' (first | assumption | exact hu_same | exact Ne.symm (by assumption) | apply hu_n1))) rfl ⟨Nat.le_of_ble_eq_true rfl, Nat.le_of_ble_eq_true rfl⟩ (Nat.le_of_ble_eq_true rfl) ⟨Nat.le_of_ble_eq_true rfl, Nat.le_of_ble_eq_true rfl⟩ ?_
  refine g_putf (ty := .char) dX5_readWork_9 fX5_32 (by decide +kernel) gn gf (by first | assumption | (repeat' (first | assumption | exact hu_same | exact Ne.symm (by assumption) | apply hu_n1))) (by exact Nat.le_of_ble_eq_true rfl) ?_
  refine g_aload_n dX5_readWork_12 (by rfl) (by first | exact isRf_r | exact isRf_n | exact isRf_o | assumption) ?_
  refine g_getf dX5_readWork_13 fX5_32 (by first | assumption | (repeat' (first | assumption | exact hu_same | exact Ne.symm (by assumption) | apply hu_n1))) (by rfl) ?_
  refine g_bipush (v := 100) dX5_readWork_16 (by decide) ?_
  refine g_icmp_eq (tgt := 39) dX5_readWork_18 (by decide) (fun c1 => ?_) (fun c1 => absurd hkc c1)
  refine g_iconst (v := 1) dX5_readWork_39 (by decide) ?_
  refine g_goto (tgt := 44) dX5_readWork_40 (by decide) ?_
  refine g_istore_n (L1 := [(0, _), (1, _), (2, _)]) dX5_readWork_44 (by decide) (by rfl) ?_
  refine g_iload_n dX5_readWork_45 (by rfl) ?_
  refine g_if_ne (tgt := 78) dX5_readWork_46 (by decide) (fun c2 => ?_) (fun c2 => absurd c2 (by decide))
  refine g_aload_n dX5_readWork_78 (by rfl) (by first | exact isRf_r | exact isRf_n | exact isRf_o | assumption) ?_
  refine g_dup dX5_readWork_79 (by rfl) ?_
  refine g_getf dX5_readWork_80 fX5_16 (by first | assumption | (repeat' (first | assumption | exact hu_same | exact Ne.symm (by assumption) | apply hu_n1))) (by rfl) ?_
  refine g_iconst (v := 1) dX5_readWork_83 (by decide) ?_
  refine g_iadd dX5_readWork_84 ?_
  refine g_putf (ty := .int) dX5_readWork_85 fX5_16 (by decide +kernel) (by rfl) (by rfl) (by first | assumption | (repeat' (first | assumption | exact hu_same | exact Ne.symm (by assumption) | apply hu_n1))) (by exact Nat.le_of_ble_eq_true rfl) ?_
  refine g_gen (fun h1 e1 => ?_)
  have fr1 : ∀ q, q ≠ a → h1 q = h q := fun q q1 => by rw [e1]; simp only [hu_ne q1]
  have tx1 : TxtAt X h1 b sb n g := ⟨(fr1 b nb).trans ht.1, (fr1 sb nsb).trans ht.2⟩
  have hb1 := tx1.1
  have k1 : h1 a = some (ob 5 (scrL wd fp fr fc (nI (p + 1)) (sg n g p) fi se)) := by
    rw [e1, ← nI_1]
    exact hu_same
  unfold scrL at k1
  refine g_aload_n dX5_readWork_88 (by rfl) (by first | exact isRf_r | exact isRf_n | exact isRf_o | assumption) ?_
  refine g_aload_n dX5_readWork_89 (by rfl) (by first | exact isRf_r | exact isRf_n | exact isRf_o | assumption) ?_
  refine g_aload_n dX5_readWork_90 (by rfl) (by first | exact isRf_r | exact isRf_n | exact isRf_o | assumption) ?_
  refine g_cV1x dX5_readWork_91 lX5_58 vX5_readNumber (ct_X5_readNumber X hk (by omega) tx1 k1) (by first | assumption | (repeat' (first | assumption | exact hu_same | exact Ne.symm (by assumption) | apply hu_n1))) rfl ⟨Nat.le_of_ble_eq_true rfl, Nat.le_of_ble_eq_true rfl⟩ (Nat.le_of_ble_eq_true rfl) ⟨Nat.le_of_ble_eq_true rfl, Nat.le_of_ble_eq_true rfl⟩ ?_
  refine g_putf (ty := .int) dX5_readWork_94 fX5_36 (by decide +kernel) (by rfl) (by rfl) (by first | assumption | (repeat' (first | assumption | exact hu_same | exact Ne.symm (by assumption) | apply hu_n1))) (by exact Nat.le_of_ble_eq_true rfl) ?_
  refine g_aload_n dX5_readWork_97 (by rfl) (by first | exact isRf_r | exact isRf_n | exact isRf_o | assumption) ?_
  refine g_iconst (v := 0) dX5_readWork_98 (by decide) ?_
  refine g_putf (ty := .int) dX5_readWork_99 fX5_39 (by decide +kernel) (by rfl) (by rfl) (by first | assumption | (repeat' (first | assumption | exact hu_same | exact Ne.symm (by assumption) | apply hu_n1))) (by exact Nat.le_of_ble_eq_true rfl) ?_
  refine g_gen (fun h2 e2 => ?_)
  have fr2 : ∀ q, q ≠ a → h2 q = h q := fun q q1 => by
    rw [e2]
    simp only [hu_ne q1]
    exact fr1 q q1
  have tx2 : TxtAt X h2 b sb n g := ⟨(fr2 b nb).trans ht.1, (fr2 sb nsb).trans ht.2⟩
  have hb2 := tx2.1
  have k2 : h2 a = some (ob 5 (scrL wd fp fr fc (nI (rdN n g (p + 1)).2) (sg n g p) (rdN n g (p + 1)).1 0)) := by
    rw [e2]
    exact hu_same
  unfold scrL at k2
  refine g_aload_n dX5_readWork_102 (by rfl) (by first | exact isRf_r | exact isRf_n | exact isRf_o | assumption) ?_
  refine g_getf dX5_readWork_103 fX5_36 (by first | assumption | (repeat' (first | assumption | exact hu_same | exact Ne.symm (by assumption) | apply hu_n1))) (by rfl) ?_
  refine g_if_ge (tgt := 111) dX5_readWork_106 (by decide) (fun c3 => ?_) (fun c3 => ?_)
  · skip
    have hq1 := c3
    refine g_iload_n dX5_readWork_111 (by rfl) ?_
    refine g_if_eq (tgt := 136) dX5_readWork_112 (by decide) (fun c4 => absurd c4 (by decide)) (fun c4 => ?_)
    refine g_aload_n dX5_readWork_115 (by rfl) (by first | exact isRf_r | exact isRf_n | exact isRf_o | assumption) ?_
    refine g_aload_n dX5_readWork_116 (by rfl) (by first | exact isRf_r | exact isRf_n | exact isRf_o | assumption) ?_
    refine g_bipush (v := 44) dX5_readWork_117 (by decide) ?_
    by_cases hc44 : sg n g (rdN n g (p + 1)).2 = 44
    · skip
      refine g_cV2x dX5_readWork_119 lX5_62 vX5_passes (ct_passesT X (p := (rdN n g (p + 1)).2) hk (by omega) tx2 k2 hc44) (by first | assumption | (repeat' (first | assumption | exact hu_same | exact Ne.symm (by assumption) | apply hu_n1))) rfl ⟨Nat.le_of_ble_eq_true rfl, Nat.le_of_ble_eq_true rfl⟩ (Nat.le_of_ble_eq_true rfl) ⟨Nat.le_of_ble_eq_true rfl, Nat.le_of_ble_eq_true rfl⟩ ?_
      refine g_gen (fun h25 e25 => ?_)
      have fr25 : ∀ q, q ≠ a → h25 q = h q := fun q q1 => by
        rw [e25]
        simp only [hu_ne q1]
        exact fr2 q q1
      have tx25 : TxtAt X h25 b sb n g := ⟨(fr25 b nb).trans ht.1, (fr25 sb nsb).trans ht.2⟩
      have hb25 := tx25.1
      have k25 : h25 a = some (ob 5 (scrL wd fp fr fc (nI ((rdN n g (p + 1)).2 + 1)) (sg n g p) (rdN n g (p + 1)).1 0)) := by
        rw [e25]
        exact hu_same
      unfold scrL at k25
      refine g_if_ne (tgt := 127) dX5_readWork_122 (by decide) (fun c5 => ?_) (fun c5 => absurd c5 (by decide))
      refine g_aload_n dX5_readWork_127 (by rfl) (by first | exact isRf_r | exact isRf_n | exact isRf_o | assumption) ?_
      refine g_aload_n dX5_readWork_128 (by rfl) (by first | exact isRf_r | exact isRf_n | exact isRf_o | assumption) ?_
      refine g_aload_n dX5_readWork_129 (by rfl) (by first | exact isRf_r | exact isRf_n | exact isRf_o | assumption) ?_
      refine g_cV1x dX5_readWork_130 lX5_58 vX5_readNumber (ct_X5_readNumber X hk (by omega) tx25 k25) (by first | assumption | (repeat' (first | assumption | exact hu_same | exact Ne.symm (by assumption) | apply hu_n1))) rfl ⟨Nat.le_of_ble_eq_true rfl, Nat.le_of_ble_eq_true rfl⟩ (Nat.le_of_ble_eq_true rfl) ⟨Nat.le_of_ble_eq_true rfl, Nat.le_of_ble_eq_true rfl⟩ ?_
      refine g_putf (ty := .int) dX5_readWork_133 fX5_39 (by decide +kernel) (by rfl) (by rfl) (by first | assumption | (repeat' (first | assumption | exact hu_same | exact Ne.symm (by assumption) | apply hu_n1))) (by exact Nat.le_of_ble_eq_true rfl) ?_
      refine g_gen (fun h3 e3 => ?_)
      have fr3 : ∀ q, q ≠ a → h3 q = h q := fun q q1 => by
        rw [e3]
        simp only [hu_ne q1]
        exact fr25 q q1
      have tx3 : TxtAt X h3 b sb n g := ⟨(fr3 b nb).trans ht.1, (fr3 sb nsb).trans ht.2⟩
      have hb3 := tx3.1
      have k3 : h3 a = some (ob 5 (scrL wd fp fr fc (nI (rdN n g ((rdN n g (p + 1)).2 + 1)).2) (sg n g p) (rdN n g (p + 1)).1 (rdN n g ((rdN n g (p + 1)).2 + 1)).1)) := by
        rw [e3]
        exact hu_same
      unfold scrL at k3
      refine g_aload_n dX5_readWork_136 (by rfl) (by first | exact isRf_r | exact isRf_n | exact isRf_o | assumption) ?_
      refine g_getf dX5_readWork_137 fX5_39 (by first | assumption | (repeat' (first | assumption | exact hu_same | exact Ne.symm (by assumption) | apply hu_n1))) (by rfl) ?_
      refine g_if_lt (tgt := 157) dX5_readWork_140 (by decide) (fun c6 => ?_) (fun c6 => ?_)
      · skip
        have hq2 : ¬ 0 ≤ (rdN n g ((rdN n g (p + 1)).2 + 1)).1 := i_nle c6
        refine g_iconst (v := 0) dX5_readWork_157 (by decide) ?_
        refine g_zret dX5_readWork_158 rfl (by decide) (Nat.le_refl _) (Nat.le_refl _) ?_
        first
          | (have hr : rdW n g p = none := by
               unfold rdW
               rw [tw, decide_eq_true hq1, decide_eq_true hc44, decide_eq_false hq2]
               rfl
             rw [hr]
             exact ⟨rfl, _, _, _, _, k3, fun k f s p2 z => (nomatch z), fr3⟩)
          | (have hr : rdW n g p = none := by
               unfold rdW
               rw [tw, decide_eq_true hq1, decide_eq_true hc44, decide_eq_true hq2, decide_eq_false hc59]
               rfl
             rw [hr]
             exact ⟨rfl, _, _, _, _, k3, fun k f s p2 z => (nomatch z), fr3⟩)
          | (have hr : rdW n g p = some (sg n g p, (rdN n g (p + 1)).1, (rdN n g ((rdN n g (p + 1)).2 + 1)).1, (rdN n g ((rdN n g (p + 1)).2 + 1)).2 + 1) := by
               unfold rdW
               rw [tw, decide_eq_true hq1, decide_eq_true hc44, decide_eq_true hq2, decide_eq_true hc59]
               rfl
             rw [hr]
             refine ⟨rfl, _, _, _, _, hu_same, fun k f s p2 z => ?_, fun q q1 => (hu_ne q1).trans (fr3 q q1)⟩
             cases z
             exact ⟨rfl, rfl, rfl, rfl⟩)
      · skip
        have hq2 : 0 ≤ (rdN n g ((rdN n g (p + 1)).2 + 1)).1 := i_nlt c6
        refine g_aload_n dX5_readWork_143 (by rfl) (by first | exact isRf_r | exact isRf_n | exact isRf_o | assumption) ?_
        refine g_aload_n dX5_readWork_144 (by rfl) (by first | exact isRf_r | exact isRf_n | exact isRf_o | assumption) ?_
        refine g_bipush (v := 59) dX5_readWork_145 (by decide) ?_
        by_cases hc59 : sg n g (rdN n g ((rdN n g (p + 1)).2 + 1)).2 = 59
        · skip
          refine g_cV2x dX5_readWork_147 lX5_62 vX5_passes (ct_passesT X (p := (rdN n g ((rdN n g (p + 1)).2 + 1)).2) hk (by omega) tx3 k3 hc59) (by first | assumption | (repeat' (first | assumption | exact hu_same | exact Ne.symm (by assumption) | apply hu_n1))) rfl ⟨Nat.le_of_ble_eq_true rfl, Nat.le_of_ble_eq_true rfl⟩ (Nat.le_of_ble_eq_true rfl) ⟨Nat.le_of_ble_eq_true rfl, Nat.le_of_ble_eq_true rfl⟩ ?_
          refine g_if_eq (tgt := 157) dX5_readWork_150 (by decide) (fun c7 => absurd c7 (by decide)) (fun c7 => ?_)
          refine g_iconst (v := 1) dX5_readWork_153 (by decide) ?_
          refine g_goto (tgt := 158) dX5_readWork_154 (by decide) ?_
          refine g_zret dX5_readWork_158 rfl (by decide) (Nat.le_refl _) (Nat.le_refl _) ?_
          first
            | (have hr : rdW n g p = none := by
                 unfold rdW
                 rw [tw, decide_eq_true hq1, decide_eq_true hc44, decide_eq_false hq2]
                 rfl
               rw [hr]
               exact ⟨rfl, _, _, _, _, k3, fun k f s p2 z => (nomatch z), fr3⟩)
            | (have hr : rdW n g p = none := by
                 unfold rdW
                 rw [tw, decide_eq_true hq1, decide_eq_true hc44, decide_eq_true hq2, decide_eq_false hc59]
                 rfl
               rw [hr]
               exact ⟨rfl, _, _, _, _, k3, fun k f s p2 z => (nomatch z), fr3⟩)
            | (have hr : rdW n g p = some (sg n g p, (rdN n g (p + 1)).1, (rdN n g ((rdN n g (p + 1)).2 + 1)).1, (rdN n g ((rdN n g (p + 1)).2 + 1)).2 + 1) := by
                 unfold rdW
                 rw [tw, decide_eq_true hq1, decide_eq_true hc44, decide_eq_true hq2, decide_eq_true hc59]
                 rfl
               rw [hr]
               refine ⟨rfl, _, _, _, _, hu_same, fun k f s p2 z => ?_, fun q q1 => (hu_ne q1).trans (fr3 q q1)⟩
               cases z
               exact ⟨rfl, rfl, rfl, rfl⟩)
        · skip
          refine g_cV2x dX5_readWork_147 lX5_62 vX5_passes (ct_passesF X (p := (rdN n g ((rdN n g (p + 1)).2 + 1)).2) hk (by omega) tx3 k3 hc59) (by first | assumption | (repeat' (first | assumption | exact hu_same | exact Ne.symm (by assumption) | apply hu_n1))) rfl ⟨Nat.le_of_ble_eq_true rfl, Nat.le_of_ble_eq_true rfl⟩ (Nat.le_of_ble_eq_true rfl) ⟨Nat.le_of_ble_eq_true rfl, Nat.le_of_ble_eq_true rfl⟩ ?_
          refine g_if_eq (tgt := 157) dX5_readWork_150 (by decide) (fun c8 => ?_) (fun c8 => absurd (by decide) c8)
          refine g_iconst (v := 0) dX5_readWork_157 (by decide) ?_
          refine g_zret dX5_readWork_158 rfl (by decide) (Nat.le_refl _) (Nat.le_refl _) ?_
          first
            | (have hr : rdW n g p = none := by
                 unfold rdW
                 rw [tw, decide_eq_true hq1, decide_eq_true hc44, decide_eq_false hq2]
                 rfl
               rw [hr]
               exact ⟨rfl, _, _, _, _, k3, fun k f s p2 z => (nomatch z), fr3⟩)
            | (have hr : rdW n g p = none := by
                 unfold rdW
                 rw [tw, decide_eq_true hq1, decide_eq_true hc44, decide_eq_true hq2, decide_eq_false hc59]
                 rfl
               rw [hr]
               exact ⟨rfl, _, _, _, _, k3, fun k f s p2 z => (nomatch z), fr3⟩)
            | (have hr : rdW n g p = some (sg n g p, (rdN n g (p + 1)).1, (rdN n g ((rdN n g (p + 1)).2 + 1)).1, (rdN n g ((rdN n g (p + 1)).2 + 1)).2 + 1) := by
                 unfold rdW
                 rw [tw, decide_eq_true hq1, decide_eq_true hc44, decide_eq_true hq2, decide_eq_true hc59]
                 rfl
               rw [hr]
               refine ⟨rfl, _, _, _, _, hu_same, fun k f s p2 z => ?_, fun q q1 => (hu_ne q1).trans (fr3 q q1)⟩
               cases z
               exact ⟨rfl, rfl, rfl, rfl⟩)
    · skip
      refine g_cV2x dX5_readWork_119 lX5_62 vX5_passes (ct_passesF X (p := (rdN n g (p + 1)).2) hk (by omega) tx2 k2 hc44) (by first | assumption | (repeat' (first | assumption | exact hu_same | exact Ne.symm (by assumption) | apply hu_n1))) rfl ⟨Nat.le_of_ble_eq_true rfl, Nat.le_of_ble_eq_true rfl⟩ (Nat.le_of_ble_eq_true rfl) ⟨Nat.le_of_ble_eq_true rfl, Nat.le_of_ble_eq_true rfl⟩ ?_
      refine g_if_ne (tgt := 127) dX5_readWork_122 (by decide) (fun c9 => absurd rfl c9) (fun c9 => ?_)
      refine g_iconst (v := 0) dX5_readWork_125 (by decide) ?_
      refine g_zret dX5_readWork_126 rfl (by decide) (Nat.le_refl _) (Nat.le_refl _) ?_
      have hr : rdW n g p = none := by
        unfold rdW
        rw [tw, decide_eq_true hq1, decide_eq_false hc44]
        rfl
      rw [hr]
      exact ⟨rfl, _, _, _, _, k2, fun k f s p2 z => (nomatch z), fr2⟩
  · skip
    have hq1 := c3
    refine g_iconst (v := 0) dX5_readWork_109 (by decide) ?_
    refine g_zret dX5_readWork_110 rfl (by decide) (Nat.le_refl _) (Nat.le_refl _) ?_
    have hr : rdW n g p = none := by
      unfold rdW
      rw [tw, decide_eq_false hq1]
      rfl
    rw [hr]
    exact ⟨rfl, _, _, _, _, k2, fun k f s p2 z => (nomatch z), fr2⟩

set_option maxHeartbeats 4000000 in
set_option maxRecDepth 100000 in
theorem ct_readWork104 (X : Cx) {h : Hp} {a b sb n p : Nat} {g : Nat → Int32} {wd fp fr fc kd fi se : Int32}  (hk : TOk n g) (hp : p < 800) (ht : TxtAt X h b sb n g) (hs : h a = some (ob 5 (scrL wd fp fr fc (nI p) kd fi se))) (hkc : sg n g p = 104) : Ct X mX5_readWork 2 0 0 [.ref a, .ref b] h (fun u h1 => u = some (.int (bI (rdW n g p).isSome)) ∧ ∃ pl2 kd2 fi2 se2, h1 a = some (ob 5 (scrL wd fp fr fc pl2 kd2 fi2 se2)) ∧ (∀ k f s p2, rdW n g p = some (k, f, s, p2) → kd2 = k ∧ fi2 = f ∧ se2 = s ∧ pl2 = nI p2) ∧ ∀ q, q ≠ a → h1 q = h q) := by
  unfold scrL at hs
  have hb0 := ht.1
  have nb := ne_ob hb0 hs (by decide)
  have nsb : sb ≠ a := Ne.symm (ne_bc hs ht.2)
  have gn := sg_nar (p := p) hk
  have gf := sg_fit (p := p) hk
  have r1 := rdN_2 (n := n) (p := p + 1) (g := g)
  have r2 := rdN_2 (n := n) (p := (rdN n g (p + 1)).2 + 1) (g := g)
  have tw : twoB (sg n g p) = true := by rw [hkc]; decide
  have on : oneB (sg n g p) = false := by rw [hkc]; decide
  have kf : ∀ (x y z w : Int32) (hh : Hp), (∀ q, q ≠ a → hh q = h q) → ∀ q, q ≠ a → hu hh a (ob 5 (scrL wd fp fr fc x y z w)) q = h q := fun x y z w hh e q q1 => (hu_ne q1).trans (e q q1)
  refine Ct.ofG vX5_readWork.1.2.2.1 (Nat.le_of_ble_eq_true rfl) ?_
  show G X RX5 cX5_readWork 3 (some .boolean) "readWork" (Rm 2 0 0) (Fm X (fun u h1 => u = some (.int (bI (rdW n g p).isSome)) ∧ ∃ pl2 kd2 fi2 se2, h1 a = some (ob 5 (scrL wd fp fr fc pl2 kd2 fi2 se2)) ∧ (∀ k f s p2, rdW n g p = some (k, f, s, p2) → kd2 = k ∧ fi2 = f ∧ se2 = s ∧ pl2 = nI p2) ∧ ∀ q, q ≠ a → h1 q = h q) 0 0) 0 0 0 [(0, .ref a), (1, .ref b)] [] h
  refine g_aload_n dX5_readWork_0 (by rfl) (by first | exact isRf_r | exact isRf_n | exact isRf_o | assumption) ?_
  refine g_aload_n dX5_readWork_1 (by rfl) (by first | exact isRf_r | exact isRf_n | exact isRf_o | assumption) ?_
  refine g_aload_n dX5_readWork_2 (by rfl) (by first | exact isRf_r | exact isRf_n | exact isRf_o | assumption) ?_
  refine g_getf dX5_readWork_3 fX5_16 (by first | assumption | (repeat' (first | assumption | exact hu_same | exact Ne.symm (by assumption) | apply hu_n1))) (by rfl) ?_
  refine g_cV1x dX5_readWork_6 lX5_54 vX7_signAt (ct_X7_signAt X hk (by omega) ht) (by first | assumption | (repeat' (first | assumption | exact hu_same | exact Ne.symm (by assumption) | apply hu_n1))) rfl ⟨Nat.le_of_ble_eq_true rfl, Nat.le_of_ble_eq_true rfl⟩ (Nat.le_of_ble_eq_true rfl) ⟨Nat.le_of_ble_eq_true rfl, Nat.le_of_ble_eq_true rfl⟩ ?_
  refine g_putf (ty := .char) dX5_readWork_9 fX5_32 (by decide +kernel) gn gf (by first | assumption | (repeat' (first | assumption | exact hu_same | exact Ne.symm (by assumption) | apply hu_n1))) (by exact Nat.le_of_ble_eq_true rfl) ?_
  refine g_aload_n dX5_readWork_12 (by rfl) (by first | exact isRf_r | exact isRf_n | exact isRf_o | assumption) ?_
  refine g_getf dX5_readWork_13 fX5_32 (by first | assumption | (repeat' (first | assumption | exact hu_same | exact Ne.symm (by assumption) | apply hu_n1))) (by rfl) ?_
  refine g_bipush (v := 100) dX5_readWork_16 (by decide) ?_
  refine g_icmp_eq (tgt := 39) dX5_readWork_18 (by decide) (fun c1 => absurd (hkc.symm.trans c1) (by decide)) (fun c1 => ?_)
  refine g_aload_n dX5_readWork_21 (by rfl) (by first | exact isRf_r | exact isRf_n | exact isRf_o | assumption) ?_
  refine g_getf dX5_readWork_22 fX5_32 (by first | assumption | (repeat' (first | assumption | exact hu_same | exact Ne.symm (by assumption) | apply hu_n1))) (by rfl) ?_
  refine g_bipush (v := 104) dX5_readWork_25 (by decide) ?_
  refine g_icmp_eq (tgt := 39) dX5_readWork_27 (by decide) (fun c2 => ?_) (fun c2 => absurd hkc c2)
  refine g_iconst (v := 1) dX5_readWork_39 (by decide) ?_
  refine g_goto (tgt := 44) dX5_readWork_40 (by decide) ?_
  refine g_istore_n (L1 := [(0, _), (1, _), (2, _)]) dX5_readWork_44 (by decide) (by rfl) ?_
  refine g_iload_n dX5_readWork_45 (by rfl) ?_
  refine g_if_ne (tgt := 78) dX5_readWork_46 (by decide) (fun c3 => ?_) (fun c3 => absurd c3 (by decide))
  refine g_aload_n dX5_readWork_78 (by rfl) (by first | exact isRf_r | exact isRf_n | exact isRf_o | assumption) ?_
  refine g_dup dX5_readWork_79 (by rfl) ?_
  refine g_getf dX5_readWork_80 fX5_16 (by first | assumption | (repeat' (first | assumption | exact hu_same | exact Ne.symm (by assumption) | apply hu_n1))) (by rfl) ?_
  refine g_iconst (v := 1) dX5_readWork_83 (by decide) ?_
  refine g_iadd dX5_readWork_84 ?_
  refine g_putf (ty := .int) dX5_readWork_85 fX5_16 (by decide +kernel) (by rfl) (by rfl) (by first | assumption | (repeat' (first | assumption | exact hu_same | exact Ne.symm (by assumption) | apply hu_n1))) (by exact Nat.le_of_ble_eq_true rfl) ?_
  refine g_gen (fun h1 e1 => ?_)
  have fr1 : ∀ q, q ≠ a → h1 q = h q := fun q q1 => by rw [e1]; simp only [hu_ne q1]
  have tx1 : TxtAt X h1 b sb n g := ⟨(fr1 b nb).trans ht.1, (fr1 sb nsb).trans ht.2⟩
  have hb1 := tx1.1
  have k1 : h1 a = some (ob 5 (scrL wd fp fr fc (nI (p + 1)) (sg n g p) fi se)) := by
    rw [e1, ← nI_1]
    exact hu_same
  unfold scrL at k1
  refine g_aload_n dX5_readWork_88 (by rfl) (by first | exact isRf_r | exact isRf_n | exact isRf_o | assumption) ?_
  refine g_aload_n dX5_readWork_89 (by rfl) (by first | exact isRf_r | exact isRf_n | exact isRf_o | assumption) ?_
  refine g_aload_n dX5_readWork_90 (by rfl) (by first | exact isRf_r | exact isRf_n | exact isRf_o | assumption) ?_
  refine g_cV1x dX5_readWork_91 lX5_58 vX5_readNumber (ct_X5_readNumber X hk (by omega) tx1 k1) (by first | assumption | (repeat' (first | assumption | exact hu_same | exact Ne.symm (by assumption) | apply hu_n1))) rfl ⟨Nat.le_of_ble_eq_true rfl, Nat.le_of_ble_eq_true rfl⟩ (Nat.le_of_ble_eq_true rfl) ⟨Nat.le_of_ble_eq_true rfl, Nat.le_of_ble_eq_true rfl⟩ ?_
  refine g_putf (ty := .int) dX5_readWork_94 fX5_36 (by decide +kernel) (by rfl) (by rfl) (by first | assumption | (repeat' (first | assumption | exact hu_same | exact Ne.symm (by assumption) | apply hu_n1))) (by exact Nat.le_of_ble_eq_true rfl) ?_
  refine g_aload_n dX5_readWork_97 (by rfl) (by first | exact isRf_r | exact isRf_n | exact isRf_o | assumption) ?_
  refine g_iconst (v := 0) dX5_readWork_98 (by decide) ?_
  refine g_putf (ty := .int) dX5_readWork_99 fX5_39 (by decide +kernel) (by rfl) (by rfl) (by first | assumption | (repeat' (first | assumption | exact hu_same | exact Ne.symm (by assumption) | apply hu_n1))) (by exact Nat.le_of_ble_eq_true rfl) ?_
  refine g_gen (fun h2 e2 => ?_)
  have fr2 : ∀ q, q ≠ a → h2 q = h q := fun q q1 => by
    rw [e2]
    simp only [hu_ne q1]
    exact fr1 q q1
  have tx2 : TxtAt X h2 b sb n g := ⟨(fr2 b nb).trans ht.1, (fr2 sb nsb).trans ht.2⟩
  have hb2 := tx2.1
  have k2 : h2 a = some (ob 5 (scrL wd fp fr fc (nI (rdN n g (p + 1)).2) (sg n g p) (rdN n g (p + 1)).1 0)) := by
    rw [e2]
    exact hu_same
  unfold scrL at k2
  refine g_aload_n dX5_readWork_102 (by rfl) (by first | exact isRf_r | exact isRf_n | exact isRf_o | assumption) ?_
  refine g_getf dX5_readWork_103 fX5_36 (by first | assumption | (repeat' (first | assumption | exact hu_same | exact Ne.symm (by assumption) | apply hu_n1))) (by rfl) ?_
  refine g_if_ge (tgt := 111) dX5_readWork_106 (by decide) (fun c4 => ?_) (fun c4 => ?_)
  · skip
    have hq1 := c4
    refine g_iload_n dX5_readWork_111 (by rfl) ?_
    refine g_if_eq (tgt := 136) dX5_readWork_112 (by decide) (fun c5 => absurd c5 (by decide)) (fun c5 => ?_)
    refine g_aload_n dX5_readWork_115 (by rfl) (by first | exact isRf_r | exact isRf_n | exact isRf_o | assumption) ?_
    refine g_aload_n dX5_readWork_116 (by rfl) (by first | exact isRf_r | exact isRf_n | exact isRf_o | assumption) ?_
    refine g_bipush (v := 44) dX5_readWork_117 (by decide) ?_
    by_cases hc44 : sg n g (rdN n g (p + 1)).2 = 44
    · skip
      refine g_cV2x dX5_readWork_119 lX5_62 vX5_passes (ct_passesT X (p := (rdN n g (p + 1)).2) hk (by omega) tx2 k2 hc44) (by first | assumption | (repeat' (first | assumption | exact hu_same | exact Ne.symm (by assumption) | apply hu_n1))) rfl ⟨Nat.le_of_ble_eq_true rfl, Nat.le_of_ble_eq_true rfl⟩ (Nat.le_of_ble_eq_true rfl) ⟨Nat.le_of_ble_eq_true rfl, Nat.le_of_ble_eq_true rfl⟩ ?_
      refine g_gen (fun h25 e25 => ?_)
      have fr25 : ∀ q, q ≠ a → h25 q = h q := fun q q1 => by
        rw [e25]
        simp only [hu_ne q1]
        exact fr2 q q1
      have tx25 : TxtAt X h25 b sb n g := ⟨(fr25 b nb).trans ht.1, (fr25 sb nsb).trans ht.2⟩
      have hb25 := tx25.1
      have k25 : h25 a = some (ob 5 (scrL wd fp fr fc (nI ((rdN n g (p + 1)).2 + 1)) (sg n g p) (rdN n g (p + 1)).1 0)) := by
        rw [e25]
        exact hu_same
      unfold scrL at k25
      refine g_if_ne (tgt := 127) dX5_readWork_122 (by decide) (fun c6 => ?_) (fun c6 => absurd c6 (by decide))
      refine g_aload_n dX5_readWork_127 (by rfl) (by first | exact isRf_r | exact isRf_n | exact isRf_o | assumption) ?_
      refine g_aload_n dX5_readWork_128 (by rfl) (by first | exact isRf_r | exact isRf_n | exact isRf_o | assumption) ?_
      refine g_aload_n dX5_readWork_129 (by rfl) (by first | exact isRf_r | exact isRf_n | exact isRf_o | assumption) ?_
      refine g_cV1x dX5_readWork_130 lX5_58 vX5_readNumber (ct_X5_readNumber X hk (by omega) tx25 k25) (by first | assumption | (repeat' (first | assumption | exact hu_same | exact Ne.symm (by assumption) | apply hu_n1))) rfl ⟨Nat.le_of_ble_eq_true rfl, Nat.le_of_ble_eq_true rfl⟩ (Nat.le_of_ble_eq_true rfl) ⟨Nat.le_of_ble_eq_true rfl, Nat.le_of_ble_eq_true rfl⟩ ?_
      refine g_putf (ty := .int) dX5_readWork_133 fX5_39 (by decide +kernel) (by rfl) (by rfl) (by first | assumption | (repeat' (first | assumption | exact hu_same | exact Ne.symm (by assumption) | apply hu_n1))) (by exact Nat.le_of_ble_eq_true rfl) ?_
      refine g_gen (fun h3 e3 => ?_)
      have fr3 : ∀ q, q ≠ a → h3 q = h q := fun q q1 => by
        rw [e3]
        simp only [hu_ne q1]
        exact fr25 q q1
      have tx3 : TxtAt X h3 b sb n g := ⟨(fr3 b nb).trans ht.1, (fr3 sb nsb).trans ht.2⟩
      have hb3 := tx3.1
      have k3 : h3 a = some (ob 5 (scrL wd fp fr fc (nI (rdN n g ((rdN n g (p + 1)).2 + 1)).2) (sg n g p) (rdN n g (p + 1)).1 (rdN n g ((rdN n g (p + 1)).2 + 1)).1)) := by
        rw [e3]
        exact hu_same
      unfold scrL at k3
      refine g_aload_n dX5_readWork_136 (by rfl) (by first | exact isRf_r | exact isRf_n | exact isRf_o | assumption) ?_
      refine g_getf dX5_readWork_137 fX5_39 (by first | assumption | (repeat' (first | assumption | exact hu_same | exact Ne.symm (by assumption) | apply hu_n1))) (by rfl) ?_
      refine g_if_lt (tgt := 157) dX5_readWork_140 (by decide) (fun c7 => ?_) (fun c7 => ?_)
      · skip
        have hq2 : ¬ 0 ≤ (rdN n g ((rdN n g (p + 1)).2 + 1)).1 := i_nle c7
        refine g_iconst (v := 0) dX5_readWork_157 (by decide) ?_
        refine g_zret dX5_readWork_158 rfl (by decide) (Nat.le_refl _) (Nat.le_refl _) ?_
        first
          | (have hr : rdW n g p = none := by
               unfold rdW
               rw [tw, decide_eq_true hq1, decide_eq_true hc44, decide_eq_false hq2]
               rfl
             rw [hr]
             exact ⟨rfl, _, _, _, _, k3, fun k f s p2 z => (nomatch z), fr3⟩)
          | (have hr : rdW n g p = none := by
               unfold rdW
               rw [tw, decide_eq_true hq1, decide_eq_true hc44, decide_eq_true hq2, decide_eq_false hc59]
               rfl
             rw [hr]
             exact ⟨rfl, _, _, _, _, k3, fun k f s p2 z => (nomatch z), fr3⟩)
          | (have hr : rdW n g p = some (sg n g p, (rdN n g (p + 1)).1, (rdN n g ((rdN n g (p + 1)).2 + 1)).1, (rdN n g ((rdN n g (p + 1)).2 + 1)).2 + 1) := by
               unfold rdW
               rw [tw, decide_eq_true hq1, decide_eq_true hc44, decide_eq_true hq2, decide_eq_true hc59]
               rfl
             rw [hr]
             refine ⟨rfl, _, _, _, _, hu_same, fun k f s p2 z => ?_, fun q q1 => (hu_ne q1).trans (fr3 q q1)⟩
             cases z
             exact ⟨rfl, rfl, rfl, rfl⟩)
      · skip
        have hq2 : 0 ≤ (rdN n g ((rdN n g (p + 1)).2 + 1)).1 := i_nlt c7
        refine g_aload_n dX5_readWork_143 (by rfl) (by first | exact isRf_r | exact isRf_n | exact isRf_o | assumption) ?_
        refine g_aload_n dX5_readWork_144 (by rfl) (by first | exact isRf_r | exact isRf_n | exact isRf_o | assumption) ?_
        refine g_bipush (v := 59) dX5_readWork_145 (by decide) ?_
        by_cases hc59 : sg n g (rdN n g ((rdN n g (p + 1)).2 + 1)).2 = 59
        · skip
          refine g_cV2x dX5_readWork_147 lX5_62 vX5_passes (ct_passesT X (p := (rdN n g ((rdN n g (p + 1)).2 + 1)).2) hk (by omega) tx3 k3 hc59) (by first | assumption | (repeat' (first | assumption | exact hu_same | exact Ne.symm (by assumption) | apply hu_n1))) rfl ⟨Nat.le_of_ble_eq_true rfl, Nat.le_of_ble_eq_true rfl⟩ (Nat.le_of_ble_eq_true rfl) ⟨Nat.le_of_ble_eq_true rfl, Nat.le_of_ble_eq_true rfl⟩ ?_
          refine g_if_eq (tgt := 157) dX5_readWork_150 (by decide) (fun c8 => absurd c8 (by decide)) (fun c8 => ?_)
          refine g_iconst (v := 1) dX5_readWork_153 (by decide) ?_
          refine g_goto (tgt := 158) dX5_readWork_154 (by decide) ?_
          refine g_zret dX5_readWork_158 rfl (by decide) (Nat.le_refl _) (Nat.le_refl _) ?_
          first
            | (have hr : rdW n g p = none := by
                 unfold rdW
                 rw [tw, decide_eq_true hq1, decide_eq_true hc44, decide_eq_false hq2]
                 rfl
               rw [hr]
               exact ⟨rfl, _, _, _, _, k3, fun k f s p2 z => (nomatch z), fr3⟩)
            | (have hr : rdW n g p = none := by
                 unfold rdW
                 rw [tw, decide_eq_true hq1, decide_eq_true hc44, decide_eq_true hq2, decide_eq_false hc59]
                 rfl
               rw [hr]
               exact ⟨rfl, _, _, _, _, k3, fun k f s p2 z => (nomatch z), fr3⟩)
            | (have hr : rdW n g p = some (sg n g p, (rdN n g (p + 1)).1, (rdN n g ((rdN n g (p + 1)).2 + 1)).1, (rdN n g ((rdN n g (p + 1)).2 + 1)).2 + 1) := by
                 unfold rdW
                 rw [tw, decide_eq_true hq1, decide_eq_true hc44, decide_eq_true hq2, decide_eq_true hc59]
                 rfl
               rw [hr]
               refine ⟨rfl, _, _, _, _, hu_same, fun k f s p2 z => ?_, fun q q1 => (hu_ne q1).trans (fr3 q q1)⟩
               cases z
               exact ⟨rfl, rfl, rfl, rfl⟩)
        · skip
          refine g_cV2x dX5_readWork_147 lX5_62 vX5_passes (ct_passesF X (p := (rdN n g ((rdN n g (p + 1)).2 + 1)).2) hk (by omega) tx3 k3 hc59) (by first | assumption | (repeat' (first | assumption | exact hu_same | exact Ne.symm (by assumption) | apply hu_n1))) rfl ⟨Nat.le_of_ble_eq_true rfl, Nat.le_of_ble_eq_true rfl⟩ (Nat.le_of_ble_eq_true rfl) ⟨Nat.le_of_ble_eq_true rfl, Nat.le_of_ble_eq_true rfl⟩ ?_
          refine g_if_eq (tgt := 157) dX5_readWork_150 (by decide) (fun c9 => ?_) (fun c9 => absurd (by decide) c9)
          refine g_iconst (v := 0) dX5_readWork_157 (by decide) ?_
          refine g_zret dX5_readWork_158 rfl (by decide) (Nat.le_refl _) (Nat.le_refl _) ?_
          first
            | (have hr : rdW n g p = none := by
                 unfold rdW
                 rw [tw, decide_eq_true hq1, decide_eq_true hc44, decide_eq_false hq2]
                 rfl
               rw [hr]
               exact ⟨rfl, _, _, _, _, k3, fun k f s p2 z => (nomatch z), fr3⟩)
            | (have hr : rdW n g p = none := by
                 unfold rdW
                 rw [tw, decide_eq_true hq1, decide_eq_true hc44, decide_eq_true hq2, decide_eq_false hc59]
                 rfl
               rw [hr]
               exact ⟨rfl, _, _, _, _, k3, fun k f s p2 z => (nomatch z), fr3⟩)
            | (have hr : rdW n g p = some (sg n g p, (rdN n g (p + 1)).1, (rdN n g ((rdN n g (p + 1)).2 + 1)).1, (rdN n g ((rdN n g (p + 1)).2 + 1)).2 + 1) := by
                 unfold rdW
                 rw [tw, decide_eq_true hq1, decide_eq_true hc44, decide_eq_true hq2, decide_eq_true hc59]
                 rfl
               rw [hr]
               refine ⟨rfl, _, _, _, _, hu_same, fun k f s p2 z => ?_, fun q q1 => (hu_ne q1).trans (fr3 q q1)⟩
               cases z
               exact ⟨rfl, rfl, rfl, rfl⟩)
    · skip
      refine g_cV2x dX5_readWork_119 lX5_62 vX5_passes (ct_passesF X (p := (rdN n g (p + 1)).2) hk (by omega) tx2 k2 hc44) (by first | assumption | (repeat' (first | assumption | exact hu_same | exact Ne.symm (by assumption) | apply hu_n1))) rfl ⟨Nat.le_of_ble_eq_true rfl, Nat.le_of_ble_eq_true rfl⟩ (Nat.le_of_ble_eq_true rfl) ⟨Nat.le_of_ble_eq_true rfl, Nat.le_of_ble_eq_true rfl⟩ ?_
      refine g_if_ne (tgt := 127) dX5_readWork_122 (by decide) (fun c10 => absurd rfl c10) (fun c10 => ?_)
      refine g_iconst (v := 0) dX5_readWork_125 (by decide) ?_
      refine g_zret dX5_readWork_126 rfl (by decide) (Nat.le_refl _) (Nat.le_refl _) ?_
      have hr : rdW n g p = none := by
        unfold rdW
        rw [tw, decide_eq_true hq1, decide_eq_false hc44]
        rfl
      rw [hr]
      exact ⟨rfl, _, _, _, _, k2, fun k f s p2 z => (nomatch z), fr2⟩
  · skip
    have hq1 := c4
    refine g_iconst (v := 0) dX5_readWork_109 (by decide) ?_
    refine g_zret dX5_readWork_110 rfl (by decide) (Nat.le_refl _) (Nat.le_refl _) ?_
    have hr : rdW n g p = none := by
      unfold rdW
      rw [tw, decide_eq_false hq1]
      rfl
    rw [hr]
    exact ⟨rfl, _, _, _, _, k2, fun k f s p2 z => (nomatch z), fr2⟩

set_option maxHeartbeats 4000000 in
set_option maxRecDepth 100000 in
theorem ct_readWork115 (X : Cx) {h : Hp} {a b sb n p : Nat} {g : Nat → Int32} {wd fp fr fc kd fi se : Int32}  (hk : TOk n g) (hp : p < 800) (ht : TxtAt X h b sb n g) (hs : h a = some (ob 5 (scrL wd fp fr fc (nI p) kd fi se))) (hkc : sg n g p = 115) : Ct X mX5_readWork 2 0 0 [.ref a, .ref b] h (fun u h1 => u = some (.int (bI (rdW n g p).isSome)) ∧ ∃ pl2 kd2 fi2 se2, h1 a = some (ob 5 (scrL wd fp fr fc pl2 kd2 fi2 se2)) ∧ (∀ k f s p2, rdW n g p = some (k, f, s, p2) → kd2 = k ∧ fi2 = f ∧ se2 = s ∧ pl2 = nI p2) ∧ ∀ q, q ≠ a → h1 q = h q) := by
  unfold scrL at hs
  have hb0 := ht.1
  have nb := ne_ob hb0 hs (by decide)
  have nsb : sb ≠ a := Ne.symm (ne_bc hs ht.2)
  have gn := sg_nar (p := p) hk
  have gf := sg_fit (p := p) hk
  have r1 := rdN_2 (n := n) (p := p + 1) (g := g)
  have r2 := rdN_2 (n := n) (p := (rdN n g (p + 1)).2 + 1) (g := g)
  have tw : twoB (sg n g p) = true := by rw [hkc]; decide
  have on : oneB (sg n g p) = false := by rw [hkc]; decide
  have kf : ∀ (x y z w : Int32) (hh : Hp), (∀ q, q ≠ a → hh q = h q) → ∀ q, q ≠ a → hu hh a (ob 5 (scrL wd fp fr fc x y z w)) q = h q := fun x y z w hh e q q1 => (hu_ne q1).trans (e q q1)
  refine Ct.ofG vX5_readWork.1.2.2.1 (Nat.le_of_ble_eq_true rfl) ?_
  show G X RX5 cX5_readWork 3 (some .boolean) "readWork" (Rm 2 0 0) (Fm X (fun u h1 => u = some (.int (bI (rdW n g p).isSome)) ∧ ∃ pl2 kd2 fi2 se2, h1 a = some (ob 5 (scrL wd fp fr fc pl2 kd2 fi2 se2)) ∧ (∀ k f s p2, rdW n g p = some (k, f, s, p2) → kd2 = k ∧ fi2 = f ∧ se2 = s ∧ pl2 = nI p2) ∧ ∀ q, q ≠ a → h1 q = h q) 0 0) 0 0 0 [(0, .ref a), (1, .ref b)] [] h
  refine g_aload_n dX5_readWork_0 (by rfl) (by first | exact isRf_r | exact isRf_n | exact isRf_o | assumption) ?_
  refine g_aload_n dX5_readWork_1 (by rfl) (by first | exact isRf_r | exact isRf_n | exact isRf_o | assumption) ?_
  refine g_aload_n dX5_readWork_2 (by rfl) (by first | exact isRf_r | exact isRf_n | exact isRf_o | assumption) ?_
  refine g_getf dX5_readWork_3 fX5_16 (by first | assumption | (repeat' (first | assumption | exact hu_same | exact Ne.symm (by assumption) | apply hu_n1))) (by rfl) ?_
  refine g_cV1x dX5_readWork_6 lX5_54 vX7_signAt (ct_X7_signAt X hk (by omega) ht) (by first | assumption | (repeat' (first | assumption | exact hu_same | exact Ne.symm (by assumption) | apply hu_n1))) rfl ⟨Nat.le_of_ble_eq_true rfl, Nat.le_of_ble_eq_true rfl⟩ (Nat.le_of_ble_eq_true rfl) ⟨Nat.le_of_ble_eq_true rfl, Nat.le_of_ble_eq_true rfl⟩ ?_
  refine g_putf (ty := .char) dX5_readWork_9 fX5_32 (by decide +kernel) gn gf (by first | assumption | (repeat' (first | assumption | exact hu_same | exact Ne.symm (by assumption) | apply hu_n1))) (by exact Nat.le_of_ble_eq_true rfl) ?_
  refine g_aload_n dX5_readWork_12 (by rfl) (by first | exact isRf_r | exact isRf_n | exact isRf_o | assumption) ?_
  refine g_getf dX5_readWork_13 fX5_32 (by first | assumption | (repeat' (first | assumption | exact hu_same | exact Ne.symm (by assumption) | apply hu_n1))) (by rfl) ?_
  refine g_bipush (v := 100) dX5_readWork_16 (by decide) ?_
  refine g_icmp_eq (tgt := 39) dX5_readWork_18 (by decide) (fun c1 => absurd (hkc.symm.trans c1) (by decide)) (fun c1 => ?_)
  refine g_aload_n dX5_readWork_21 (by rfl) (by first | exact isRf_r | exact isRf_n | exact isRf_o | assumption) ?_
  refine g_getf dX5_readWork_22 fX5_32 (by first | assumption | (repeat' (first | assumption | exact hu_same | exact Ne.symm (by assumption) | apply hu_n1))) (by rfl) ?_
  refine g_bipush (v := 104) dX5_readWork_25 (by decide) ?_
  refine g_icmp_eq (tgt := 39) dX5_readWork_27 (by decide) (fun c2 => absurd (hkc.symm.trans c2) (by decide)) (fun c2 => ?_)
  refine g_aload_n dX5_readWork_30 (by rfl) (by first | exact isRf_r | exact isRf_n | exact isRf_o | assumption) ?_
  refine g_getf dX5_readWork_31 fX5_32 (by first | assumption | (repeat' (first | assumption | exact hu_same | exact Ne.symm (by assumption) | apply hu_n1))) (by rfl) ?_
  refine g_bipush (v := 115) dX5_readWork_34 (by decide) ?_
  refine g_icmp_ne (tgt := 43) dX5_readWork_36 (by decide) (fun c3 => absurd hkc c3) (fun c3 => ?_)
  refine g_iconst (v := 1) dX5_readWork_39 (by decide) ?_
  refine g_goto (tgt := 44) dX5_readWork_40 (by decide) ?_
  refine g_istore_n (L1 := [(0, _), (1, _), (2, _)]) dX5_readWork_44 (by decide) (by rfl) ?_
  refine g_iload_n dX5_readWork_45 (by rfl) ?_
  refine g_if_ne (tgt := 78) dX5_readWork_46 (by decide) (fun c4 => ?_) (fun c4 => absurd c4 (by decide))
  refine g_aload_n dX5_readWork_78 (by rfl) (by first | exact isRf_r | exact isRf_n | exact isRf_o | assumption) ?_
  refine g_dup dX5_readWork_79 (by rfl) ?_
  refine g_getf dX5_readWork_80 fX5_16 (by first | assumption | (repeat' (first | assumption | exact hu_same | exact Ne.symm (by assumption) | apply hu_n1))) (by rfl) ?_
  refine g_iconst (v := 1) dX5_readWork_83 (by decide) ?_
  refine g_iadd dX5_readWork_84 ?_
  refine g_putf (ty := .int) dX5_readWork_85 fX5_16 (by decide +kernel) (by rfl) (by rfl) (by first | assumption | (repeat' (first | assumption | exact hu_same | exact Ne.symm (by assumption) | apply hu_n1))) (by exact Nat.le_of_ble_eq_true rfl) ?_
  refine g_gen (fun h1 e1 => ?_)
  have fr1 : ∀ q, q ≠ a → h1 q = h q := fun q q1 => by rw [e1]; simp only [hu_ne q1]
  have tx1 : TxtAt X h1 b sb n g := ⟨(fr1 b nb).trans ht.1, (fr1 sb nsb).trans ht.2⟩
  have hb1 := tx1.1
  have k1 : h1 a = some (ob 5 (scrL wd fp fr fc (nI (p + 1)) (sg n g p) fi se)) := by
    rw [e1, ← nI_1]
    exact hu_same
  unfold scrL at k1
  refine g_aload_n dX5_readWork_88 (by rfl) (by first | exact isRf_r | exact isRf_n | exact isRf_o | assumption) ?_
  refine g_aload_n dX5_readWork_89 (by rfl) (by first | exact isRf_r | exact isRf_n | exact isRf_o | assumption) ?_
  refine g_aload_n dX5_readWork_90 (by rfl) (by first | exact isRf_r | exact isRf_n | exact isRf_o | assumption) ?_
  refine g_cV1x dX5_readWork_91 lX5_58 vX5_readNumber (ct_X5_readNumber X hk (by omega) tx1 k1) (by first | assumption | (repeat' (first | assumption | exact hu_same | exact Ne.symm (by assumption) | apply hu_n1))) rfl ⟨Nat.le_of_ble_eq_true rfl, Nat.le_of_ble_eq_true rfl⟩ (Nat.le_of_ble_eq_true rfl) ⟨Nat.le_of_ble_eq_true rfl, Nat.le_of_ble_eq_true rfl⟩ ?_
  refine g_putf (ty := .int) dX5_readWork_94 fX5_36 (by decide +kernel) (by rfl) (by rfl) (by first | assumption | (repeat' (first | assumption | exact hu_same | exact Ne.symm (by assumption) | apply hu_n1))) (by exact Nat.le_of_ble_eq_true rfl) ?_
  refine g_aload_n dX5_readWork_97 (by rfl) (by first | exact isRf_r | exact isRf_n | exact isRf_o | assumption) ?_
  refine g_iconst (v := 0) dX5_readWork_98 (by decide) ?_
  refine g_putf (ty := .int) dX5_readWork_99 fX5_39 (by decide +kernel) (by rfl) (by rfl) (by first | assumption | (repeat' (first | assumption | exact hu_same | exact Ne.symm (by assumption) | apply hu_n1))) (by exact Nat.le_of_ble_eq_true rfl) ?_
  refine g_gen (fun h2 e2 => ?_)
  have fr2 : ∀ q, q ≠ a → h2 q = h q := fun q q1 => by
    rw [e2]
    simp only [hu_ne q1]
    exact fr1 q q1
  have tx2 : TxtAt X h2 b sb n g := ⟨(fr2 b nb).trans ht.1, (fr2 sb nsb).trans ht.2⟩
  have hb2 := tx2.1
  have k2 : h2 a = some (ob 5 (scrL wd fp fr fc (nI (rdN n g (p + 1)).2) (sg n g p) (rdN n g (p + 1)).1 0)) := by
    rw [e2]
    exact hu_same
  unfold scrL at k2
  refine g_aload_n dX5_readWork_102 (by rfl) (by first | exact isRf_r | exact isRf_n | exact isRf_o | assumption) ?_
  refine g_getf dX5_readWork_103 fX5_36 (by first | assumption | (repeat' (first | assumption | exact hu_same | exact Ne.symm (by assumption) | apply hu_n1))) (by rfl) ?_
  refine g_if_ge (tgt := 111) dX5_readWork_106 (by decide) (fun c5 => ?_) (fun c5 => ?_)
  · skip
    have hq1 := c5
    refine g_iload_n dX5_readWork_111 (by rfl) ?_
    refine g_if_eq (tgt := 136) dX5_readWork_112 (by decide) (fun c6 => absurd c6 (by decide)) (fun c6 => ?_)
    refine g_aload_n dX5_readWork_115 (by rfl) (by first | exact isRf_r | exact isRf_n | exact isRf_o | assumption) ?_
    refine g_aload_n dX5_readWork_116 (by rfl) (by first | exact isRf_r | exact isRf_n | exact isRf_o | assumption) ?_
    refine g_bipush (v := 44) dX5_readWork_117 (by decide) ?_
    by_cases hc44 : sg n g (rdN n g (p + 1)).2 = 44
    · skip
      refine g_cV2x dX5_readWork_119 lX5_62 vX5_passes (ct_passesT X (p := (rdN n g (p + 1)).2) hk (by omega) tx2 k2 hc44) (by first | assumption | (repeat' (first | assumption | exact hu_same | exact Ne.symm (by assumption) | apply hu_n1))) rfl ⟨Nat.le_of_ble_eq_true rfl, Nat.le_of_ble_eq_true rfl⟩ (Nat.le_of_ble_eq_true rfl) ⟨Nat.le_of_ble_eq_true rfl, Nat.le_of_ble_eq_true rfl⟩ ?_
      refine g_gen (fun h25 e25 => ?_)
      have fr25 : ∀ q, q ≠ a → h25 q = h q := fun q q1 => by
        rw [e25]
        simp only [hu_ne q1]
        exact fr2 q q1
      have tx25 : TxtAt X h25 b sb n g := ⟨(fr25 b nb).trans ht.1, (fr25 sb nsb).trans ht.2⟩
      have hb25 := tx25.1
      have k25 : h25 a = some (ob 5 (scrL wd fp fr fc (nI ((rdN n g (p + 1)).2 + 1)) (sg n g p) (rdN n g (p + 1)).1 0)) := by
        rw [e25]
        exact hu_same
      unfold scrL at k25
      refine g_if_ne (tgt := 127) dX5_readWork_122 (by decide) (fun c7 => ?_) (fun c7 => absurd c7 (by decide))
      refine g_aload_n dX5_readWork_127 (by rfl) (by first | exact isRf_r | exact isRf_n | exact isRf_o | assumption) ?_
      refine g_aload_n dX5_readWork_128 (by rfl) (by first | exact isRf_r | exact isRf_n | exact isRf_o | assumption) ?_
      refine g_aload_n dX5_readWork_129 (by rfl) (by first | exact isRf_r | exact isRf_n | exact isRf_o | assumption) ?_
      refine g_cV1x dX5_readWork_130 lX5_58 vX5_readNumber (ct_X5_readNumber X hk (by omega) tx25 k25) (by first | assumption | (repeat' (first | assumption | exact hu_same | exact Ne.symm (by assumption) | apply hu_n1))) rfl ⟨Nat.le_of_ble_eq_true rfl, Nat.le_of_ble_eq_true rfl⟩ (Nat.le_of_ble_eq_true rfl) ⟨Nat.le_of_ble_eq_true rfl, Nat.le_of_ble_eq_true rfl⟩ ?_
      refine g_putf (ty := .int) dX5_readWork_133 fX5_39 (by decide +kernel) (by rfl) (by rfl) (by first | assumption | (repeat' (first | assumption | exact hu_same | exact Ne.symm (by assumption) | apply hu_n1))) (by exact Nat.le_of_ble_eq_true rfl) ?_
      refine g_gen (fun h3 e3 => ?_)
      have fr3 : ∀ q, q ≠ a → h3 q = h q := fun q q1 => by
        rw [e3]
        simp only [hu_ne q1]
        exact fr25 q q1
      have tx3 : TxtAt X h3 b sb n g := ⟨(fr3 b nb).trans ht.1, (fr3 sb nsb).trans ht.2⟩
      have hb3 := tx3.1
      have k3 : h3 a = some (ob 5 (scrL wd fp fr fc (nI (rdN n g ((rdN n g (p + 1)).2 + 1)).2) (sg n g p) (rdN n g (p + 1)).1 (rdN n g ((rdN n g (p + 1)).2 + 1)).1)) := by
        rw [e3]
        exact hu_same
      unfold scrL at k3
      refine g_aload_n dX5_readWork_136 (by rfl) (by first | exact isRf_r | exact isRf_n | exact isRf_o | assumption) ?_
      refine g_getf dX5_readWork_137 fX5_39 (by first | assumption | (repeat' (first | assumption | exact hu_same | exact Ne.symm (by assumption) | apply hu_n1))) (by rfl) ?_
      refine g_if_lt (tgt := 157) dX5_readWork_140 (by decide) (fun c8 => ?_) (fun c8 => ?_)
      · skip
        have hq2 : ¬ 0 ≤ (rdN n g ((rdN n g (p + 1)).2 + 1)).1 := i_nle c8
        refine g_iconst (v := 0) dX5_readWork_157 (by decide) ?_
        refine g_zret dX5_readWork_158 rfl (by decide) (Nat.le_refl _) (Nat.le_refl _) ?_
        first
          | (have hr : rdW n g p = none := by
               unfold rdW
               rw [tw, decide_eq_true hq1, decide_eq_true hc44, decide_eq_false hq2]
               rfl
             rw [hr]
             exact ⟨rfl, _, _, _, _, k3, fun k f s p2 z => (nomatch z), fr3⟩)
          | (have hr : rdW n g p = none := by
               unfold rdW
               rw [tw, decide_eq_true hq1, decide_eq_true hc44, decide_eq_true hq2, decide_eq_false hc59]
               rfl
             rw [hr]
             exact ⟨rfl, _, _, _, _, k3, fun k f s p2 z => (nomatch z), fr3⟩)
          | (have hr : rdW n g p = some (sg n g p, (rdN n g (p + 1)).1, (rdN n g ((rdN n g (p + 1)).2 + 1)).1, (rdN n g ((rdN n g (p + 1)).2 + 1)).2 + 1) := by
               unfold rdW
               rw [tw, decide_eq_true hq1, decide_eq_true hc44, decide_eq_true hq2, decide_eq_true hc59]
               rfl
             rw [hr]
             refine ⟨rfl, _, _, _, _, hu_same, fun k f s p2 z => ?_, fun q q1 => (hu_ne q1).trans (fr3 q q1)⟩
             cases z
             exact ⟨rfl, rfl, rfl, rfl⟩)
      · skip
        have hq2 : 0 ≤ (rdN n g ((rdN n g (p + 1)).2 + 1)).1 := i_nlt c8
        refine g_aload_n dX5_readWork_143 (by rfl) (by first | exact isRf_r | exact isRf_n | exact isRf_o | assumption) ?_
        refine g_aload_n dX5_readWork_144 (by rfl) (by first | exact isRf_r | exact isRf_n | exact isRf_o | assumption) ?_
        refine g_bipush (v := 59) dX5_readWork_145 (by decide) ?_
        by_cases hc59 : sg n g (rdN n g ((rdN n g (p + 1)).2 + 1)).2 = 59
        · skip
          refine g_cV2x dX5_readWork_147 lX5_62 vX5_passes (ct_passesT X (p := (rdN n g ((rdN n g (p + 1)).2 + 1)).2) hk (by omega) tx3 k3 hc59) (by first | assumption | (repeat' (first | assumption | exact hu_same | exact Ne.symm (by assumption) | apply hu_n1))) rfl ⟨Nat.le_of_ble_eq_true rfl, Nat.le_of_ble_eq_true rfl⟩ (Nat.le_of_ble_eq_true rfl) ⟨Nat.le_of_ble_eq_true rfl, Nat.le_of_ble_eq_true rfl⟩ ?_
          refine g_if_eq (tgt := 157) dX5_readWork_150 (by decide) (fun c9 => absurd c9 (by decide)) (fun c9 => ?_)
          refine g_iconst (v := 1) dX5_readWork_153 (by decide) ?_
          refine g_goto (tgt := 158) dX5_readWork_154 (by decide) ?_
          refine g_zret dX5_readWork_158 rfl (by decide) (Nat.le_refl _) (Nat.le_refl _) ?_
          first
            | (have hr : rdW n g p = none := by
                 unfold rdW
                 rw [tw, decide_eq_true hq1, decide_eq_true hc44, decide_eq_false hq2]
                 rfl
               rw [hr]
               exact ⟨rfl, _, _, _, _, k3, fun k f s p2 z => (nomatch z), fr3⟩)
            | (have hr : rdW n g p = none := by
                 unfold rdW
                 rw [tw, decide_eq_true hq1, decide_eq_true hc44, decide_eq_true hq2, decide_eq_false hc59]
                 rfl
               rw [hr]
               exact ⟨rfl, _, _, _, _, k3, fun k f s p2 z => (nomatch z), fr3⟩)
            | (have hr : rdW n g p = some (sg n g p, (rdN n g (p + 1)).1, (rdN n g ((rdN n g (p + 1)).2 + 1)).1, (rdN n g ((rdN n g (p + 1)).2 + 1)).2 + 1) := by
                 unfold rdW
                 rw [tw, decide_eq_true hq1, decide_eq_true hc44, decide_eq_true hq2, decide_eq_true hc59]
                 rfl
               rw [hr]
               refine ⟨rfl, _, _, _, _, hu_same, fun k f s p2 z => ?_, fun q q1 => (hu_ne q1).trans (fr3 q q1)⟩
               cases z
               exact ⟨rfl, rfl, rfl, rfl⟩)
        · skip
          refine g_cV2x dX5_readWork_147 lX5_62 vX5_passes (ct_passesF X (p := (rdN n g ((rdN n g (p + 1)).2 + 1)).2) hk (by omega) tx3 k3 hc59) (by first | assumption | (repeat' (first | assumption | exact hu_same | exact Ne.symm (by assumption) | apply hu_n1))) rfl ⟨Nat.le_of_ble_eq_true rfl, Nat.le_of_ble_eq_true rfl⟩ (Nat.le_of_ble_eq_true rfl) ⟨Nat.le_of_ble_eq_true rfl, Nat.le_of_ble_eq_true rfl⟩ ?_
          refine g_if_eq (tgt := 157) dX5_readWork_150 (by decide) (fun c10 => ?_) (fun c10 => absurd (by decide) c10)
          refine g_iconst (v := 0) dX5_readWork_157 (by decide) ?_
          refine g_zret dX5_readWork_158 rfl (by decide) (Nat.le_refl _) (Nat.le_refl _) ?_
          first
            | (have hr : rdW n g p = none := by
                 unfold rdW
                 rw [tw, decide_eq_true hq1, decide_eq_true hc44, decide_eq_false hq2]
                 rfl
               rw [hr]
               exact ⟨rfl, _, _, _, _, k3, fun k f s p2 z => (nomatch z), fr3⟩)
            | (have hr : rdW n g p = none := by
                 unfold rdW
                 rw [tw, decide_eq_true hq1, decide_eq_true hc44, decide_eq_true hq2, decide_eq_false hc59]
                 rfl
               rw [hr]
               exact ⟨rfl, _, _, _, _, k3, fun k f s p2 z => (nomatch z), fr3⟩)
            | (have hr : rdW n g p = some (sg n g p, (rdN n g (p + 1)).1, (rdN n g ((rdN n g (p + 1)).2 + 1)).1, (rdN n g ((rdN n g (p + 1)).2 + 1)).2 + 1) := by
                 unfold rdW
                 rw [tw, decide_eq_true hq1, decide_eq_true hc44, decide_eq_true hq2, decide_eq_true hc59]
                 rfl
               rw [hr]
               refine ⟨rfl, _, _, _, _, hu_same, fun k f s p2 z => ?_, fun q q1 => (hu_ne q1).trans (fr3 q q1)⟩
               cases z
               exact ⟨rfl, rfl, rfl, rfl⟩)
    · skip
      refine g_cV2x dX5_readWork_119 lX5_62 vX5_passes (ct_passesF X (p := (rdN n g (p + 1)).2) hk (by omega) tx2 k2 hc44) (by first | assumption | (repeat' (first | assumption | exact hu_same | exact Ne.symm (by assumption) | apply hu_n1))) rfl ⟨Nat.le_of_ble_eq_true rfl, Nat.le_of_ble_eq_true rfl⟩ (Nat.le_of_ble_eq_true rfl) ⟨Nat.le_of_ble_eq_true rfl, Nat.le_of_ble_eq_true rfl⟩ ?_
      refine g_if_ne (tgt := 127) dX5_readWork_122 (by decide) (fun c11 => absurd rfl c11) (fun c11 => ?_)
      refine g_iconst (v := 0) dX5_readWork_125 (by decide) ?_
      refine g_zret dX5_readWork_126 rfl (by decide) (Nat.le_refl _) (Nat.le_refl _) ?_
      have hr : rdW n g p = none := by
        unfold rdW
        rw [tw, decide_eq_true hq1, decide_eq_false hc44]
        rfl
      rw [hr]
      exact ⟨rfl, _, _, _, _, k2, fun k f s p2 z => (nomatch z), fr2⟩
  · skip
    have hq1 := c5
    refine g_iconst (v := 0) dX5_readWork_109 (by decide) ?_
    refine g_zret dX5_readWork_110 rfl (by decide) (Nat.le_refl _) (Nat.le_refl _) ?_
    have hr : rdW n g p = none := by
      unfold rdW
      rw [tw, decide_eq_false hq1]
      rfl
    rw [hr]
    exact ⟨rfl, _, _, _, _, k2, fun k f s p2 z => (nomatch z), fr2⟩

set_option maxHeartbeats 4000000 in
set_option maxRecDepth 100000 in
theorem ct_readWork114 (X : Cx) {h : Hp} {a b sb n p : Nat} {g : Nat → Int32} {wd fp fr fc kd fi se : Int32}  (hk : TOk n g) (hp : p < 800) (ht : TxtAt X h b sb n g) (hs : h a = some (ob 5 (scrL wd fp fr fc (nI p) kd fi se))) (hkc : sg n g p = 114) : Ct X mX5_readWork 2 0 0 [.ref a, .ref b] h (fun u h1 => u = some (.int (bI (rdW n g p).isSome)) ∧ ∃ pl2 kd2 fi2 se2, h1 a = some (ob 5 (scrL wd fp fr fc pl2 kd2 fi2 se2)) ∧ (∀ k f s p2, rdW n g p = some (k, f, s, p2) → kd2 = k ∧ fi2 = f ∧ se2 = s ∧ pl2 = nI p2) ∧ ∀ q, q ≠ a → h1 q = h q) := by
  unfold scrL at hs
  have hb0 := ht.1
  have nb := ne_ob hb0 hs (by decide)
  have nsb : sb ≠ a := Ne.symm (ne_bc hs ht.2)
  have gn := sg_nar (p := p) hk
  have gf := sg_fit (p := p) hk
  have r1 := rdN_2 (n := n) (p := p + 1) (g := g)
  have r2 := rdN_2 (n := n) (p := (rdN n g (p + 1)).2 + 1) (g := g)
  have tw : twoB (sg n g p) = false := by rw [hkc]; decide
  have on : oneB (sg n g p) = true := by rw [hkc]; decide
  have kf : ∀ (x y z w : Int32) (hh : Hp), (∀ q, q ≠ a → hh q = h q) → ∀ q, q ≠ a → hu hh a (ob 5 (scrL wd fp fr fc x y z w)) q = h q := fun x y z w hh e q q1 => (hu_ne q1).trans (e q q1)
  refine Ct.ofG vX5_readWork.1.2.2.1 (Nat.le_of_ble_eq_true rfl) ?_
  show G X RX5 cX5_readWork 3 (some .boolean) "readWork" (Rm 2 0 0) (Fm X (fun u h1 => u = some (.int (bI (rdW n g p).isSome)) ∧ ∃ pl2 kd2 fi2 se2, h1 a = some (ob 5 (scrL wd fp fr fc pl2 kd2 fi2 se2)) ∧ (∀ k f s p2, rdW n g p = some (k, f, s, p2) → kd2 = k ∧ fi2 = f ∧ se2 = s ∧ pl2 = nI p2) ∧ ∀ q, q ≠ a → h1 q = h q) 0 0) 0 0 0 [(0, .ref a), (1, .ref b)] [] h
  refine g_aload_n dX5_readWork_0 (by rfl) (by first | exact isRf_r | exact isRf_n | exact isRf_o | assumption) ?_
  refine g_aload_n dX5_readWork_1 (by rfl) (by first | exact isRf_r | exact isRf_n | exact isRf_o | assumption) ?_
  refine g_aload_n dX5_readWork_2 (by rfl) (by first | exact isRf_r | exact isRf_n | exact isRf_o | assumption) ?_
  refine g_getf dX5_readWork_3 fX5_16 (by first | assumption | (repeat' (first | assumption | exact hu_same | exact Ne.symm (by assumption) | apply hu_n1))) (by rfl) ?_
  refine g_cV1x dX5_readWork_6 lX5_54 vX7_signAt (ct_X7_signAt X hk (by omega) ht) (by first | assumption | (repeat' (first | assumption | exact hu_same | exact Ne.symm (by assumption) | apply hu_n1))) rfl ⟨Nat.le_of_ble_eq_true rfl, Nat.le_of_ble_eq_true rfl⟩ (Nat.le_of_ble_eq_true rfl) ⟨Nat.le_of_ble_eq_true rfl, Nat.le_of_ble_eq_true rfl⟩ ?_
  refine g_putf (ty := .char) dX5_readWork_9 fX5_32 (by decide +kernel) gn gf (by first | assumption | (repeat' (first | assumption | exact hu_same | exact Ne.symm (by assumption) | apply hu_n1))) (by exact Nat.le_of_ble_eq_true rfl) ?_
  refine g_aload_n dX5_readWork_12 (by rfl) (by first | exact isRf_r | exact isRf_n | exact isRf_o | assumption) ?_
  refine g_getf dX5_readWork_13 fX5_32 (by first | assumption | (repeat' (first | assumption | exact hu_same | exact Ne.symm (by assumption) | apply hu_n1))) (by rfl) ?_
  refine g_bipush (v := 100) dX5_readWork_16 (by decide) ?_
  refine g_icmp_eq (tgt := 39) dX5_readWork_18 (by decide) (fun c1 => absurd (hkc.symm.trans c1) (by decide)) (fun c1 => ?_)
  refine g_aload_n dX5_readWork_21 (by rfl) (by first | exact isRf_r | exact isRf_n | exact isRf_o | assumption) ?_
  refine g_getf dX5_readWork_22 fX5_32 (by first | assumption | (repeat' (first | assumption | exact hu_same | exact Ne.symm (by assumption) | apply hu_n1))) (by rfl) ?_
  refine g_bipush (v := 104) dX5_readWork_25 (by decide) ?_
  refine g_icmp_eq (tgt := 39) dX5_readWork_27 (by decide) (fun c2 => absurd (hkc.symm.trans c2) (by decide)) (fun c2 => ?_)
  refine g_aload_n dX5_readWork_30 (by rfl) (by first | exact isRf_r | exact isRf_n | exact isRf_o | assumption) ?_
  refine g_getf dX5_readWork_31 fX5_32 (by first | assumption | (repeat' (first | assumption | exact hu_same | exact Ne.symm (by assumption) | apply hu_n1))) (by rfl) ?_
  refine g_bipush (v := 115) dX5_readWork_34 (by decide) ?_
  refine g_icmp_ne (tgt := 43) dX5_readWork_36 (by decide) (fun c3 => ?_) (fun c3 => absurd (hkc.symm.trans c3) (by decide))
  refine g_iconst (v := 0) dX5_readWork_43 (by decide) ?_
  refine g_istore_n (L1 := [(0, _), (1, _), (2, _)]) dX5_readWork_44 (by decide) (by rfl) ?_
  refine g_iload_n dX5_readWork_45 (by rfl) ?_
  refine g_if_ne (tgt := 78) dX5_readWork_46 (by decide) (fun c4 => absurd rfl c4) (fun c4 => ?_)
  refine g_aload_n dX5_readWork_49 (by rfl) (by first | exact isRf_r | exact isRf_n | exact isRf_o | assumption) ?_
  refine g_getf dX5_readWork_50 fX5_32 (by first | assumption | (repeat' (first | assumption | exact hu_same | exact Ne.symm (by assumption) | apply hu_n1))) (by rfl) ?_
  refine g_bipush (v := 114) dX5_readWork_53 (by decide) ?_
  refine g_icmp_eq (tgt := 78) dX5_readWork_55 (by decide) (fun c5 => ?_) (fun c5 => absurd hkc c5)
  refine g_aload_n dX5_readWork_78 (by rfl) (by first | exact isRf_r | exact isRf_n | exact isRf_o | assumption) ?_
  refine g_dup dX5_readWork_79 (by rfl) ?_
  refine g_getf dX5_readWork_80 fX5_16 (by first | assumption | (repeat' (first | assumption | exact hu_same | exact Ne.symm (by assumption) | apply hu_n1))) (by rfl) ?_
  refine g_iconst (v := 1) dX5_readWork_83 (by decide) ?_
  refine g_iadd dX5_readWork_84 ?_
  refine g_putf (ty := .int) dX5_readWork_85 fX5_16 (by decide +kernel) (by rfl) (by rfl) (by first | assumption | (repeat' (first | assumption | exact hu_same | exact Ne.symm (by assumption) | apply hu_n1))) (by exact Nat.le_of_ble_eq_true rfl) ?_
  refine g_gen (fun h1 e1 => ?_)
  have fr1 : ∀ q, q ≠ a → h1 q = h q := fun q q1 => by rw [e1]; simp only [hu_ne q1]
  have tx1 : TxtAt X h1 b sb n g := ⟨(fr1 b nb).trans ht.1, (fr1 sb nsb).trans ht.2⟩
  have hb1 := tx1.1
  have k1 : h1 a = some (ob 5 (scrL wd fp fr fc (nI (p + 1)) (sg n g p) fi se)) := by
    rw [e1, ← nI_1]
    exact hu_same
  unfold scrL at k1
  refine g_aload_n dX5_readWork_88 (by rfl) (by first | exact isRf_r | exact isRf_n | exact isRf_o | assumption) ?_
  refine g_aload_n dX5_readWork_89 (by rfl) (by first | exact isRf_r | exact isRf_n | exact isRf_o | assumption) ?_
  refine g_aload_n dX5_readWork_90 (by rfl) (by first | exact isRf_r | exact isRf_n | exact isRf_o | assumption) ?_
  refine g_cV1x dX5_readWork_91 lX5_58 vX5_readNumber (ct_X5_readNumber X hk (by omega) tx1 k1) (by first | assumption | (repeat' (first | assumption | exact hu_same | exact Ne.symm (by assumption) | apply hu_n1))) rfl ⟨Nat.le_of_ble_eq_true rfl, Nat.le_of_ble_eq_true rfl⟩ (Nat.le_of_ble_eq_true rfl) ⟨Nat.le_of_ble_eq_true rfl, Nat.le_of_ble_eq_true rfl⟩ ?_
  refine g_putf (ty := .int) dX5_readWork_94 fX5_36 (by decide +kernel) (by rfl) (by rfl) (by first | assumption | (repeat' (first | assumption | exact hu_same | exact Ne.symm (by assumption) | apply hu_n1))) (by exact Nat.le_of_ble_eq_true rfl) ?_
  refine g_aload_n dX5_readWork_97 (by rfl) (by first | exact isRf_r | exact isRf_n | exact isRf_o | assumption) ?_
  refine g_iconst (v := 0) dX5_readWork_98 (by decide) ?_
  refine g_putf (ty := .int) dX5_readWork_99 fX5_39 (by decide +kernel) (by rfl) (by rfl) (by first | assumption | (repeat' (first | assumption | exact hu_same | exact Ne.symm (by assumption) | apply hu_n1))) (by exact Nat.le_of_ble_eq_true rfl) ?_
  refine g_gen (fun h2 e2 => ?_)
  have fr2 : ∀ q, q ≠ a → h2 q = h q := fun q q1 => by
    rw [e2]
    simp only [hu_ne q1]
    exact fr1 q q1
  have tx2 : TxtAt X h2 b sb n g := ⟨(fr2 b nb).trans ht.1, (fr2 sb nsb).trans ht.2⟩
  have hb2 := tx2.1
  have k2 : h2 a = some (ob 5 (scrL wd fp fr fc (nI (rdN n g (p + 1)).2) (sg n g p) (rdN n g (p + 1)).1 0)) := by
    rw [e2]
    exact hu_same
  unfold scrL at k2
  refine g_aload_n dX5_readWork_102 (by rfl) (by first | exact isRf_r | exact isRf_n | exact isRf_o | assumption) ?_
  refine g_getf dX5_readWork_103 fX5_36 (by first | assumption | (repeat' (first | assumption | exact hu_same | exact Ne.symm (by assumption) | apply hu_n1))) (by rfl) ?_
  refine g_if_ge (tgt := 111) dX5_readWork_106 (by decide) (fun c6 => ?_) (fun c6 => ?_)
  · skip
    have hq1 := c6
    refine g_iload_n dX5_readWork_111 (by rfl) ?_
    refine g_if_eq (tgt := 136) dX5_readWork_112 (by decide) (fun c7 => ?_) (fun c7 => absurd (by decide) c7)
    refine g_aload_n dX5_readWork_136 (by rfl) (by first | exact isRf_r | exact isRf_n | exact isRf_o | assumption) ?_
    refine g_getf dX5_readWork_137 fX5_39 (by first | assumption | (repeat' (first | assumption | exact hu_same | exact Ne.symm (by assumption) | apply hu_n1))) (by rfl) ?_
    refine g_if_lt (tgt := 157) dX5_readWork_140 (by decide) (fun c8 => absurd c8 (by decide)) (fun c8 => ?_)
    refine g_aload_n dX5_readWork_143 (by rfl) (by first | exact isRf_r | exact isRf_n | exact isRf_o | assumption) ?_
    refine g_aload_n dX5_readWork_144 (by rfl) (by first | exact isRf_r | exact isRf_n | exact isRf_o | assumption) ?_
    refine g_bipush (v := 59) dX5_readWork_145 (by decide) ?_
    by_cases hc59 : sg n g (rdN n g (p + 1)).2 = 59
    · skip
      refine g_cV2x dX5_readWork_147 lX5_62 vX5_passes (ct_passesT X (p := (rdN n g (p + 1)).2) hk (by omega) tx2 k2 hc59) (by first | assumption | (repeat' (first | assumption | exact hu_same | exact Ne.symm (by assumption) | apply hu_n1))) rfl ⟨Nat.le_of_ble_eq_true rfl, Nat.le_of_ble_eq_true rfl⟩ (Nat.le_of_ble_eq_true rfl) ⟨Nat.le_of_ble_eq_true rfl, Nat.le_of_ble_eq_true rfl⟩ ?_
      refine g_if_eq (tgt := 157) dX5_readWork_150 (by decide) (fun c9 => absurd c9 (by decide)) (fun c9 => ?_)
      refine g_iconst (v := 1) dX5_readWork_153 (by decide) ?_
      refine g_goto (tgt := 158) dX5_readWork_154 (by decide) ?_
      refine g_zret dX5_readWork_158 rfl (by decide) (Nat.le_refl _) (Nat.le_refl _) ?_
      first
        | (have hr : rdW n g p = none := by
             unfold rdW
             rw [tw, on, decide_eq_true hq1, decide_eq_false hc59]
             rfl
           rw [hr]
           exact ⟨rfl, _, _, _, _, k2, fun k f s p2 z => (nomatch z), fr2⟩)
        | (have hr : rdW n g p = some (sg n g p, (rdN n g (p + 1)).1, 0, (rdN n g (p + 1)).2 + 1) := by
             unfold rdW
             rw [tw, on, decide_eq_true hq1, decide_eq_true hc59]
             rfl
           rw [hr]
           refine ⟨rfl, _, _, _, _, hu_same, fun k f s p2 z => ?_, fun q q1 => (hu_ne q1).trans (fr2 q q1)⟩
           cases z
           exact ⟨rfl, rfl, rfl, rfl⟩)
    · skip
      refine g_cV2x dX5_readWork_147 lX5_62 vX5_passes (ct_passesF X (p := (rdN n g (p + 1)).2) hk (by omega) tx2 k2 hc59) (by first | assumption | (repeat' (first | assumption | exact hu_same | exact Ne.symm (by assumption) | apply hu_n1))) rfl ⟨Nat.le_of_ble_eq_true rfl, Nat.le_of_ble_eq_true rfl⟩ (Nat.le_of_ble_eq_true rfl) ⟨Nat.le_of_ble_eq_true rfl, Nat.le_of_ble_eq_true rfl⟩ ?_
      refine g_if_eq (tgt := 157) dX5_readWork_150 (by decide) (fun c10 => ?_) (fun c10 => absurd (by decide) c10)
      refine g_iconst (v := 0) dX5_readWork_157 (by decide) ?_
      refine g_zret dX5_readWork_158 rfl (by decide) (Nat.le_refl _) (Nat.le_refl _) ?_
      first
        | (have hr : rdW n g p = none := by
             unfold rdW
             rw [tw, on, decide_eq_true hq1, decide_eq_false hc59]
             rfl
           rw [hr]
           exact ⟨rfl, _, _, _, _, k2, fun k f s p2 z => (nomatch z), fr2⟩)
        | (have hr : rdW n g p = some (sg n g p, (rdN n g (p + 1)).1, 0, (rdN n g (p + 1)).2 + 1) := by
             unfold rdW
             rw [tw, on, decide_eq_true hq1, decide_eq_true hc59]
             rfl
           rw [hr]
           refine ⟨rfl, _, _, _, _, hu_same, fun k f s p2 z => ?_, fun q q1 => (hu_ne q1).trans (fr2 q q1)⟩
           cases z
           exact ⟨rfl, rfl, rfl, rfl⟩)
  · skip
    have hq1 := c6
    refine g_iconst (v := 0) dX5_readWork_109 (by decide) ?_
    refine g_zret dX5_readWork_110 rfl (by decide) (Nat.le_refl _) (Nat.le_refl _) ?_
    have hr : rdW n g p = none := by
      unfold rdW
      rw [tw, on, decide_eq_false hq1]
      rfl
    rw [hr]
    exact ⟨rfl, _, _, _, _, k2, fun k f s p2 z => (nomatch z), fr2⟩

set_option maxHeartbeats 4000000 in
set_option maxRecDepth 100000 in
theorem ct_readWork116 (X : Cx) {h : Hp} {a b sb n p : Nat} {g : Nat → Int32} {wd fp fr fc kd fi se : Int32}  (hk : TOk n g) (hp : p < 800) (ht : TxtAt X h b sb n g) (hs : h a = some (ob 5 (scrL wd fp fr fc (nI p) kd fi se))) (hkc : sg n g p = 116) : Ct X mX5_readWork 2 0 0 [.ref a, .ref b] h (fun u h1 => u = some (.int (bI (rdW n g p).isSome)) ∧ ∃ pl2 kd2 fi2 se2, h1 a = some (ob 5 (scrL wd fp fr fc pl2 kd2 fi2 se2)) ∧ (∀ k f s p2, rdW n g p = some (k, f, s, p2) → kd2 = k ∧ fi2 = f ∧ se2 = s ∧ pl2 = nI p2) ∧ ∀ q, q ≠ a → h1 q = h q) := by
  unfold scrL at hs
  have hb0 := ht.1
  have nb := ne_ob hb0 hs (by decide)
  have nsb : sb ≠ a := Ne.symm (ne_bc hs ht.2)
  have gn := sg_nar (p := p) hk
  have gf := sg_fit (p := p) hk
  have r1 := rdN_2 (n := n) (p := p + 1) (g := g)
  have r2 := rdN_2 (n := n) (p := (rdN n g (p + 1)).2 + 1) (g := g)
  have tw : twoB (sg n g p) = false := by rw [hkc]; decide
  have on : oneB (sg n g p) = true := by rw [hkc]; decide
  have kf : ∀ (x y z w : Int32) (hh : Hp), (∀ q, q ≠ a → hh q = h q) → ∀ q, q ≠ a → hu hh a (ob 5 (scrL wd fp fr fc x y z w)) q = h q := fun x y z w hh e q q1 => (hu_ne q1).trans (e q q1)
  refine Ct.ofG vX5_readWork.1.2.2.1 (Nat.le_of_ble_eq_true rfl) ?_
  show G X RX5 cX5_readWork 3 (some .boolean) "readWork" (Rm 2 0 0) (Fm X (fun u h1 => u = some (.int (bI (rdW n g p).isSome)) ∧ ∃ pl2 kd2 fi2 se2, h1 a = some (ob 5 (scrL wd fp fr fc pl2 kd2 fi2 se2)) ∧ (∀ k f s p2, rdW n g p = some (k, f, s, p2) → kd2 = k ∧ fi2 = f ∧ se2 = s ∧ pl2 = nI p2) ∧ ∀ q, q ≠ a → h1 q = h q) 0 0) 0 0 0 [(0, .ref a), (1, .ref b)] [] h
  refine g_aload_n dX5_readWork_0 (by rfl) (by first | exact isRf_r | exact isRf_n | exact isRf_o | assumption) ?_
  refine g_aload_n dX5_readWork_1 (by rfl) (by first | exact isRf_r | exact isRf_n | exact isRf_o | assumption) ?_
  refine g_aload_n dX5_readWork_2 (by rfl) (by first | exact isRf_r | exact isRf_n | exact isRf_o | assumption) ?_
  refine g_getf dX5_readWork_3 fX5_16 (by first | assumption | (repeat' (first | assumption | exact hu_same | exact Ne.symm (by assumption) | apply hu_n1))) (by rfl) ?_
  refine g_cV1x dX5_readWork_6 lX5_54 vX7_signAt (ct_X7_signAt X hk (by omega) ht) (by first | assumption | (repeat' (first | assumption | exact hu_same | exact Ne.symm (by assumption) | apply hu_n1))) rfl ⟨Nat.le_of_ble_eq_true rfl, Nat.le_of_ble_eq_true rfl⟩ (Nat.le_of_ble_eq_true rfl) ⟨Nat.le_of_ble_eq_true rfl, Nat.le_of_ble_eq_true rfl⟩ ?_
  refine g_putf (ty := .char) dX5_readWork_9 fX5_32 (by decide +kernel) gn gf (by first | assumption | (repeat' (first | assumption | exact hu_same | exact Ne.symm (by assumption) | apply hu_n1))) (by exact Nat.le_of_ble_eq_true rfl) ?_
  refine g_aload_n dX5_readWork_12 (by rfl) (by first | exact isRf_r | exact isRf_n | exact isRf_o | assumption) ?_
  refine g_getf dX5_readWork_13 fX5_32 (by first | assumption | (repeat' (first | assumption | exact hu_same | exact Ne.symm (by assumption) | apply hu_n1))) (by rfl) ?_
  refine g_bipush (v := 100) dX5_readWork_16 (by decide) ?_
  refine g_icmp_eq (tgt := 39) dX5_readWork_18 (by decide) (fun c1 => absurd (hkc.symm.trans c1) (by decide)) (fun c1 => ?_)
  refine g_aload_n dX5_readWork_21 (by rfl) (by first | exact isRf_r | exact isRf_n | exact isRf_o | assumption) ?_
  refine g_getf dX5_readWork_22 fX5_32 (by first | assumption | (repeat' (first | assumption | exact hu_same | exact Ne.symm (by assumption) | apply hu_n1))) (by rfl) ?_
  refine g_bipush (v := 104) dX5_readWork_25 (by decide) ?_
  refine g_icmp_eq (tgt := 39) dX5_readWork_27 (by decide) (fun c2 => absurd (hkc.symm.trans c2) (by decide)) (fun c2 => ?_)
  refine g_aload_n dX5_readWork_30 (by rfl) (by first | exact isRf_r | exact isRf_n | exact isRf_o | assumption) ?_
  refine g_getf dX5_readWork_31 fX5_32 (by first | assumption | (repeat' (first | assumption | exact hu_same | exact Ne.symm (by assumption) | apply hu_n1))) (by rfl) ?_
  refine g_bipush (v := 115) dX5_readWork_34 (by decide) ?_
  refine g_icmp_ne (tgt := 43) dX5_readWork_36 (by decide) (fun c3 => ?_) (fun c3 => absurd (hkc.symm.trans c3) (by decide))
  refine g_iconst (v := 0) dX5_readWork_43 (by decide) ?_
  refine g_istore_n (L1 := [(0, _), (1, _), (2, _)]) dX5_readWork_44 (by decide) (by rfl) ?_
  refine g_iload_n dX5_readWork_45 (by rfl) ?_
  refine g_if_ne (tgt := 78) dX5_readWork_46 (by decide) (fun c4 => absurd rfl c4) (fun c4 => ?_)
  refine g_aload_n dX5_readWork_49 (by rfl) (by first | exact isRf_r | exact isRf_n | exact isRf_o | assumption) ?_
  refine g_getf dX5_readWork_50 fX5_32 (by first | assumption | (repeat' (first | assumption | exact hu_same | exact Ne.symm (by assumption) | apply hu_n1))) (by rfl) ?_
  refine g_bipush (v := 114) dX5_readWork_53 (by decide) ?_
  refine g_icmp_eq (tgt := 78) dX5_readWork_55 (by decide) (fun c5 => absurd (hkc.symm.trans c5) (by decide)) (fun c5 => ?_)
  refine g_aload_n dX5_readWork_58 (by rfl) (by first | exact isRf_r | exact isRf_n | exact isRf_o | assumption) ?_
  refine g_getf dX5_readWork_59 fX5_32 (by first | assumption | (repeat' (first | assumption | exact hu_same | exact Ne.symm (by assumption) | apply hu_n1))) (by rfl) ?_
  refine g_bipush (v := 116) dX5_readWork_62 (by decide) ?_
  refine g_icmp_eq (tgt := 78) dX5_readWork_64 (by decide) (fun c6 => ?_) (fun c6 => absurd hkc c6)
  refine g_aload_n dX5_readWork_78 (by rfl) (by first | exact isRf_r | exact isRf_n | exact isRf_o | assumption) ?_
  refine g_dup dX5_readWork_79 (by rfl) ?_
  refine g_getf dX5_readWork_80 fX5_16 (by first | assumption | (repeat' (first | assumption | exact hu_same | exact Ne.symm (by assumption) | apply hu_n1))) (by rfl) ?_
  refine g_iconst (v := 1) dX5_readWork_83 (by decide) ?_
  refine g_iadd dX5_readWork_84 ?_
  refine g_putf (ty := .int) dX5_readWork_85 fX5_16 (by decide +kernel) (by rfl) (by rfl) (by first | assumption | (repeat' (first | assumption | exact hu_same | exact Ne.symm (by assumption) | apply hu_n1))) (by exact Nat.le_of_ble_eq_true rfl) ?_
  refine g_gen (fun h1 e1 => ?_)
  have fr1 : ∀ q, q ≠ a → h1 q = h q := fun q q1 => by rw [e1]; simp only [hu_ne q1]
  have tx1 : TxtAt X h1 b sb n g := ⟨(fr1 b nb).trans ht.1, (fr1 sb nsb).trans ht.2⟩
  have hb1 := tx1.1
  have k1 : h1 a = some (ob 5 (scrL wd fp fr fc (nI (p + 1)) (sg n g p) fi se)) := by
    rw [e1, ← nI_1]
    exact hu_same
  unfold scrL at k1
  refine g_aload_n dX5_readWork_88 (by rfl) (by first | exact isRf_r | exact isRf_n | exact isRf_o | assumption) ?_
  refine g_aload_n dX5_readWork_89 (by rfl) (by first | exact isRf_r | exact isRf_n | exact isRf_o | assumption) ?_
  refine g_aload_n dX5_readWork_90 (by rfl) (by first | exact isRf_r | exact isRf_n | exact isRf_o | assumption) ?_
  refine g_cV1x dX5_readWork_91 lX5_58 vX5_readNumber (ct_X5_readNumber X hk (by omega) tx1 k1) (by first | assumption | (repeat' (first | assumption | exact hu_same | exact Ne.symm (by assumption) | apply hu_n1))) rfl ⟨Nat.le_of_ble_eq_true rfl, Nat.le_of_ble_eq_true rfl⟩ (Nat.le_of_ble_eq_true rfl) ⟨Nat.le_of_ble_eq_true rfl, Nat.le_of_ble_eq_true rfl⟩ ?_
  refine g_putf (ty := .int) dX5_readWork_94 fX5_36 (by decide +kernel) (by rfl) (by rfl) (by first | assumption | (repeat' (first | assumption | exact hu_same | exact Ne.symm (by assumption) | apply hu_n1))) (by exact Nat.le_of_ble_eq_true rfl) ?_
  refine g_aload_n dX5_readWork_97 (by rfl) (by first | exact isRf_r | exact isRf_n | exact isRf_o | assumption) ?_
  refine g_iconst (v := 0) dX5_readWork_98 (by decide) ?_
  refine g_putf (ty := .int) dX5_readWork_99 fX5_39 (by decide +kernel) (by rfl) (by rfl) (by first | assumption | (repeat' (first | assumption | exact hu_same | exact Ne.symm (by assumption) | apply hu_n1))) (by exact Nat.le_of_ble_eq_true rfl) ?_
  refine g_gen (fun h2 e2 => ?_)
  have fr2 : ∀ q, q ≠ a → h2 q = h q := fun q q1 => by
    rw [e2]
    simp only [hu_ne q1]
    exact fr1 q q1
  have tx2 : TxtAt X h2 b sb n g := ⟨(fr2 b nb).trans ht.1, (fr2 sb nsb).trans ht.2⟩
  have hb2 := tx2.1
  have k2 : h2 a = some (ob 5 (scrL wd fp fr fc (nI (rdN n g (p + 1)).2) (sg n g p) (rdN n g (p + 1)).1 0)) := by
    rw [e2]
    exact hu_same
  unfold scrL at k2
  refine g_aload_n dX5_readWork_102 (by rfl) (by first | exact isRf_r | exact isRf_n | exact isRf_o | assumption) ?_
  refine g_getf dX5_readWork_103 fX5_36 (by first | assumption | (repeat' (first | assumption | exact hu_same | exact Ne.symm (by assumption) | apply hu_n1))) (by rfl) ?_
  refine g_if_ge (tgt := 111) dX5_readWork_106 (by decide) (fun c7 => ?_) (fun c7 => ?_)
  · skip
    have hq1 := c7
    refine g_iload_n dX5_readWork_111 (by rfl) ?_
    refine g_if_eq (tgt := 136) dX5_readWork_112 (by decide) (fun c8 => ?_) (fun c8 => absurd (by decide) c8)
    refine g_aload_n dX5_readWork_136 (by rfl) (by first | exact isRf_r | exact isRf_n | exact isRf_o | assumption) ?_
    refine g_getf dX5_readWork_137 fX5_39 (by first | assumption | (repeat' (first | assumption | exact hu_same | exact Ne.symm (by assumption) | apply hu_n1))) (by rfl) ?_
    refine g_if_lt (tgt := 157) dX5_readWork_140 (by decide) (fun c9 => absurd c9 (by decide)) (fun c9 => ?_)
    refine g_aload_n dX5_readWork_143 (by rfl) (by first | exact isRf_r | exact isRf_n | exact isRf_o | assumption) ?_
    refine g_aload_n dX5_readWork_144 (by rfl) (by first | exact isRf_r | exact isRf_n | exact isRf_o | assumption) ?_
    refine g_bipush (v := 59) dX5_readWork_145 (by decide) ?_
    by_cases hc59 : sg n g (rdN n g (p + 1)).2 = 59
    · skip
      refine g_cV2x dX5_readWork_147 lX5_62 vX5_passes (ct_passesT X (p := (rdN n g (p + 1)).2) hk (by omega) tx2 k2 hc59) (by first | assumption | (repeat' (first | assumption | exact hu_same | exact Ne.symm (by assumption) | apply hu_n1))) rfl ⟨Nat.le_of_ble_eq_true rfl, Nat.le_of_ble_eq_true rfl⟩ (Nat.le_of_ble_eq_true rfl) ⟨Nat.le_of_ble_eq_true rfl, Nat.le_of_ble_eq_true rfl⟩ ?_
      refine g_if_eq (tgt := 157) dX5_readWork_150 (by decide) (fun c10 => absurd c10 (by decide)) (fun c10 => ?_)
      refine g_iconst (v := 1) dX5_readWork_153 (by decide) ?_
      refine g_goto (tgt := 158) dX5_readWork_154 (by decide) ?_
      refine g_zret dX5_readWork_158 rfl (by decide) (Nat.le_refl _) (Nat.le_refl _) ?_
      first
        | (have hr : rdW n g p = none := by
             unfold rdW
             rw [tw, on, decide_eq_true hq1, decide_eq_false hc59]
             rfl
           rw [hr]
           exact ⟨rfl, _, _, _, _, k2, fun k f s p2 z => (nomatch z), fr2⟩)
        | (have hr : rdW n g p = some (sg n g p, (rdN n g (p + 1)).1, 0, (rdN n g (p + 1)).2 + 1) := by
             unfold rdW
             rw [tw, on, decide_eq_true hq1, decide_eq_true hc59]
             rfl
           rw [hr]
           refine ⟨rfl, _, _, _, _, hu_same, fun k f s p2 z => ?_, fun q q1 => (hu_ne q1).trans (fr2 q q1)⟩
           cases z
           exact ⟨rfl, rfl, rfl, rfl⟩)
    · skip
      refine g_cV2x dX5_readWork_147 lX5_62 vX5_passes (ct_passesF X (p := (rdN n g (p + 1)).2) hk (by omega) tx2 k2 hc59) (by first | assumption | (repeat' (first | assumption | exact hu_same | exact Ne.symm (by assumption) | apply hu_n1))) rfl ⟨Nat.le_of_ble_eq_true rfl, Nat.le_of_ble_eq_true rfl⟩ (Nat.le_of_ble_eq_true rfl) ⟨Nat.le_of_ble_eq_true rfl, Nat.le_of_ble_eq_true rfl⟩ ?_
      refine g_if_eq (tgt := 157) dX5_readWork_150 (by decide) (fun c11 => ?_) (fun c11 => absurd (by decide) c11)
      refine g_iconst (v := 0) dX5_readWork_157 (by decide) ?_
      refine g_zret dX5_readWork_158 rfl (by decide) (Nat.le_refl _) (Nat.le_refl _) ?_
      first
        | (have hr : rdW n g p = none := by
             unfold rdW
             rw [tw, on, decide_eq_true hq1, decide_eq_false hc59]
             rfl
           rw [hr]
           exact ⟨rfl, _, _, _, _, k2, fun k f s p2 z => (nomatch z), fr2⟩)
        | (have hr : rdW n g p = some (sg n g p, (rdN n g (p + 1)).1, 0, (rdN n g (p + 1)).2 + 1) := by
             unfold rdW
             rw [tw, on, decide_eq_true hq1, decide_eq_true hc59]
             rfl
           rw [hr]
           refine ⟨rfl, _, _, _, _, hu_same, fun k f s p2 z => ?_, fun q q1 => (hu_ne q1).trans (fr2 q q1)⟩
           cases z
           exact ⟨rfl, rfl, rfl, rfl⟩)
  · skip
    have hq1 := c7
    refine g_iconst (v := 0) dX5_readWork_109 (by decide) ?_
    refine g_zret dX5_readWork_110 rfl (by decide) (Nat.le_refl _) (Nat.le_refl _) ?_
    have hr : rdW n g p = none := by
      unfold rdW
      rw [tw, on, decide_eq_false hq1]
      rfl
    rw [hr]
    exact ⟨rfl, _, _, _, _, k2, fun k f s p2 z => (nomatch z), fr2⟩

set_option maxHeartbeats 4000000 in
set_option maxRecDepth 100000 in
theorem ct_readWork101 (X : Cx) {h : Hp} {a b sb n p : Nat} {g : Nat → Int32} {wd fp fr fc kd fi se : Int32}  (hk : TOk n g) (hp : p < 800) (ht : TxtAt X h b sb n g) (hs : h a = some (ob 5 (scrL wd fp fr fc (nI p) kd fi se))) (hkc : sg n g p = 101) : Ct X mX5_readWork 2 0 0 [.ref a, .ref b] h (fun u h1 => u = some (.int (bI (rdW n g p).isSome)) ∧ ∃ pl2 kd2 fi2 se2, h1 a = some (ob 5 (scrL wd fp fr fc pl2 kd2 fi2 se2)) ∧ (∀ k f s p2, rdW n g p = some (k, f, s, p2) → kd2 = k ∧ fi2 = f ∧ se2 = s ∧ pl2 = nI p2) ∧ ∀ q, q ≠ a → h1 q = h q) := by
  unfold scrL at hs
  have hb0 := ht.1
  have nb := ne_ob hb0 hs (by decide)
  have nsb : sb ≠ a := Ne.symm (ne_bc hs ht.2)
  have gn := sg_nar (p := p) hk
  have gf := sg_fit (p := p) hk
  have r1 := rdN_2 (n := n) (p := p + 1) (g := g)
  have r2 := rdN_2 (n := n) (p := (rdN n g (p + 1)).2 + 1) (g := g)
  have tw : twoB (sg n g p) = false := by rw [hkc]; decide
  have on : oneB (sg n g p) = true := by rw [hkc]; decide
  have kf : ∀ (x y z w : Int32) (hh : Hp), (∀ q, q ≠ a → hh q = h q) → ∀ q, q ≠ a → hu hh a (ob 5 (scrL wd fp fr fc x y z w)) q = h q := fun x y z w hh e q q1 => (hu_ne q1).trans (e q q1)
  refine Ct.ofG vX5_readWork.1.2.2.1 (Nat.le_of_ble_eq_true rfl) ?_
  show G X RX5 cX5_readWork 3 (some .boolean) "readWork" (Rm 2 0 0) (Fm X (fun u h1 => u = some (.int (bI (rdW n g p).isSome)) ∧ ∃ pl2 kd2 fi2 se2, h1 a = some (ob 5 (scrL wd fp fr fc pl2 kd2 fi2 se2)) ∧ (∀ k f s p2, rdW n g p = some (k, f, s, p2) → kd2 = k ∧ fi2 = f ∧ se2 = s ∧ pl2 = nI p2) ∧ ∀ q, q ≠ a → h1 q = h q) 0 0) 0 0 0 [(0, .ref a), (1, .ref b)] [] h
  refine g_aload_n dX5_readWork_0 (by rfl) (by first | exact isRf_r | exact isRf_n | exact isRf_o | assumption) ?_
  refine g_aload_n dX5_readWork_1 (by rfl) (by first | exact isRf_r | exact isRf_n | exact isRf_o | assumption) ?_
  refine g_aload_n dX5_readWork_2 (by rfl) (by first | exact isRf_r | exact isRf_n | exact isRf_o | assumption) ?_
  refine g_getf dX5_readWork_3 fX5_16 (by first | assumption | (repeat' (first | assumption | exact hu_same | exact Ne.symm (by assumption) | apply hu_n1))) (by rfl) ?_
  refine g_cV1x dX5_readWork_6 lX5_54 vX7_signAt (ct_X7_signAt X hk (by omega) ht) (by first | assumption | (repeat' (first | assumption | exact hu_same | exact Ne.symm (by assumption) | apply hu_n1))) rfl ⟨Nat.le_of_ble_eq_true rfl, Nat.le_of_ble_eq_true rfl⟩ (Nat.le_of_ble_eq_true rfl) ⟨Nat.le_of_ble_eq_true rfl, Nat.le_of_ble_eq_true rfl⟩ ?_
  refine g_putf (ty := .char) dX5_readWork_9 fX5_32 (by decide +kernel) gn gf (by first | assumption | (repeat' (first | assumption | exact hu_same | exact Ne.symm (by assumption) | apply hu_n1))) (by exact Nat.le_of_ble_eq_true rfl) ?_
  refine g_aload_n dX5_readWork_12 (by rfl) (by first | exact isRf_r | exact isRf_n | exact isRf_o | assumption) ?_
  refine g_getf dX5_readWork_13 fX5_32 (by first | assumption | (repeat' (first | assumption | exact hu_same | exact Ne.symm (by assumption) | apply hu_n1))) (by rfl) ?_
  refine g_bipush (v := 100) dX5_readWork_16 (by decide) ?_
  refine g_icmp_eq (tgt := 39) dX5_readWork_18 (by decide) (fun c1 => absurd (hkc.symm.trans c1) (by decide)) (fun c1 => ?_)
  refine g_aload_n dX5_readWork_21 (by rfl) (by first | exact isRf_r | exact isRf_n | exact isRf_o | assumption) ?_
  refine g_getf dX5_readWork_22 fX5_32 (by first | assumption | (repeat' (first | assumption | exact hu_same | exact Ne.symm (by assumption) | apply hu_n1))) (by rfl) ?_
  refine g_bipush (v := 104) dX5_readWork_25 (by decide) ?_
  refine g_icmp_eq (tgt := 39) dX5_readWork_27 (by decide) (fun c2 => absurd (hkc.symm.trans c2) (by decide)) (fun c2 => ?_)
  refine g_aload_n dX5_readWork_30 (by rfl) (by first | exact isRf_r | exact isRf_n | exact isRf_o | assumption) ?_
  refine g_getf dX5_readWork_31 fX5_32 (by first | assumption | (repeat' (first | assumption | exact hu_same | exact Ne.symm (by assumption) | apply hu_n1))) (by rfl) ?_
  refine g_bipush (v := 115) dX5_readWork_34 (by decide) ?_
  refine g_icmp_ne (tgt := 43) dX5_readWork_36 (by decide) (fun c3 => ?_) (fun c3 => absurd (hkc.symm.trans c3) (by decide))
  refine g_iconst (v := 0) dX5_readWork_43 (by decide) ?_
  refine g_istore_n (L1 := [(0, _), (1, _), (2, _)]) dX5_readWork_44 (by decide) (by rfl) ?_
  refine g_iload_n dX5_readWork_45 (by rfl) ?_
  refine g_if_ne (tgt := 78) dX5_readWork_46 (by decide) (fun c4 => absurd rfl c4) (fun c4 => ?_)
  refine g_aload_n dX5_readWork_49 (by rfl) (by first | exact isRf_r | exact isRf_n | exact isRf_o | assumption) ?_
  refine g_getf dX5_readWork_50 fX5_32 (by first | assumption | (repeat' (first | assumption | exact hu_same | exact Ne.symm (by assumption) | apply hu_n1))) (by rfl) ?_
  refine g_bipush (v := 114) dX5_readWork_53 (by decide) ?_
  refine g_icmp_eq (tgt := 78) dX5_readWork_55 (by decide) (fun c5 => absurd (hkc.symm.trans c5) (by decide)) (fun c5 => ?_)
  refine g_aload_n dX5_readWork_58 (by rfl) (by first | exact isRf_r | exact isRf_n | exact isRf_o | assumption) ?_
  refine g_getf dX5_readWork_59 fX5_32 (by first | assumption | (repeat' (first | assumption | exact hu_same | exact Ne.symm (by assumption) | apply hu_n1))) (by rfl) ?_
  refine g_bipush (v := 116) dX5_readWork_62 (by decide) ?_
  refine g_icmp_eq (tgt := 78) dX5_readWork_64 (by decide) (fun c6 => absurd (hkc.symm.trans c6) (by decide)) (fun c6 => ?_)
  refine g_aload_n dX5_readWork_67 (by rfl) (by first | exact isRf_r | exact isRf_n | exact isRf_o | assumption) ?_
  refine g_getf dX5_readWork_68 fX5_32 (by first | assumption | (repeat' (first | assumption | exact hu_same | exact Ne.symm (by assumption) | apply hu_n1))) (by rfl) ?_
  refine g_bipush (v := 101) dX5_readWork_71 (by decide) ?_
  refine g_icmp_eq (tgt := 78) dX5_readWork_73 (by decide) (fun c7 => ?_) (fun c7 => absurd hkc c7)
  refine g_aload_n dX5_readWork_78 (by rfl) (by first | exact isRf_r | exact isRf_n | exact isRf_o | assumption) ?_
  refine g_dup dX5_readWork_79 (by rfl) ?_
  refine g_getf dX5_readWork_80 fX5_16 (by first | assumption | (repeat' (first | assumption | exact hu_same | exact Ne.symm (by assumption) | apply hu_n1))) (by rfl) ?_
  refine g_iconst (v := 1) dX5_readWork_83 (by decide) ?_
  refine g_iadd dX5_readWork_84 ?_
  refine g_putf (ty := .int) dX5_readWork_85 fX5_16 (by decide +kernel) (by rfl) (by rfl) (by first | assumption | (repeat' (first | assumption | exact hu_same | exact Ne.symm (by assumption) | apply hu_n1))) (by exact Nat.le_of_ble_eq_true rfl) ?_
  refine g_gen (fun h1 e1 => ?_)
  have fr1 : ∀ q, q ≠ a → h1 q = h q := fun q q1 => by rw [e1]; simp only [hu_ne q1]
  have tx1 : TxtAt X h1 b sb n g := ⟨(fr1 b nb).trans ht.1, (fr1 sb nsb).trans ht.2⟩
  have hb1 := tx1.1
  have k1 : h1 a = some (ob 5 (scrL wd fp fr fc (nI (p + 1)) (sg n g p) fi se)) := by
    rw [e1, ← nI_1]
    exact hu_same
  unfold scrL at k1
  refine g_aload_n dX5_readWork_88 (by rfl) (by first | exact isRf_r | exact isRf_n | exact isRf_o | assumption) ?_
  refine g_aload_n dX5_readWork_89 (by rfl) (by first | exact isRf_r | exact isRf_n | exact isRf_o | assumption) ?_
  refine g_aload_n dX5_readWork_90 (by rfl) (by first | exact isRf_r | exact isRf_n | exact isRf_o | assumption) ?_
  refine g_cV1x dX5_readWork_91 lX5_58 vX5_readNumber (ct_X5_readNumber X hk (by omega) tx1 k1) (by first | assumption | (repeat' (first | assumption | exact hu_same | exact Ne.symm (by assumption) | apply hu_n1))) rfl ⟨Nat.le_of_ble_eq_true rfl, Nat.le_of_ble_eq_true rfl⟩ (Nat.le_of_ble_eq_true rfl) ⟨Nat.le_of_ble_eq_true rfl, Nat.le_of_ble_eq_true rfl⟩ ?_
  refine g_putf (ty := .int) dX5_readWork_94 fX5_36 (by decide +kernel) (by rfl) (by rfl) (by first | assumption | (repeat' (first | assumption | exact hu_same | exact Ne.symm (by assumption) | apply hu_n1))) (by exact Nat.le_of_ble_eq_true rfl) ?_
  refine g_aload_n dX5_readWork_97 (by rfl) (by first | exact isRf_r | exact isRf_n | exact isRf_o | assumption) ?_
  refine g_iconst (v := 0) dX5_readWork_98 (by decide) ?_
  refine g_putf (ty := .int) dX5_readWork_99 fX5_39 (by decide +kernel) (by rfl) (by rfl) (by first | assumption | (repeat' (first | assumption | exact hu_same | exact Ne.symm (by assumption) | apply hu_n1))) (by exact Nat.le_of_ble_eq_true rfl) ?_
  refine g_gen (fun h2 e2 => ?_)
  have fr2 : ∀ q, q ≠ a → h2 q = h q := fun q q1 => by
    rw [e2]
    simp only [hu_ne q1]
    exact fr1 q q1
  have tx2 : TxtAt X h2 b sb n g := ⟨(fr2 b nb).trans ht.1, (fr2 sb nsb).trans ht.2⟩
  have hb2 := tx2.1
  have k2 : h2 a = some (ob 5 (scrL wd fp fr fc (nI (rdN n g (p + 1)).2) (sg n g p) (rdN n g (p + 1)).1 0)) := by
    rw [e2]
    exact hu_same
  unfold scrL at k2
  refine g_aload_n dX5_readWork_102 (by rfl) (by first | exact isRf_r | exact isRf_n | exact isRf_o | assumption) ?_
  refine g_getf dX5_readWork_103 fX5_36 (by first | assumption | (repeat' (first | assumption | exact hu_same | exact Ne.symm (by assumption) | apply hu_n1))) (by rfl) ?_
  refine g_if_ge (tgt := 111) dX5_readWork_106 (by decide) (fun c8 => ?_) (fun c8 => ?_)
  · skip
    have hq1 := c8
    refine g_iload_n dX5_readWork_111 (by rfl) ?_
    refine g_if_eq (tgt := 136) dX5_readWork_112 (by decide) (fun c9 => ?_) (fun c9 => absurd (by decide) c9)
    refine g_aload_n dX5_readWork_136 (by rfl) (by first | exact isRf_r | exact isRf_n | exact isRf_o | assumption) ?_
    refine g_getf dX5_readWork_137 fX5_39 (by first | assumption | (repeat' (first | assumption | exact hu_same | exact Ne.symm (by assumption) | apply hu_n1))) (by rfl) ?_
    refine g_if_lt (tgt := 157) dX5_readWork_140 (by decide) (fun c10 => absurd c10 (by decide)) (fun c10 => ?_)
    refine g_aload_n dX5_readWork_143 (by rfl) (by first | exact isRf_r | exact isRf_n | exact isRf_o | assumption) ?_
    refine g_aload_n dX5_readWork_144 (by rfl) (by first | exact isRf_r | exact isRf_n | exact isRf_o | assumption) ?_
    refine g_bipush (v := 59) dX5_readWork_145 (by decide) ?_
    by_cases hc59 : sg n g (rdN n g (p + 1)).2 = 59
    · skip
      refine g_cV2x dX5_readWork_147 lX5_62 vX5_passes (ct_passesT X (p := (rdN n g (p + 1)).2) hk (by omega) tx2 k2 hc59) (by first | assumption | (repeat' (first | assumption | exact hu_same | exact Ne.symm (by assumption) | apply hu_n1))) rfl ⟨Nat.le_of_ble_eq_true rfl, Nat.le_of_ble_eq_true rfl⟩ (Nat.le_of_ble_eq_true rfl) ⟨Nat.le_of_ble_eq_true rfl, Nat.le_of_ble_eq_true rfl⟩ ?_
      refine g_if_eq (tgt := 157) dX5_readWork_150 (by decide) (fun c11 => absurd c11 (by decide)) (fun c11 => ?_)
      refine g_iconst (v := 1) dX5_readWork_153 (by decide) ?_
      refine g_goto (tgt := 158) dX5_readWork_154 (by decide) ?_
      refine g_zret dX5_readWork_158 rfl (by decide) (Nat.le_refl _) (Nat.le_refl _) ?_
      first
        | (have hr : rdW n g p = none := by
             unfold rdW
             rw [tw, on, decide_eq_true hq1, decide_eq_false hc59]
             rfl
           rw [hr]
           exact ⟨rfl, _, _, _, _, k2, fun k f s p2 z => (nomatch z), fr2⟩)
        | (have hr : rdW n g p = some (sg n g p, (rdN n g (p + 1)).1, 0, (rdN n g (p + 1)).2 + 1) := by
             unfold rdW
             rw [tw, on, decide_eq_true hq1, decide_eq_true hc59]
             rfl
           rw [hr]
           refine ⟨rfl, _, _, _, _, hu_same, fun k f s p2 z => ?_, fun q q1 => (hu_ne q1).trans (fr2 q q1)⟩
           cases z
           exact ⟨rfl, rfl, rfl, rfl⟩)
    · skip
      refine g_cV2x dX5_readWork_147 lX5_62 vX5_passes (ct_passesF X (p := (rdN n g (p + 1)).2) hk (by omega) tx2 k2 hc59) (by first | assumption | (repeat' (first | assumption | exact hu_same | exact Ne.symm (by assumption) | apply hu_n1))) rfl ⟨Nat.le_of_ble_eq_true rfl, Nat.le_of_ble_eq_true rfl⟩ (Nat.le_of_ble_eq_true rfl) ⟨Nat.le_of_ble_eq_true rfl, Nat.le_of_ble_eq_true rfl⟩ ?_
      refine g_if_eq (tgt := 157) dX5_readWork_150 (by decide) (fun c12 => ?_) (fun c12 => absurd (by decide) c12)
      refine g_iconst (v := 0) dX5_readWork_157 (by decide) ?_
      refine g_zret dX5_readWork_158 rfl (by decide) (Nat.le_refl _) (Nat.le_refl _) ?_
      first
        | (have hr : rdW n g p = none := by
             unfold rdW
             rw [tw, on, decide_eq_true hq1, decide_eq_false hc59]
             rfl
           rw [hr]
           exact ⟨rfl, _, _, _, _, k2, fun k f s p2 z => (nomatch z), fr2⟩)
        | (have hr : rdW n g p = some (sg n g p, (rdN n g (p + 1)).1, 0, (rdN n g (p + 1)).2 + 1) := by
             unfold rdW
             rw [tw, on, decide_eq_true hq1, decide_eq_true hc59]
             rfl
           rw [hr]
           refine ⟨rfl, _, _, _, _, hu_same, fun k f s p2 z => ?_, fun q q1 => (hu_ne q1).trans (fr2 q q1)⟩
           cases z
           exact ⟨rfl, rfl, rfl, rfl⟩)
  · skip
    have hq1 := c8
    refine g_iconst (v := 0) dX5_readWork_109 (by decide) ?_
    refine g_zret dX5_readWork_110 rfl (by decide) (Nat.le_refl _) (Nat.le_refl _) ?_
    have hr : rdW n g p = none := by
      unfold rdW
      rw [tw, on, decide_eq_false hq1]
      rfl
    rw [hr]
    exact ⟨rfl, _, _, _, _, k2, fun k f s p2 z => (nomatch z), fr2⟩

set_option maxHeartbeats 4000000 in
set_option maxRecDepth 100000 in
theorem ct_readWorkN (X : Cx) {h : Hp} {a b sb n p : Nat} {g : Nat → Int32} {wd fp fr fc kd fi se : Int32}  (hk : TOk n g) (hp : p < 800) (ht : TxtAt X h b sb n g) (hs : h a = some (ob 5 (scrL wd fp fr fc (nI p) kd fi se))) (hn100 : ¬ sg n g p = 100) (hn104 : ¬ sg n g p = 104) (hn115 : ¬ sg n g p = 115) (hn114 : ¬ sg n g p = 114) (hn116 : ¬ sg n g p = 116) (hn101 : ¬ sg n g p = 101) : Ct X mX5_readWork 2 0 0 [.ref a, .ref b] h (fun u h1 => u = some (.int (bI (rdW n g p).isSome)) ∧ ∃ pl2 kd2 fi2 se2, h1 a = some (ob 5 (scrL wd fp fr fc pl2 kd2 fi2 se2)) ∧ (∀ k f s p2, rdW n g p = some (k, f, s, p2) → kd2 = k ∧ fi2 = f ∧ se2 = s ∧ pl2 = nI p2) ∧ ∀ q, q ≠ a → h1 q = h q) := by
  unfold scrL at hs
  have hb0 := ht.1
  have nb := ne_ob hb0 hs (by decide)
  have nsb : sb ≠ a := Ne.symm (ne_bc hs ht.2)
  have gn := sg_nar (p := p) hk
  have gf := sg_fit (p := p) hk
  have r1 := rdN_2 (n := n) (p := p + 1) (g := g)
  have r2 := rdN_2 (n := n) (p := (rdN n g (p + 1)).2 + 1) (g := g)
  have tw : twoB (sg n g p) = false := by simp [twoB, hn100, hn104, hn115]
  have on : oneB (sg n g p) = false := by simp [oneB, hn114, hn116, hn101]
  have kf : ∀ (x y z w : Int32) (hh : Hp), (∀ q, q ≠ a → hh q = h q) → ∀ q, q ≠ a → hu hh a (ob 5 (scrL wd fp fr fc x y z w)) q = h q := fun x y z w hh e q q1 => (hu_ne q1).trans (e q q1)
  refine Ct.ofG vX5_readWork.1.2.2.1 (Nat.le_of_ble_eq_true rfl) ?_
  show G X RX5 cX5_readWork 3 (some .boolean) "readWork" (Rm 2 0 0) (Fm X (fun u h1 => u = some (.int (bI (rdW n g p).isSome)) ∧ ∃ pl2 kd2 fi2 se2, h1 a = some (ob 5 (scrL wd fp fr fc pl2 kd2 fi2 se2)) ∧ (∀ k f s p2, rdW n g p = some (k, f, s, p2) → kd2 = k ∧ fi2 = f ∧ se2 = s ∧ pl2 = nI p2) ∧ ∀ q, q ≠ a → h1 q = h q) 0 0) 0 0 0 [(0, .ref a), (1, .ref b)] [] h
  refine g_aload_n dX5_readWork_0 (by rfl) (by first | exact isRf_r | exact isRf_n | exact isRf_o | assumption) ?_
  refine g_aload_n dX5_readWork_1 (by rfl) (by first | exact isRf_r | exact isRf_n | exact isRf_o | assumption) ?_
  refine g_aload_n dX5_readWork_2 (by rfl) (by first | exact isRf_r | exact isRf_n | exact isRf_o | assumption) ?_
  refine g_getf dX5_readWork_3 fX5_16 (by first | assumption | (repeat' (first | assumption | exact hu_same | exact Ne.symm (by assumption) | apply hu_n1))) (by rfl) ?_
  refine g_cV1x dX5_readWork_6 lX5_54 vX7_signAt (ct_X7_signAt X hk (by omega) ht) (by first | assumption | (repeat' (first | assumption | exact hu_same | exact Ne.symm (by assumption) | apply hu_n1))) rfl ⟨Nat.le_of_ble_eq_true rfl, Nat.le_of_ble_eq_true rfl⟩ (Nat.le_of_ble_eq_true rfl) ⟨Nat.le_of_ble_eq_true rfl, Nat.le_of_ble_eq_true rfl⟩ ?_
  refine g_putf (ty := .char) dX5_readWork_9 fX5_32 (by decide +kernel) gn gf (by first | assumption | (repeat' (first | assumption | exact hu_same | exact Ne.symm (by assumption) | apply hu_n1))) (by exact Nat.le_of_ble_eq_true rfl) ?_
  refine g_aload_n dX5_readWork_12 (by rfl) (by first | exact isRf_r | exact isRf_n | exact isRf_o | assumption) ?_
  refine g_getf dX5_readWork_13 fX5_32 (by first | assumption | (repeat' (first | assumption | exact hu_same | exact Ne.symm (by assumption) | apply hu_n1))) (by rfl) ?_
  refine g_bipush (v := 100) dX5_readWork_16 (by decide) ?_
  refine g_icmp_eq (tgt := 39) dX5_readWork_18 (by decide) (fun c1 => absurd c1 hn100) (fun c1 => ?_)
  refine g_aload_n dX5_readWork_21 (by rfl) (by first | exact isRf_r | exact isRf_n | exact isRf_o | assumption) ?_
  refine g_getf dX5_readWork_22 fX5_32 (by first | assumption | (repeat' (first | assumption | exact hu_same | exact Ne.symm (by assumption) | apply hu_n1))) (by rfl) ?_
  refine g_bipush (v := 104) dX5_readWork_25 (by decide) ?_
  refine g_icmp_eq (tgt := 39) dX5_readWork_27 (by decide) (fun c2 => absurd c2 hn104) (fun c2 => ?_)
  refine g_aload_n dX5_readWork_30 (by rfl) (by first | exact isRf_r | exact isRf_n | exact isRf_o | assumption) ?_
  refine g_getf dX5_readWork_31 fX5_32 (by first | assumption | (repeat' (first | assumption | exact hu_same | exact Ne.symm (by assumption) | apply hu_n1))) (by rfl) ?_
  refine g_bipush (v := 115) dX5_readWork_34 (by decide) ?_
  refine g_icmp_ne (tgt := 43) dX5_readWork_36 (by decide) (fun c3 => ?_) (fun c3 => absurd c3 hn115)
  refine g_iconst (v := 0) dX5_readWork_43 (by decide) ?_
  refine g_istore_n (L1 := [(0, _), (1, _), (2, _)]) dX5_readWork_44 (by decide) (by rfl) ?_
  refine g_iload_n dX5_readWork_45 (by rfl) ?_
  refine g_if_ne (tgt := 78) dX5_readWork_46 (by decide) (fun c4 => absurd rfl c4) (fun c4 => ?_)
  refine g_aload_n dX5_readWork_49 (by rfl) (by first | exact isRf_r | exact isRf_n | exact isRf_o | assumption) ?_
  refine g_getf dX5_readWork_50 fX5_32 (by first | assumption | (repeat' (first | assumption | exact hu_same | exact Ne.symm (by assumption) | apply hu_n1))) (by rfl) ?_
  refine g_bipush (v := 114) dX5_readWork_53 (by decide) ?_
  refine g_icmp_eq (tgt := 78) dX5_readWork_55 (by decide) (fun c5 => absurd c5 hn114) (fun c5 => ?_)
  refine g_aload_n dX5_readWork_58 (by rfl) (by first | exact isRf_r | exact isRf_n | exact isRf_o | assumption) ?_
  refine g_getf dX5_readWork_59 fX5_32 (by first | assumption | (repeat' (first | assumption | exact hu_same | exact Ne.symm (by assumption) | apply hu_n1))) (by rfl) ?_
  refine g_bipush (v := 116) dX5_readWork_62 (by decide) ?_
  refine g_icmp_eq (tgt := 78) dX5_readWork_64 (by decide) (fun c6 => absurd c6 hn116) (fun c6 => ?_)
  refine g_aload_n dX5_readWork_67 (by rfl) (by first | exact isRf_r | exact isRf_n | exact isRf_o | assumption) ?_
  refine g_getf dX5_readWork_68 fX5_32 (by first | assumption | (repeat' (first | assumption | exact hu_same | exact Ne.symm (by assumption) | apply hu_n1))) (by rfl) ?_
  refine g_bipush (v := 101) dX5_readWork_71 (by decide) ?_
  refine g_icmp_eq (tgt := 78) dX5_readWork_73 (by decide) (fun c7 => absurd c7 hn101) (fun c7 => ?_)
  refine g_iconst (v := 0) dX5_readWork_76 (by decide) ?_
  refine g_zret dX5_readWork_77 rfl (by decide) (Nat.le_refl _) (Nat.le_refl _) ?_
  have hr : rdW n g p = none := by
    unfold rdW
    rw [tw, on]
    rfl
  rw [hr]
  exact ⟨rfl, _, _, _, _, hu_same, fun k f s p2 z => (nomatch z), fun q q1 => hu_ne q1⟩

theorem ct_X5_readWork (X : Cx) {h : Hp} {a b sb n p : Nat} {g : Nat → Int32} {wd fp fr fc kd fi se : Int32} (hk : TOk n g) (hp : p < 800) (ht : TxtAt X h b sb n g) (hs : h a = some (ob 5 (scrL wd fp fr fc (nI p) kd fi se))) : Ct X mX5_readWork 2 0 0 [.ref a, .ref b] h (fun u h1 => u = some (.int (bI (rdW n g p).isSome)) ∧ ∃ pl2 kd2 fi2 se2, h1 a = some (ob 5 (scrL wd fp fr fc pl2 kd2 fi2 se2)) ∧ (∀ k f s p2, rdW n g p = some (k, f, s, p2) → kd2 = k ∧ fi2 = f ∧ se2 = s ∧ pl2 = nI p2) ∧ ∀ q, q ≠ a → h1 q = h q) := by
  by_cases h1 : sg n g p = 100
  · exact ct_readWork100 X hk hp ht hs h1
  · by_cases h2 : sg n g p = 104
    · exact ct_readWork104 X hk hp ht hs h2
    · by_cases h3 : sg n g p = 115
      · exact ct_readWork115 X hk hp ht hs h3
      · by_cases h4 : sg n g p = 114
        · exact ct_readWork114 X hk hp ht hs h4
        · by_cases h5 : sg n g p = 116
          · exact ct_readWork116 X hk hp ht hs h5
          · by_cases h6 : sg n g p = 101
            · exact ct_readWork101 X hk hp ht hs h6
            · exact ct_readWorkN X hk hp ht hs h1 h2 h3 h4 h5 h6
