theorem nI_le0 {n : Nat} (hn : n < 1000) : nI n ≤ 0 ↔ n = 0 := by
  rw [i_le, i_nI hn, z_toInt]
  omega
theorem numC_le {c : Int32} : numC c ≤ 2 := by
  unfold numC
  cases twoB c <;> cases oneB c <;> decide
theorem numC_2 {c : Int32} : numC c = 2 ↔ twoB c = true := by
  unfold numC
  cases twoB c <;> cases oneB c <;> decide
theorem numC_b {c : Int32} (h : twoB c = false) : decide (0 < numC c) = oneB c := by
  unfold numC
  rw [h]
  cases oneB c <;> decide
theorem rdW_1 {n p q : Nat} {g : Nat → Int32} {V : Int32} (h : twoB (sg n g p) = false) (hq : q = cond (oneB (sg n g p)) (rdN n g (p + 1)).2 (p + 1)) (hV : (oneB (sg n g p) && decide (0 ≤ (rdN n g (p + 1)).1)) = true → V = (rdN n g (p + 1)).1) :
    rdW n g p = cond ((oneB (sg n g p) && decide (0 ≤ (rdN n g (p + 1)).1)) && decide (sg n g q = 59)) (some (sg n g p, V, 0, q + 1)) none := by
  unfold rdW
  rw [h]
  subst hq
  cases ho : oneB (sg n g p) with
  | false => rfl
  | true =>
    rw [ho] at hV
    show cond (decide (0 ≤ (rdN n g (p + 1)).1) && decide (sg n g (rdN n g (p + 1)).2 = 59)) (some (sg n g p, (rdN n g (p + 1)).1, (0 : Int32), (rdN n g (p + 1)).2 + 1)) none = cond (decide (0 ≤ (rdN n g (p + 1)).1) && decide (sg n g (rdN n g (p + 1)).2 = 59)) (some (sg n g p, V, (0 : Int32), (rdN n g (p + 1)).2 + 1)) none
    cases hd : decide (0 ≤ (rdN n g (p + 1)).1) with
    | false => rfl
    | true => rw [hV (by rw [hd]; rfl)]
theorem rdW_2 {n p q2 q3 : Nat} {g : Nat → Int32} {V1 V2 : Int32} {b2 : Bool} (h : twoB (sg n g p) = true) (hb : b2 = (decide (0 ≤ (rdN n g (p + 1)).1) && decide (sg n g (rdN n g (p + 1)).2 = 44))) (hq2 : q2 = cond b2 ((rdN n g (p + 1)).2 + 1) (rdN n g (p + 1)).2) (hq3 : q3 = cond b2 (rdN n g q2).2 q2) (hV1 : decide (0 ≤ (rdN n g (p + 1)).1) = true → V1 = (rdN n g (p + 1)).1) (hV2 : (b2 && decide (0 ≤ (rdN n g q2).1)) = true → V2 = (rdN n g q2).1) :
    rdW n g p = cond ((b2 && decide (0 ≤ (rdN n g q2).1)) && decide (sg n g q3 = 59)) (some (sg n g p, V1, V2, q3 + 1)) none := by
  unfold rdW
  rw [h]
  show cond (decide (0 ≤ (rdN n g (p + 1)).1) && decide (sg n g (rdN n g (p + 1)).2 = 44)) _ none = _
  rw [← hb]
  cases hb2 : b2 with
  | false => rfl
  | true =>
    rw [hb2] at hq2 hq3 hV2 hb
    have h1 : V1 = (rdN n g (p + 1)).1 := hV1 ((Bool.and_eq_true_iff.mp hb.symm).1)
    have e2 : q2 = (rdN n g (p + 1)).2 + 1 := hq2
    have e3 : q3 = (rdN n g q2).2 := hq3
    subst e3
    subst e2
    show cond (decide (0 ≤ (rdN n g ((rdN n g (p + 1)).2 + 1)).1) && _) _ none = cond (decide (0 ≤ (rdN n g ((rdN n g (p + 1)).2 + 1)).1) && _) _ none
    cases hd : decide (0 ≤ (rdN n g ((rdN n g (p + 1)).2 + 1)).1) with
    | false => rfl
    | true => rw [h1, hV2 (by rw [hd]; rfl)]

theorem rdN_b {n p : Nat} {g : Nat → Int32} {b : Bool} : cond b (rdN n g p).2 p ≤ p + 2 := by
  have z := rdN_2 (n := n) (g := g) (p := p)
  cases b with
  | false => exact Nat.le_add_right _ _
  | true => exact z.1
theorem cnd_b {b : Bool} {q : Nat} : cond b (q + 1) q ≤ q + 1 := by
  cases b with
  | false => exact Nat.le_succ _
  | true => exact Nat.le_refl _

set_option maxHeartbeats 4000000 in
set_option maxRecDepth 100000 in
theorem ct_X10_reads (X : Cx) {h : Hp} {M : Nat → Nat} {n tn p : Nat} {lt fl : Int32} {tg w : Nat → Int32}  (htn : tn ≤ 60) (hp : p < 800) (n40 : M 4 ≠ M 0) (n46 : M 4 ≠ M 6) (n60 : M 6 ≠ M 0) (m0 : h (M 0) = some (md M n tn (nI p) lt fl)) (m4 : h (M 4) = some (oI X 60 (nr 60 tg))) (m6 : h (M 6) = some (oI X 2 (nr 2 w))) : Ct X mX10_reads 2 0 0 [.ref (M 0)] h (fun u h1 => u = none ∧ ∃ (q : Nat) (b : Bool) (w : Nat → Int32), q < p + 12 ∧ rdW tn tg p = cond b (some ((sg tn tg p), w 0, cond (twoB (sg tn tg p)) (w 1) 0, q)) none ∧ h1 (M 0) = some (md M n tn (nI q) (sg tn tg p) (bI b)) ∧ h1 (M 6) = some (oI X 2 (nr 2 w)) ∧ ∀ x, x ≠ M 0 → x ≠ M 6 → h1 x = h x) := by
  have m0z := m0
  unfold md mdl at m0
  have hc2 := numC_le (c := (sg tn tg p))
  refine Ct.ofG vX10_reads.1.2.2.1 (Nat.le_of_ble_eq_true rfl) ?_
  show G X RX10 cX10_reads 2 none "reads" (Rm 2 0 0) (Fm X (fun u h1 => u = none ∧ ∃ (q : Nat) (b : Bool) (w : Nat → Int32), q < p + 12 ∧ rdW tn tg p = cond b (some ((sg tn tg p), w 0, cond (twoB (sg tn tg p)) (w 1) 0, q)) none ∧ h1 (M 0) = some (md M n tn (nI q) (sg tn tg p) (bI b)) ∧ h1 (M 6) = some (oI X 2 (nr 2 w)) ∧ ∀ x, x ≠ M 0 → x ≠ M 6 → h1 x = h x) 0 0) 0 0 0 [(0, .ref (M 0))] [] h
  refine g_aload_n dX10_reads_0 (by rfl) (by first | exact isRf_r | exact isRf_n | exact isRf_o | assumption) ?_
  refine g_aload_n dX10_reads_1 (by rfl) (by first | exact isRf_r | exact isRf_n | exact isRf_o | assumption) ?_
  refine g_cV0x dX10_reads_2 lX10_192 vX10_here (ct_X10_here X htn (by omega) m0z m4) (by first | exact m0 | exact mf | exact ma | exact mb | exact mc | exact me | exact mf | exact m6 | exact m6a | exact m6b | exact m6c | exact m6e | exact hu_same | exact hu_n1 n60 m6a | exact hu_n1 n60 m6c) rfl ⟨Nat.le_of_ble_eq_true rfl, Nat.le_of_ble_eq_true rfl⟩ (Nat.le_of_ble_eq_true rfl) ⟨Nat.le_of_ble_eq_true rfl, Nat.le_of_ble_eq_true rfl⟩ ?_
  refine g_putf (ty := .int) dX10_reads_5 fX10_195 (by decide +kernel) (by rfl) (by rfl) (by first | exact m0 | exact mf | exact ma | exact mb | exact mc | exact me | exact mf | exact m6 | exact m6a | exact m6b | exact m6c | exact m6e | exact hu_same | exact hu_n1 n60 m6a | exact hu_n1 n60 m6c) (by exact Nat.le_of_ble_eq_true rfl) ?_
  refine g_aload_n dX10_reads_8 (by rfl) (by first | exact isRf_r | exact isRf_n | exact isRf_o | assumption) ?_
  refine g_getf dX10_reads_9 fX10_195 (by first | exact m0 | exact mf | exact ma | exact mb | exact mc | exact me | exact mf | exact m6 | exact m6a | exact m6b | exact m6c | exact m6e | exact hu_same | exact hu_n1 n60 m6a | exact hu_n1 n60 m6c) (by rfl) ?_
  refine g_cS1x dX10_reads_12 lX10_198 rfl vX10_numbers (ct_X10_numbers X) ⟨Nat.le_of_ble_eq_true rfl, Nat.le_of_ble_eq_true rfl⟩ (Nat.le_of_ble_eq_true rfl) ⟨Nat.le_of_ble_eq_true rfl, Nat.le_of_ble_eq_true rfl⟩ ?_
  refine g_istore_n (L1 := [(0, _), (1, _)]) dX10_reads_15 (by decide) (by rfl) ?_
  refine g_aload_n dX10_reads_16 (by rfl) (by first | exact isRf_r | exact isRf_n | exact isRf_o | assumption) ?_
  refine g_iload_n dX10_reads_17 (by rfl) ?_
  have J26 : G X RX10 cX10_reads 2 none "reads" (Rm 2 0 0) (Fm X (fun u h1 => u = none ∧ ∃ (q : Nat) (b : Bool) (w : Nat → Int32), q < p + 12 ∧ rdW tn tg p = cond b (some ((sg tn tg p), w 0, cond (twoB (sg tn tg p)) (w 1) 0, q)) none ∧ h1 (M 0) = some (md M n tn (nI q) (sg tn tg p) (bI b)) ∧ h1 (M 6) = some (oI X 2 (nr 2 w)) ∧ ∀ x, x ≠ M 0 → x ≠ M 6 → h1 x = h x) 0 0) 0 0 26 [(0, .ref (M 0)), (1, .int (nI (numC (sg tn tg p))))] [.int (bI (decide (0 < numC (sg tn tg p)))), .ref (M 0)] (hu h (M 0) (md M n tn (nI p) (sg tn tg p) fl)) := by
    refine g_putf (ty := .boolean) dX10_reads_26 fX10_188 (by decide +kernel) (bI_nz _) (by cases (decide (0 < numC (sg tn tg p))) <;> decide) (by first | exact m0 | exact mf | exact ma | exact mb | exact mc | exact me | exact mf | exact m6 | exact m6a | exact m6b | exact m6c | exact m6e | exact hu_same | exact hu_n1 n60 m6a | exact hu_n1 n60 m6c) (by exact Nat.le_of_ble_eq_true rfl) ?_
    refine g_aload_n dX10_reads_29 (by rfl) (by first | exact isRf_r | exact isRf_n | exact isRf_o | assumption) ?_
    refine g_dup dX10_reads_30 (by rfl) ?_
    refine g_getf dX10_reads_31 fX10_185 (by first | exact m0 | exact mf | exact ma | exact mb | exact mc | exact me | exact mf | exact m6 | exact m6a | exact m6b | exact m6c | exact m6e | exact hu_same | exact hu_n1 n60 m6a | exact hu_n1 n60 m6c) (by rfl) ?_
    refine g_iconst (v := 1) dX10_reads_34 (by decide) ?_
    refine g_iadd dX10_reads_35 ?_
    rw [nI_1]
    refine g_putf (ty := .int) dX10_reads_36 fX10_185 (by decide +kernel) (by rfl) (by rfl) (by first | exact m0 | exact mf | exact ma | exact mb | exact mc | exact me | exact mf | exact m6 | exact m6a | exact m6b | exact m6c | exact m6e | exact hu_same | exact hu_n1 n60 m6a | exact hu_n1 n60 m6c) (by exact Nat.le_of_ble_eq_true rfl) ?_
    refine g_gen (fun ha eha => ?_)
    have ma : ha (M 0) = some (md M n tn (nI (p + 1)) (sg tn tg p) (bI (decide (0 < numC (sg tn tg p))))) := by
      rw [eha]
      first
        | exact hu_same
        | exact hu_n1 (Ne.symm n60) hu_same
    have m6a : ha (M 6) = some (oI X 2 (nr 2 w)) := by
      rw [eha]
      first
        | exact hu_same
        | exact hu_n1 n60 m6
        | exact hu_n1 n60 (hu_n1 n60 m6)
        | exact hu_n1 n60 (hu_n1 n60 (hu_n1 n60 m6))
    have m4a : ha (M 4) = some (oI X 60 (nr 60 tg)) := by
      rw [eha]
      repeat' (first | exact m4 | apply hu_n1 n40 | apply hu_n1 n46)
    have fa : ∀ x, x ≠ M 0 → x ≠ M 6 → ha x = h x := by
      intro x x0 x6
      rw [eha]
      simp only [hu_ne x0, hu_ne x6]
    clear eha
    refine g_aload_n dX10_reads_39 (by rfl) (by first | exact isRf_r | exact isRf_n | exact isRf_o | assumption) ?_
    refine g_getf dX10_reads_40 fX10_25 (by first | exact m0 | exact mf | exact ma | exact mb | exact mc | exact me | exact mf | exact m6 | exact m6a | exact m6b | exact m6c | exact m6e | exact hu_same | exact hu_n1 n60 m6a | exact hu_n1 n60 m6c) (by rfl) ?_
    refine g_iconst (v := 0) dX10_reads_43 (by decide) ?_
    refine g_aload_n dX10_reads_44 (by rfl) (by first | exact isRf_r | exact isRf_n | exact isRf_o | assumption) ?_
    refine g_cV0 dX10_reads_45 lX10_201 vX10_number (ct_number X htn (by omega) n40 ma m4a) (by first | exact m0 | exact mf | exact ma | exact mb | exact mc | exact me | exact mf | exact m6 | exact m6a | exact m6b | exact m6c | exact m6e | exact hu_same | exact hu_n1 n60 m6a | exact hu_n1 n60 m6c) rfl ⟨Nat.le_of_ble_eq_true rfl, Nat.le_of_ble_eq_true rfl⟩ (Nat.le_of_ble_eq_true rfl) ⟨Nat.le_of_ble_eq_true rfl, Nat.le_of_ble_eq_true rfl⟩ ?_
    rintro _ hx ⟨V1, rfl, hV1, rfl⟩
    refine g_stk (st' := [.int _, .int _, .ref _]) rfl ?_
    refine g_isN dX10_reads_48 (by first | exact m0 | exact mf | exact ma | exact mb | exact mc | exact me | exact mf | exact m6 | exact m6a | exact m6b | exact m6c | exact m6e | exact hu_same | exact hu_n1 n60 m6a | exact hu_n1 n60 m6c) (show 0 < 2 by omega) (by omega) ?_
    rw [nr_up (show 0 < 2 by omega)]
    have hq1 : (cond (decide (0 < numC (sg tn tg p))) (rdN tn tg (p + 1)).2 (p + 1)) ≤ p + 1 + 2 := rdN_b
    generalize eq1 : (cond (decide (0 < numC (sg tn tg p))) (rdN tn tg (p + 1)).2 (p + 1)) = q1 at hq1 ⊢
    refine g_gen (fun hb ehb => ?_)
    have mb : hb (M 0) = some (md M n tn (nI q1) (sg tn tg p) (bI ((decide (0 < numC (sg tn tg p))) && decide (0 ≤ (rdN tn tg (p + 1)).1)))) := by
      rw [ehb]
      first
        | exact hu_same
        | exact hu_n1 (Ne.symm n60) hu_same
    have m6b : hb (M 6) = some (oI X 2 (nr 2 (upd w 0 V1))) := by
      rw [ehb]
      first
        | exact hu_same
        | exact hu_n1 n60 m6a
        | exact hu_n1 n60 (hu_n1 n60 m6a)
        | exact hu_n1 n60 (hu_n1 n60 (hu_n1 n60 m6a))
    have m4b : hb (M 4) = some (oI X 60 (nr 60 tg)) := by
      rw [ehb]
      repeat' (first | exact m4a | apply hu_n1 n40 | apply hu_n1 n46)
    have fb : ∀ x, x ≠ M 0 → x ≠ M 6 → hb x = h x := by
      intro x x0 x6
      rw [ehb]
      simp only [hu_ne x0, hu_ne x6]
      exact fa x x0 x6
    clear ehb
    refine g_iload_n dX10_reads_49 (by rfl) ?_
    refine g_iconst (v := 2) dX10_reads_50 (by decide) ?_
    have J70 : ∀ (q : Nat) (b : Bool) (w : Nat → Int32) (hh : Hp), q < p + 11 → rdW tn tg p = cond (b && decide (sg tn tg q = 59)) (some ((sg tn tg p), w 0, cond (twoB (sg tn tg p)) (w 1) 0, q + 1)) none → hh (M 0) = some (md M n tn (nI q) (sg tn tg p) (bI b)) → hh (M 6) = some (oI X 2 (nr 2 w)) → hh (M 4) = some (oI X 60 (nr 60 tg)) → (∀ x, x ≠ M 0 → x ≠ M 6 → hh x = h x) → G X RX10 cX10_reads 2 none "reads" (Rm 2 0 0) (Fm X (fun u h1 => u = none ∧ ∃ (q : Nat) (b : Bool) (w : Nat → Int32), q < p + 12 ∧ rdW tn tg p = cond b (some ((sg tn tg p), w 0, cond (twoB (sg tn tg p)) (w 1) 0, q)) none ∧ h1 (M 0) = some (md M n tn (nI q) (sg tn tg p) (bI b)) ∧ h1 (M 6) = some (oI X 2 (nr 2 w)) ∧ ∀ x, x ≠ M 0 → x ≠ M 6 → h1 x = h x) 0 0) 0 0 70 [(0, .ref (M 0))] [] hh := by
      intro q b w hh hqf hW mf m6f m4f ff
      refine g_aload_n dX10_reads_70 (by rfl) (by first | exact isRf_r | exact isRf_n | exact isRf_o | assumption) ?_
      refine g_bipush (v := 59) dX10_reads_71 (by decide) ?_
      refine g_cV1v dX10_reads_73 lX10_204 vX10_sign (ct_X10_sign X htn (by omega) mf m4f) (by first | exact m0 | exact mf | exact ma | exact mb | exact mc | exact me | exact mf | exact m6 | exact m6a | exact m6b | exact m6c | exact m6e | exact hu_same | exact hu_n1 n60 m6a | exact hu_n1 n60 m6c) rfl ⟨Nat.le_of_ble_eq_true rfl, Nat.le_of_ble_eq_true rfl⟩ (Nat.le_of_ble_eq_true rfl) ⟨Nat.le_of_ble_eq_true rfl, Nat.le_of_ble_eq_true rfl⟩ ?_
      refine g_vret dX10_reads_76 rfl (Nat.le_refl _) (Nat.le_refl _) ?_
      refine ⟨rfl, cond (b && decide (sg tn tg q = 59)) (q + 1) q, (b && decide (sg tn tg q = 59)), w, ?_, ?_, hu_same, hu_n1 n60 m6f, fun x x0 x6 => (hu_ne x0).trans (ff x x0 x6)⟩
      · have z := cnd_b (b := (b && decide (sg tn tg q = 59))) (q := q)
        omega
      · rw [hW]
        cases (b && decide (sg tn tg q = 59)) <;> rfl
    refine g_icmp_ne (tgt := 70) dX10_reads_51 (by decide) (fun c1 => ?_) (fun c1 => ?_)
    · skip
      have ht : twoB (sg tn tg p) = false := by
        cases z : twoB (sg tn tg p) with
        | false => rfl
        | true => exact absurd (show nI (numC (sg tn tg p)) = 2 from by rw [numC_2.mpr z]; rfl) c1
      have ho := numC_b ht
      rw [ho] at eq1 hV1 mb
      have hWa := rdW_1 ht eq1.symm hV1
      refine g_pick [0] rfl ?_
      first
        | exact J70 _ _ (upd w 0 V1) _ (by omega) (by rw [hWa, ht, upd_s]; rfl) mb m6b m4b fb
        | (have hbb : b2 = (decide (0 ≤ (rdN tn tg (p + 1)).1) && decide (sg tn tg (rdN tn tg (p + 1)).2 = 44)) := by rw [eq1b]; exact eb2.symm
           have hqq : q2 = cond b2 ((rdN tn tg (p + 1)).2 + 1) (rdN tn tg (p + 1)).2 := by rw [eq1b]; exact eq2.symm
           have w0 : upd (upd w 0 V1) 1 V2 0 = V1 := by rw [upd_n (by omega), upd_s]
           have w1 : upd (upd w 0 V1) 1 V2 1 = V2 := upd_s
           exact J70 (cond b2 (rdN tn tg q2).2 q2) (b2 && decide (0 ≤ (rdN tn tg q2).1)) (upd (upd w 0 V1) 1 V2) _ (by have z := rdN_b (n := tn) (g := tg) (b := b2) (p := q2); omega) (by rw [rdW_2 ht hbb hqq rfl hV1 hV2, w0, w1, ht]; rfl) (hu_n1 (Ne.symm n60) hu_same) (by rw [hu_same, nr_up (show 1 < 2 by omega)]) (hu_n1 n46 (hu_n1 n40 m4c)) (fun x x0 x6 => (hu_ne x6).trans ((hu_ne x0).trans (fc x x0 x6))))
    · skip
      have hn2 := c_eq (b := 2) (by omega) (by omega) c1
      have ht := numC_2.mp hn2
      have hb0 : (decide (0 < numC (sg tn tg p))) = true := by
        rw [hn2]
        rfl
      rw [hb0] at eq1 hV1 mb
      have eq1b : (rdN tn tg (p + 1)).2 = q1 := eq1
      refine g_aload_n dX10_reads_54 (by rfl) (by first | exact isRf_r | exact isRf_n | exact isRf_o | assumption) ?_
      refine g_bipush (v := 44) dX10_reads_55 (by decide) ?_
      refine g_cV1v dX10_reads_57 lX10_204 vX10_sign (ct_X10_sign X htn (by omega) mb m4b) (by first | exact m0 | exact mf | exact ma | exact mb | exact mc | exact me | exact mf | exact m6 | exact m6a | exact m6b | exact m6c | exact m6e | exact hu_same | exact hu_n1 n60 m6a | exact hu_n1 n60 m6c) rfl ⟨Nat.le_of_ble_eq_true rfl, Nat.le_of_ble_eq_true rfl⟩ (Nat.le_of_ble_eq_true rfl) ⟨Nat.le_of_ble_eq_true rfl, Nat.le_of_ble_eq_true rfl⟩ ?_
      obtain ⟨b2, eb2⟩ : ∃ b2, ((true && decide (0 ≤ (rdN tn tg (p + 1)).1)) && decide (sg tn tg q1 = 44)) = b2 := ⟨_, rfl⟩
      rw [eb2]
      have hq2 : cond b2 (q1 + 1) q1 ≤ q1 + 1 := cnd_b
      obtain ⟨q2, eq2⟩ : ∃ q2, cond b2 (q1 + 1) q1 = q2 := ⟨_, rfl⟩
      rw [eq2] at hq2 ⊢
      refine g_gen (fun hc ehc => ?_)
      have mc : hc (M 0) = some (md M n tn (nI q2) (sg tn tg p) (bI b2)) := by
        rw [ehc]
        first
          | exact hu_same
          | exact hu_n1 (Ne.symm n60) hu_same
      have m6c : hc (M 6) = some (oI X 2 (nr 2 (upd w 0 V1))) := by
        rw [ehc]
        first
          | exact hu_same
          | exact hu_n1 n60 m6b
          | exact hu_n1 n60 (hu_n1 n60 m6b)
          | exact hu_n1 n60 (hu_n1 n60 (hu_n1 n60 m6b))
      have m4c : hc (M 4) = some (oI X 60 (nr 60 tg)) := by
        rw [ehc]
        repeat' (first | exact m4b | apply hu_n1 n40 | apply hu_n1 n46)
      have fc : ∀ x, x ≠ M 0 → x ≠ M 6 → hc x = h x := by
        intro x x0 x6
        rw [ehc]
        simp only [hu_ne x0, hu_ne x6]
        exact fb x x0 x6
      clear ehc
      refine g_aload_n dX10_reads_60 (by rfl) (by first | exact isRf_r | exact isRf_n | exact isRf_o | assumption) ?_
      refine g_getf dX10_reads_61 fX10_25 (by first | exact m0 | exact mf | exact ma | exact mb | exact mc | exact me | exact mf | exact m6 | exact m6a | exact m6b | exact m6c | exact m6e | exact hu_same | exact hu_n1 n60 m6a | exact hu_n1 n60 m6c) (by rfl) ?_
      refine g_iconst (v := 1) dX10_reads_64 (by decide) ?_
      refine g_aload_n dX10_reads_65 (by rfl) (by first | exact isRf_r | exact isRf_n | exact isRf_o | assumption) ?_
      refine g_cV0 dX10_reads_66 lX10_201 vX10_number (ct_number X htn (by omega) n40 mc m4c) (by first | exact m0 | exact mf | exact ma | exact mb | exact mc | exact me | exact mf | exact m6 | exact m6a | exact m6b | exact m6c | exact m6e | exact hu_same | exact hu_n1 n60 m6a | exact hu_n1 n60 m6c) rfl ⟨Nat.le_of_ble_eq_true rfl, Nat.le_of_ble_eq_true rfl⟩ (Nat.le_of_ble_eq_true rfl) ⟨Nat.le_of_ble_eq_true rfl, Nat.le_of_ble_eq_true rfl⟩ ?_
      rintro _ hx ⟨V2, rfl, hV2, rfl⟩
      refine g_stk (st' := [.int _, .int _, .ref _]) rfl ?_
      refine g_isN dX10_reads_69 (by first | exact m0 | exact mf | exact ma | exact mb | exact mc | exact me | exact mf | exact m6 | exact m6a | exact m6b | exact m6c | exact m6e | exact hu_same | exact hu_n1 n60 m6a | exact hu_n1 n60 m6c) (show 1 < 2 by omega) (by omega) ?_
      refine g_pick [0] rfl ?_
      first
        | exact J70 _ _ (upd w 0 V1) _ (by omega) (by rw [hWa, ht, upd_s]; rfl) mb m6b m4b fb
        | (have hbb : b2 = (decide (0 ≤ (rdN tn tg (p + 1)).1) && decide (sg tn tg (rdN tn tg (p + 1)).2 = 44)) := by rw [eq1b]; exact eb2.symm
           have hqq : q2 = cond b2 ((rdN tn tg (p + 1)).2 + 1) (rdN tn tg (p + 1)).2 := by rw [eq1b]; exact eq2.symm
           have w0 : upd (upd w 0 V1) 1 V2 0 = V1 := by rw [upd_n (by omega), upd_s]
           have w1 : upd (upd w 0 V1) 1 V2 1 = V2 := upd_s
           exact J70 (cond b2 (rdN tn tg q2).2 q2) (b2 && decide (0 ≤ (rdN tn tg q2).1)) (upd (upd w 0 V1) 1 V2) _ (by have z := rdN_b (n := tn) (g := tg) (b := b2) (p := q2); omega) (by rw [rdW_2 ht hbb hqq rfl hV1 hV2, w0, w1, ht]; rfl) (hu_n1 (Ne.symm n60) hu_same) (by rw [hu_same, nr_up (show 1 < 2 by omega)]) (hu_n1 n46 (hu_n1 n40 m4c)) (fun x x0 x6 => (hu_ne x6).trans ((hu_ne x0).trans (fc x x0 x6))))
  refine g_if_le (tgt := 25) dX10_reads_18 (by decide) (fun c2 => ?_) (fun c2 => ?_)
  · skip
    have hq : bI (decide (0 < numC (sg tn tg p))) = 0 := by
      rw [decide_eq_false (by have z := (nI_le0 (by omega)).mp c2; omega)]
      rfl
    refine g_iconst (v := 0) dX10_reads_25 (by decide) ?_
    rw [hq] at J26
    exact J26
  · skip
    have hq : bI (decide (0 < numC (sg tn tg p))) = 1 := by
      rw [decide_eq_true (by have z := mt (nI_le0 (by omega)).mpr c2; omega)]
      rfl
    refine g_iconst (v := 1) dX10_reads_21 (by decide) ?_
    refine g_goto (tgt := 26) dX10_reads_22 (by decide) ?_
    rw [hq] at J26
    exact J26
