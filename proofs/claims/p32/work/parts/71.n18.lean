theorem dgt_1 {x : Nat} (h : x < 20) : (48 : Int32) + nI x / 10 = nI (48 + x / 10) := by
  have z : ∀ x, x < 20 → (48 : Int32) + nI x / 10 = nI (48 + x / 10) := by decide +kernel
  exact z x h
theorem dgt_2 {x : Nat} (h : x < 20) : (48 : Int32) + (nI x - nI x / 10 * 10) = nI (48 + x % 10) := by
  have z : ∀ x, x < 20 → (48 : Int32) + (nI x - nI x / 10 * 10) = nI (48 + x % 10) := by decide +kernel
  exact z x h
theorem dgt_9 {x : Nat} (h : x < 20) : nI x ≤ 9 ↔ ¬ 9 < x := by
  have e : (9 : Int32).toInt = 9 := by decide
  rw [i_le, nI_toInt (by omega), e]
  omega

set_option maxHeartbeats 4000000 in
set_option maxRecDepth 100000 in
theorem ct_L_number (X : Cx) {h : Hp} {A B m : Nat → Nat} {C : Nat → Nat → Nat} {r : Nat → Int32} {n tn : Nat} {rows : Nat → Nat → Int32} {tg : Nat → Int32} {x : Nat} {L : List Nat} (hx : x < 20) (hL : L.length ≤ 50) (t : Tx tn tg L) (R : Run X h A B m C h C r n rows tn tg) : Ct X mL_number 2 0 0 [.ref (m 0), .int (nI x)] h (fun u h1 => u = none ∧ ∃ C2 tn2 tg2, Run X h A B m C h1 C2 r n rows tn2 tg2 ∧ Tx tn2 tg2 (L ++ Dg x)) := by
  obtain ⟨hSep, hSys, hn, hO, hO2, hSnd, hTk, hRs, hFr⟩ := id R
  refine Ct.ofG vL_number.1.2.2.1 (Nat.le_of_ble_eq_true rfl) ?_
  show G X RL cL_number 2 none "number" (Rm 2 0 0) (Fm X (fun u h1 => u = none ∧ ∃ C2 tn2 tg2, Run X h A B m C h1 C2 r n rows tn2 tg2 ∧ Tx tn2 tg2 (L ++ Dg x)) 0 0) 0 0 0 [(0, .ref (m 0)), (1, .int (nI x))] [] h
  have J18 : ∀ (hh : Hp) (D : Nat → Nat → Nat) (tn : Nat) (tg : Nat → Int32) (K : List Nat), Run X h A B m C hh D r n rows tn tg → Tx tn tg K → K.length ≤ 51 → K ++ [48 + x % 10] = L ++ Dg x → G X RL cL_number 2 none "number" (Rm 2 0 0) (Fm X (fun u h1 => u = none ∧ ∃ C2 tn2 tg2, Run X h A B m C h1 C2 r n rows tn2 tg2 ∧ Tx tn2 tg2 (L ++ Dg x)) 0 0) 0 0 18 [(0, .ref (m 0)), (1, .int (nI x))] [] hh := by
    intro hh D tn tg K R t hK hKe
    obtain ⟨hSep, hSys, hn, hO, hO2, hSnd, hTk, hRs, hFr⟩ := id R
    refine g_aload_n dL_number_18 (by rfl) (by first | exact isRf_r | exact isRf_n | exact isRf_o | assumption) ?_
    refine g_bipush (v := 48) dL_number_19 (by decide) ?_
    refine g_iload_n dL_number_21 (by rfl) ?_
    refine g_bipush (v := 10) dL_number_22 (by decide) ?_
    refine g_irem dL_number_24 (by decide) ?_
    refine g_iadd dL_number_25 ?_
    rw [dgt_2 hx]
    refine g_cV1 dL_number_26 lL_64 vX9_type (ct_X9_type X hSep hTk hSys) (hSys.1) rfl ⟨Nat.le_of_ble_eq_true rfl, Nat.le_of_ble_eq_true rfl⟩ (Nat.le_of_ble_eq_true rfl) ⟨Nat.le_of_ble_eq_true rfl, Nat.le_of_ble_eq_true rfl⟩ ?_
    rintro _ hh ⟨rfl, hT⟩
    obtain ⟨D, R⟩ := R.text hT (TOk_type hTk)
    obtain ⟨hty, t2⟩ := t.ty (c := 48 + x % 10) (by omega) (by omega) (by omega)
    obtain ⟨D, tn, tg, R, t⟩ : ∃ D tn tg, Run X h A B m C hh D r n rows tn tg ∧ Tx tn tg (K ++ [48 + x % 10]) := ⟨_, _, _, R, t2⟩
    obtain ⟨hSep, hSys, hn, hO, hO2, hSnd, hTk, hRs, hFr⟩ := id R
    refine g_stk (st' := [.int _]) rfl ?_
    refine g_pop dL_number_29 (by rfl) ?_
    refine g_vret dL_number_30 rfl (Nat.le_refl _) (Nat.le_refl _) ?_
    rw [hKe] at t
    exact ⟨rfl, D, _, _, R, t⟩
  refine g_iload_n dL_number_0 (by rfl) ?_
  refine g_bipush (v := 9) dL_number_1 (by decide) ?_
  refine g_icmp_le (tgt := 18) dL_number_3 (by decide) (fun c1 => ?_) (fun c1 => ?_)
  · skip
    have h9 := (dgt_9 hx).mp c1
    first
      | exact J18 _ _ _ _ L R t (by omega) (by rw [Dg_1 h9]; congr 2; omega)
      | exact J18 _ _ _ _ _ R t (by rw [List.length_append]; exact Nat.succ_le_succ hL) (by rw [Dg_2 h9, List.append_assoc]; rfl)
  · skip
    have h9 : 9 < x := Classical.byContradiction (fun z => c1 ((dgt_9 hx).mpr z))
    refine g_aload_n dL_number_6 (by rfl) (by first | exact isRf_r | exact isRf_n | exact isRf_o | assumption) ?_
    refine g_bipush (v := 48) dL_number_7 (by decide) ?_
    refine g_iload_n dL_number_9 (by rfl) ?_
    refine g_bipush (v := 10) dL_number_10 (by decide) ?_
    refine g_idiv dL_number_12 (by decide) ?_
    refine g_iadd dL_number_13 ?_
    rw [dgt_1 hx]
    refine g_cV1 dL_number_14 lL_64 vX9_type (ct_X9_type X hSep hTk hSys) (hSys.1) rfl ⟨Nat.le_of_ble_eq_true rfl, Nat.le_of_ble_eq_true rfl⟩ (Nat.le_of_ble_eq_true rfl) ⟨Nat.le_of_ble_eq_true rfl, Nat.le_of_ble_eq_true rfl⟩ ?_
    rintro _ hh ⟨rfl, hT⟩
    obtain ⟨D, R⟩ := R.text hT (TOk_type hTk)
    obtain ⟨hty, t2⟩ := t.ty (c := 48 + x / 10) (by omega) (by omega) (by omega)
    obtain ⟨D, tn, tg, R, t⟩ : ∃ D tn tg, Run X h A B m C hh D r n rows tn tg ∧ Tx tn tg (L ++ [48 + x / 10]) := ⟨_, _, _, R, t2⟩
    obtain ⟨hSep, hSys, hn, hO, hO2, hSnd, hTk, hRs, hFr⟩ := id R
    refine g_stk (st' := [.int _]) rfl ?_
    refine g_pop dL_number_17 (by rfl) ?_
    first
      | exact J18 _ _ _ _ L R t (by omega) (by rw [Dg_1 h9]; congr 2; omega)
      | exact J18 _ _ _ _ _ R t (by rw [List.length_append]; exact Nat.succ_le_succ hL) (by rw [Dg_2 h9, List.append_assoc]; rfl)
