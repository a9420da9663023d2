set_option maxHeartbeats 4000000 in
set_option maxRecDepth 100000 in
theorem ct_X10_isShade (X : Cx) {h : Hp} {v : Int32}  : Ct X mX10_isShade 1 0 0 [.int v] h (Ex (.int (bI (rngB 0 20000 v))) h) := by
  refine Ct.ofG vX10_isShade.1.2.2.1 (Nat.le_of_ble_eq_true rfl) ?_
  show G X RX10 cX10_isShade 1 (some .boolean) "isShade" (Rm 1 0 0) (Fm X (Ex (.int (bI (rngB 0 20000 v))) h) 0 0) 0 0 0 [(0, .int v)] [] h
  refine g_iload_n dX10_isShade_0 (by rfl) ?_
  refine g_iconst (v := 0) dX10_isShade_1 (by decide) ?_
  refine g_sipush (v := 20000) dX10_isShade_2 (by decide) ?_
  refine g_cS3x dX10_isShade_5 lX10_31 rfl vX10_in (ct_X10_in X) ⟨Nat.le_of_ble_eq_true rfl, Nat.le_of_ble_eq_true rfl⟩ (Nat.le_of_ble_eq_true rfl) ⟨Nat.le_of_ble_eq_true rfl, Nat.le_of_ble_eq_true rfl⟩ ?_
  refine g_zret dX10_isShade_8 rfl (bI_nz _) (Nat.le_refl _) (Nat.le_refl _) ?_
  exact Ex.i rfl rfl

set_option maxHeartbeats 4000000 in
set_option maxRecDepth 100000 in
theorem ct_X10_apart (X : Cx) {h : Hp} {x y : Int32}  : Ct X mX10_apart 0 0 0 [.int x, .int y] h (Ex (.int (dist x y)) h) := by
  refine Ct.ofG vX10_apart.1.2.2.1 (Nat.le_of_ble_eq_true rfl) ?_
  show G X RX10 cX10_apart 2 (some .int) "apart" (Rm 0 0 0) (Fm X (Ex (.int (dist x y)) h) 0 0) 0 0 0 [(0, .int x), (1, .int y)] [] h
  refine g_iload_n dX10_apart_0 (by rfl) ?_
  refine g_iload_n dX10_apart_1 (by rfl) ?_
  refine g_icmp_ge (tgt := 11) dX10_apart_2 (by decide) (fun c1 => ?_) (fun c1 => ?_)
  · skip
    have e : dist x y = x - y := if_neg (fun z => i_nle z c1)
    refine g_iload_n dX10_apart_11 (by rfl) ?_
    refine g_iload_n dX10_apart_12 (by rfl) ?_
    refine g_isub dX10_apart_13 ?_
    refine g_iret dX10_apart_14 rfl (Nat.le_refl _) (Nat.le_refl _) ?_
    exact Ex.i e.symm rfl
  · skip
    have e : dist x y = y - x := if_pos (i_ngt c1)
    refine g_iload_n dX10_apart_5 (by rfl) ?_
    refine g_iload_n dX10_apart_6 (by rfl) ?_
    refine g_isub dX10_apart_7 ?_
    refine g_goto (tgt := 14) dX10_apart_8 (by decide) ?_
    refine g_iret dX10_apart_14 rfl (Nat.le_refl _) (Nat.le_refl _) ?_
    exact Ex.i e.symm rfl
