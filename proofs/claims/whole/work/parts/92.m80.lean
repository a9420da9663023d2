theorem nI_5 {k : Nat} : nI (5 * k) + Int32.ofInt 5 = nI (5 * (k + 1)) := by
  rw [show Int32.ofInt 5 = nI 5 by decide, nI_add]
  rfl

set_option maxHeartbeats 4000000 in
set_option maxRecDepth 100000 in
theorem law_loop (X : Cx) {nm : String} {A B m M : Nat → Nat} {b L : Nat} {xs : Nat → Int32} (hL : L ≤ 2560) : ∀ k, k ≤ L / 5 → ∀ (hh : Hp) (C : Nat → Nat → Nat) (r : Nat → Int32) (n : Nat) (rows : Nat → Nat → Int32) (tn : Nat) (tg : Nat → Int32), LInv X hh A B m M b L xs C r n rows tn tg → G X "DarkVatsLaw" cL_law 4 ret nm room_1 (Qlaw X b) 1390 9970 18 [(0, .ref b), (1, .ref (m 0)), (2, .ref (M 0)), (3, .int (nI (5 * k)))] [] hh := by
  refine up_ind (L / 5) (fun k hk ih => ?_)
  intro hh C r n rows tn tg I
  obtain ⟨hSep, hSys, hMd, hn, hO, hO2, hTk, hRs, hoM, hob, hom, host, hb0⟩ := id I
  obtain ⟨s0, hS0⟩ := id hMd
  have hMo := hS0.mo
  obtain ⟨p0, l0, f0, mm0⟩ := md_m hS0
  refine g_iload_n dL_law_18 (by rfl) ?_
  refine g_aload_n dL_law_19 (by rfl) (by first | exact isRf_r | exact isRf_n | exact isRf_o | assumption) ?_
  refine g_alenS dL_law_20 (by first | exact hb0 | exact hb1 | exact hSys.1 | exact mm0 | exact mm1) ?_
  refine g_iconst (v := 5) dL_law_21 (by decide) ?_
  refine g_isub dL_law_22 ?_
  refine g_icmp_gt (tgt := 1017) dL_law_23 (by decide) (fun c1 => ?_) (fun c1 => ?_)
  · skip
    have hgt := (lw_gt (k := 5 * k) hL (by omega)).mp c1
    refine g_iconst (v := 1) dL_law_1017 (by decide) ?_
    exact g_lawret dL_law_1018 (Nat.le_of_ble_eq_true rfl) (Nat.le_of_ble_eq_true rfl)
  · skip
    have hle : 5 * k + 5 ≤ L := by
      have z := mt (lw_gt (k := 5 * k) hL (by omega)).mpr c1
      omega
    refine g_aload_n dL_law_26 (by rfl) (by first | exact isRf_r | exact isRf_n | exact isRf_o | assumption) ?_
    refine g_iload_n dL_law_27 (by rfl) ?_
    refine g_iaS dL_law_28 (by first | exact hb0 | exact hb1 | exact hSys.1 | exact mm0 | exact mm1) (show 5 * k < L by omega) (by omega) (by rfl) ?_
    refine g_bipush (v := 31) dL_law_29 (by decide) ?_
    refine g_iand dL_law_31 ?_
    have J1011 : ∀ (hh : Hp) (C : Nat → Nat → Nat) (r : Nat → Int32) (n : Nat) (rows : Nat → Nat → Int32) (tn : Nat) (tg : Nat → Int32), LInv X hh A B m M b L xs C r n rows tn tg → G X "DarkVatsLaw" cL_law 4 ret nm room_1 (Qlaw X b) 1390 9970 1011 [(0, .ref b), (1, .ref (m 0)), (2, .ref (M 0)), (3, .int (nI (5 * k)))] [] hh := by
      intro hh C r n rows tn tg I
      refine g_iinc (v := nI (5 * (k + 1))) (L1 := [(0, _), (1, _), (2, _), (3, _)]) dL_law_1011 (by rfl) nI_5 (by decide) (by rfl) ?_
      refine g_goto (tgt := 18) dL_law_1014 (by decide) ?_
      exact ih (by omega) _ _ _ _ _ _ _ I
    generalize xs (5 * k) &&& 31 = sv
    by_cases hsw : rngB 0 (nI 28) sv = true
    · skip
      obtain ⟨jsw, hjsw, rfl⟩ := sw_in (m := 28) (by omega) hsw
      rcases (show jsw = 0 ∨ jsw = 1 ∨ jsw = 2 ∨ jsw = 3 ∨ jsw = 4 ∨ jsw = 5 ∨ jsw = 6 ∨ jsw = 7 ∨ jsw = 8 ∨ jsw = 9 ∨ jsw = 10 ∨ jsw = 11 ∨ jsw = 12 ∨ jsw = 13 ∨ jsw = 14 ∨ jsw = 15 ∨ jsw = 16 ∨ jsw = 17 ∨ jsw = 18 ∨ jsw = 19 ∨ jsw = 20 ∨ jsw = 21 ∨ jsw = 22 ∨ jsw = 23 ∨ jsw = 24 ∨ jsw = 25 ∨ jsw = 26 ∨ jsw = 27 ∨ jsw = 28 by omega) with rfl | rfl | rfl | rfl | rfl | rfl | rfl | rfl | rfl | rfl | rfl | rfl | rfl | rfl | rfl | rfl | rfl | rfl | rfl | rfl | rfl | rfl | rfl | rfl | rfl | rfl | rfl | rfl | rfl
      · skip
        refine g_tableIn (tgt := 164) (off := 132) dL_law_32 (by decide) (by decide) (by decide) (by decide) ?_
        refine g_aload_n dL_law_164 (by rfl) (by first | exact isRf_r | exact isRf_n | exact isRf_o | assumption) ?_
        refine g_aload_n dL_law_165 (by rfl) (by first | exact isRf_r | exact isRf_n | exact isRf_o | assumption) ?_
        refine g_iload_n dL_law_166 (by rfl) ?_
        refine g_iconst (v := 1) dL_law_167 (by decide) ?_
        refine g_iadd dL_law_168 ?_
        rw [show nI (5 * k) + 1 = nI (5 * k + 1) from linB]
        refine g_iaS dL_law_169 (by first | exact hb0 | exact hb1 | exact hSys.1 | exact mm0 | exact mm1) (show 5 * k + 1 < L by omega) (by omega) (by rfl) ?_
        refine g_aload_n dL_law_170 (by rfl) (by first | exact isRf_r | exact isRf_n | exact isRf_o | assumption) ?_
        refine g_iload_n dL_law_171 (by rfl) ?_
        refine g_iconst (v := 2) dL_law_172 (by decide) ?_
        refine g_iadd dL_law_173 ?_
        rw [show nI (5 * k) + 2 = nI (5 * k + 2) from linB]
        refine g_iaS dL_law_174 (by first | exact hb0 | exact hb1 | exact hSys.1 | exact mm0 | exact mm1) (show 5 * k + 2 < L by omega) (by omega) (by rfl) ?_
        refine g_cV2 dL_law_175 lL_13 vX9_vat (ct_X9_vat X hSep hn hO hSys) (by first | exact hb0 | exact hb1 | exact hSys.1 | exact mm0 | exact mm1) rfl ⟨Nat.le_of_ble_eq_true rfl, Nat.le_of_ble_eq_true rfl⟩ (Nat.le_of_ble_eq_true rfl) ⟨Nat.le_of_ble_eq_true rfl, Nat.le_of_ble_eq_true rfl⟩ ?_
        rintro _ h1 ⟨rfl, hT⟩
        refine g_stk (st' := [.int _]) rfl ?_
        obtain ⟨hD1, hb1⟩ := I.md hT
        obtain ⟨s1, hS1⟩ := id hD1
        obtain ⟨p1, l1, f1, mm1⟩ := md_m hS1
        refine g_aload_n dL_law_178 (by rfl) (by first | exact isRf_r | exact isRf_n | exact isRf_o | assumption) ?_
        refine g_aload_n dL_law_179 (by rfl) (by first | exact isRf_r | exact isRf_n | exact isRf_o | assumption) ?_
        refine g_iload_n dL_law_180 (by rfl) ?_
        refine g_iconst (v := 1) dL_law_181 (by decide) ?_
        refine g_iadd dL_law_182 ?_
        rw [show nI (5 * k) + 1 = nI (5 * k + 1) from linB]
        refine g_iaS dL_law_183 (by first | exact hb0 | exact hb1 | exact hSys.1 | exact mm0 | exact mm1) (show 5 * k + 1 < L by omega) (by omega) (by rfl) ?_
        refine g_aload_n dL_law_184 (by rfl) (by first | exact isRf_r | exact isRf_n | exact isRf_o | assumption) ?_
        refine g_iload_n dL_law_185 (by rfl) ?_
        refine g_iconst (v := 2) dL_law_186 (by decide) ?_
        refine g_iadd dL_law_187 ?_
        rw [show nI (5 * k) + 2 = nI (5 * k + 2) from linB]
        refine g_iaS dL_law_188 (by first | exact hb0 | exact hb1 | exact hSys.1 | exact mm0 | exact mm1) (show 5 * k + 2 < L by omega) (by omega) (by rfl) ?_
        refine g_cV2 dL_law_189 lL_17 vX10_vat (ct_X10_vat X hn hO hD1) (by first | exact hb0 | exact hb1 | exact hSys.1 | exact mm0 | exact mm1) rfl ⟨Nat.le_of_ble_eq_true rfl, Nat.le_of_ble_eq_true rfl⟩ (Nat.le_of_ble_eq_true rfl) ⟨Nat.le_of_ble_eq_true rfl, Nat.le_of_ble_eq_true rfl⟩ ?_
        rintro _ h2 ⟨rfl, hD⟩
        refine g_stk (st' := [.int _, .int _]) rfl ?_
        obtain ⟨C2, I2⟩ := I.step (F := F_vat r _ _) hT hD (Ok_vat hO) (Ok2_vat hO hO2)
        refine g_icmp_eq (tgt := 1011) dL_law_192 (by decide) (fun c2 => ?_) (fun c2 => absurd rfl c2)
        first
          | exact J1011 _ _ _ _ _ _ _ I2
          | exact J1011 _ _ _ _ _ _ _ I
      · skip
        refine g_tableIn (tgt := 197) (off := 165) dL_law_32 (by decide) (by decide) (by decide) (by decide) ?_
        refine g_aload_n dL_law_197 (by rfl) (by first | exact isRf_r | exact isRf_n | exact isRf_o | assumption) ?_
        refine g_aload_n dL_law_198 (by rfl) (by first | exact isRf_r | exact isRf_n | exact isRf_o | assumption) ?_
        refine g_iload_n dL_law_199 (by rfl) ?_
        refine g_iconst (v := 1) dL_law_200 (by decide) ?_
        refine g_iadd dL_law_201 ?_
        rw [show nI (5 * k) + 1 = nI (5 * k + 1) from linB]
        refine g_iaS dL_law_202 (by first | exact hb0 | exact hb1 | exact hSys.1 | exact mm0 | exact mm1) (show 5 * k + 1 < L by omega) (by omega) (by rfl) ?_
        refine g_aload_n dL_law_203 (by rfl) (by first | exact isRf_r | exact isRf_n | exact isRf_o | assumption) ?_
        refine g_iload_n dL_law_204 (by rfl) ?_
        refine g_iconst (v := 2) dL_law_205 (by decide) ?_
        refine g_iadd dL_law_206 ?_
        rw [show nI (5 * k) + 2 = nI (5 * k + 2) from linB]
        refine g_iaS dL_law_207 (by first | exact hb0 | exact hb1 | exact hSys.1 | exact mm0 | exact mm1) (show 5 * k + 2 < L by omega) (by omega) (by rfl) ?_
        refine g_cV2 dL_law_208 lL_18 vX9_weigh (ct_X9_weigh X hSep hn hO hSys) (by first | exact hb0 | exact hb1 | exact hSys.1 | exact mm0 | exact mm1) rfl ⟨Nat.le_of_ble_eq_true rfl, Nat.le_of_ble_eq_true rfl⟩ (Nat.le_of_ble_eq_true rfl) ⟨Nat.le_of_ble_eq_true rfl, Nat.le_of_ble_eq_true rfl⟩ ?_
        rintro _ h1 ⟨rfl, hT⟩
        refine g_stk (st' := [.int _]) rfl ?_
        obtain ⟨hD1, hb1⟩ := I.md hT
        obtain ⟨s1, hS1⟩ := id hD1
        obtain ⟨p1, l1, f1, mm1⟩ := md_m hS1
        refine g_aload_n dL_law_211 (by rfl) (by first | exact isRf_r | exact isRf_n | exact isRf_o | assumption) ?_
        refine g_aload_n dL_law_212 (by rfl) (by first | exact isRf_r | exact isRf_n | exact isRf_o | assumption) ?_
        refine g_iload_n dL_law_213 (by rfl) ?_
        refine g_iconst (v := 1) dL_law_214 (by decide) ?_
        refine g_iadd dL_law_215 ?_
        rw [show nI (5 * k) + 1 = nI (5 * k + 1) from linB]
        refine g_iaS dL_law_216 (by first | exact hb0 | exact hb1 | exact hSys.1 | exact mm0 | exact mm1) (show 5 * k + 1 < L by omega) (by omega) (by rfl) ?_
        refine g_aload_n dL_law_217 (by rfl) (by first | exact isRf_r | exact isRf_n | exact isRf_o | assumption) ?_
        refine g_iload_n dL_law_218 (by rfl) ?_
        refine g_iconst (v := 2) dL_law_219 (by decide) ?_
        refine g_iadd dL_law_220 ?_
        rw [show nI (5 * k) + 2 = nI (5 * k + 2) from linB]
        refine g_iaS dL_law_221 (by first | exact hb0 | exact hb1 | exact hSys.1 | exact mm0 | exact mm1) (show 5 * k + 2 < L by omega) (by omega) (by rfl) ?_
        refine g_cV2 dL_law_222 lL_21 vX10_weigh (ct_X10_weigh X hn hO hD1) (by first | exact hb0 | exact hb1 | exact hSys.1 | exact mm0 | exact mm1) rfl ⟨Nat.le_of_ble_eq_true rfl, Nat.le_of_ble_eq_true rfl⟩ (Nat.le_of_ble_eq_true rfl) ⟨Nat.le_of_ble_eq_true rfl, Nat.le_of_ble_eq_true rfl⟩ ?_
        rintro _ h2 ⟨rfl, hD⟩
        refine g_stk (st' := [.int _, .int _]) rfl ?_
        obtain ⟨C2, I2⟩ := I.step (F := F_weigh r _ _) hT hD (Ok_weigh hO) (Ok2_weigh hO hO2)
        refine g_icmp_eq (tgt := 1011) dL_law_225 (by decide) (fun c3 => ?_) (fun c3 => absurd rfl c3)
        first
          | exact J1011 _ _ _ _ _ _ _ I2
          | exact J1011 _ _ _ _ _ _ _ I
      · skip
        refine g_tableIn (tgt := 230) (off := 198) dL_law_32 (by decide) (by decide) (by decide) (by decide) ?_
        refine g_aload_n dL_law_230 (by rfl) (by first | exact isRf_r | exact isRf_n | exact isRf_o | assumption) ?_
        refine g_aload_n dL_law_231 (by rfl) (by first | exact isRf_r | exact isRf_n | exact isRf_o | assumption) ?_
        refine g_iload_n dL_law_232 (by rfl) ?_
        refine g_iconst (v := 1) dL_law_233 (by decide) ?_
        refine g_iadd dL_law_234 ?_
        rw [show nI (5 * k) + 1 = nI (5 * k + 1) from linB]
        refine g_iaS dL_law_235 (by first | exact hb0 | exact hb1 | exact hSys.1 | exact mm0 | exact mm1) (show 5 * k + 1 < L by omega) (by omega) (by rfl) ?_
        refine g_cV1 dL_law_236 lL_22 vX9_drain (ct_X9_drain X hSep hn hO hSys) (by first | exact hb0 | exact hb1 | exact hSys.1 | exact mm0 | exact mm1) rfl ⟨Nat.le_of_ble_eq_true rfl, Nat.le_of_ble_eq_true rfl⟩ (Nat.le_of_ble_eq_true rfl) ⟨Nat.le_of_ble_eq_true rfl, Nat.le_of_ble_eq_true rfl⟩ ?_
        rintro _ h1 ⟨rfl, hT⟩
        refine g_stk (st' := [.int _]) rfl ?_
        obtain ⟨hD1, hb1⟩ := I.md hT
        obtain ⟨s1, hS1⟩ := id hD1
        obtain ⟨p1, l1, f1, mm1⟩ := md_m hS1
        refine g_aload_n dL_law_239 (by rfl) (by first | exact isRf_r | exact isRf_n | exact isRf_o | assumption) ?_
        refine g_aload_n dL_law_240 (by rfl) (by first | exact isRf_r | exact isRf_n | exact isRf_o | assumption) ?_
        refine g_iload_n dL_law_241 (by rfl) ?_
        refine g_iconst (v := 1) dL_law_242 (by decide) ?_
        refine g_iadd dL_law_243 ?_
        rw [show nI (5 * k) + 1 = nI (5 * k + 1) from linB]
        refine g_iaS dL_law_244 (by first | exact hb0 | exact hb1 | exact hSys.1 | exact mm0 | exact mm1) (show 5 * k + 1 < L by omega) (by omega) (by rfl) ?_
        refine g_cV1 dL_law_245 lL_26 vX10_drain (ct_X10_drain X hn hO hD1) (by first | exact hb0 | exact hb1 | exact hSys.1 | exact mm0 | exact mm1) rfl ⟨Nat.le_of_ble_eq_true rfl, Nat.le_of_ble_eq_true rfl⟩ (Nat.le_of_ble_eq_true rfl) ⟨Nat.le_of_ble_eq_true rfl, Nat.le_of_ble_eq_true rfl⟩ ?_
        rintro _ h2 ⟨rfl, hD⟩
        refine g_stk (st' := [.int _, .int _]) rfl ?_
        obtain ⟨C2, I2⟩ := I.step (F := F_drain r _) hT hD (Ok_drain hO) (Ok2_drain hO hO2)
        refine g_icmp_eq (tgt := 1011) dL_law_248 (by decide) (fun c4 => ?_) (fun c4 => absurd rfl c4)
        first
          | exact J1011 _ _ _ _ _ _ _ I2
          | exact J1011 _ _ _ _ _ _ _ I
      · skip
        refine g_tableIn (tgt := 253) (off := 221) dL_law_32 (by decide) (by decide) (by decide) (by decide) ?_
        refine g_aload_n dL_law_253 (by rfl) (by first | exact isRf_r | exact isRf_n | exact isRf_o | assumption) ?_
        refine g_aload_n dL_law_254 (by rfl) (by first | exact isRf_r | exact isRf_n | exact isRf_o | assumption) ?_
        refine g_iload_n dL_law_255 (by rfl) ?_
        refine g_iconst (v := 1) dL_law_256 (by decide) ?_
        refine g_iadd dL_law_257 ?_
        rw [show nI (5 * k) + 1 = nI (5 * k + 1) from linB]
        refine g_iaS dL_law_258 (by first | exact hb0 | exact hb1 | exact hSys.1 | exact mm0 | exact mm1) (show 5 * k + 1 < L by omega) (by omega) (by rfl) ?_
        refine g_aload_n dL_law_259 (by rfl) (by first | exact isRf_r | exact isRf_n | exact isRf_o | assumption) ?_
        refine g_iload_n dL_law_260 (by rfl) ?_
        refine g_iconst (v := 2) dL_law_261 (by decide) ?_
        refine g_iadd dL_law_262 ?_
        rw [show nI (5 * k) + 2 = nI (5 * k + 2) from linB]
        refine g_iaS dL_law_263 (by first | exact hb0 | exact hb1 | exact hSys.1 | exact mm0 | exact mm1) (show 5 * k + 2 < L by omega) (by omega) (by rfl) ?_
        refine g_cV2x dL_law_264 lL_27 vX9_vatOf (ct_X9_vatOf X hO hSys) (by first | exact hb0 | exact hb1 | exact hSys.1 | exact mm0 | exact mm1) rfl ⟨Nat.le_of_ble_eq_true rfl, Nat.le_of_ble_eq_true rfl⟩ (Nat.le_of_ble_eq_true rfl) ⟨Nat.le_of_ble_eq_true rfl, Nat.le_of_ble_eq_true rfl⟩ ?_
        refine g_aload_n dL_law_267 (by rfl) (by first | exact isRf_r | exact isRf_n | exact isRf_o | assumption) ?_
        refine g_aload_n dL_law_268 (by rfl) (by first | exact isRf_r | exact isRf_n | exact isRf_o | assumption) ?_
        refine g_iload_n dL_law_269 (by rfl) ?_
        refine g_iconst (v := 1) dL_law_270 (by decide) ?_
        refine g_iadd dL_law_271 ?_
        rw [show nI (5 * k) + 1 = nI (5 * k + 1) from linB]
        refine g_iaS dL_law_272 (by first | exact hb0 | exact hb1 | exact hSys.1 | exact mm0 | exact mm1) (show 5 * k + 1 < L by omega) (by omega) (by rfl) ?_
        refine g_aload_n dL_law_273 (by rfl) (by first | exact isRf_r | exact isRf_n | exact isRf_o | assumption) ?_
        refine g_iload_n dL_law_274 (by rfl) ?_
        refine g_iconst (v := 2) dL_law_275 (by decide) ?_
        refine g_iadd dL_law_276 ?_
        rw [show nI (5 * k) + 2 = nI (5 * k + 2) from linB]
        refine g_iaS dL_law_277 (by first | exact hb0 | exact hb1 | exact hSys.1 | exact mm0 | exact mm1) (show 5 * k + 2 < L by omega) (by omega) (by rfl) ?_
        refine g_cV2x dL_law_278 lL_30 vX10_vatOf (ct_X10_vatOf X hMo hO) (by first | exact hb0 | exact hb1 | exact hSys.1 | exact mm0 | exact mm1) rfl ⟨Nat.le_of_ble_eq_true rfl, Nat.le_of_ble_eq_true rfl⟩ (Nat.le_of_ble_eq_true rfl) ⟨Nat.le_of_ble_eq_true rfl, Nat.le_of_ble_eq_true rfl⟩ ?_
        refine g_icmp_eq (tgt := 1011) dL_law_281 (by decide) (fun c5 => ?_) (fun c5 => absurd rfl c5)
        first
          | exact J1011 _ _ _ _ _ _ _ I2
          | exact J1011 _ _ _ _ _ _ _ I
      · skip
        refine g_tableIn (tgt := 286) (off := 254) dL_law_32 (by decide) (by decide) (by decide) (by decide) ?_
        refine g_aload_n dL_law_286 (by rfl) (by first | exact isRf_r | exact isRf_n | exact isRf_o | assumption) ?_
        refine g_aload_n dL_law_287 (by rfl) (by first | exact isRf_r | exact isRf_n | exact isRf_o | assumption) ?_
        refine g_iload_n dL_law_288 (by rfl) ?_
        refine g_iconst (v := 1) dL_law_289 (by decide) ?_
        refine g_iadd dL_law_290 ?_
        rw [show nI (5 * k) + 1 = nI (5 * k + 1) from linB]
        refine g_iaS dL_law_291 (by first | exact hb0 | exact hb1 | exact hSys.1 | exact mm0 | exact mm1) (show 5 * k + 1 < L by omega) (by omega) (by rfl) ?_
        refine g_cV1x dL_law_292 lL_31 vX9_vatAt (ct_X9_vatAt X hO hSys) (by first | exact hb0 | exact hb1 | exact hSys.1 | exact mm0 | exact mm1) rfl ⟨Nat.le_of_ble_eq_true rfl, Nat.le_of_ble_eq_true rfl⟩ (Nat.le_of_ble_eq_true rfl) ⟨Nat.le_of_ble_eq_true rfl, Nat.le_of_ble_eq_true rfl⟩ ?_
        refine g_aload_n dL_law_295 (by rfl) (by first | exact isRf_r | exact isRf_n | exact isRf_o | assumption) ?_
        refine g_aload_n dL_law_296 (by rfl) (by first | exact isRf_r | exact isRf_n | exact isRf_o | assumption) ?_
        refine g_iload_n dL_law_297 (by rfl) ?_
        refine g_iconst (v := 1) dL_law_298 (by decide) ?_
        refine g_iadd dL_law_299 ?_
        rw [show nI (5 * k) + 1 = nI (5 * k + 1) from linB]
        refine g_iaS dL_law_300 (by first | exact hb0 | exact hb1 | exact hSys.1 | exact mm0 | exact mm1) (show 5 * k + 1 < L by omega) (by omega) (by rfl) ?_
        refine g_cV1x dL_law_301 lL_34 vX10_vatAt (ct_X10_vatAt X hMo hO) (by first | exact hb0 | exact hb1 | exact hSys.1 | exact mm0 | exact mm1) rfl ⟨Nat.le_of_ble_eq_true rfl, Nat.le_of_ble_eq_true rfl⟩ (Nat.le_of_ble_eq_true rfl) ⟨Nat.le_of_ble_eq_true rfl, Nat.le_of_ble_eq_true rfl⟩ ?_
        refine g_icmp_eq (tgt := 1011) dL_law_304 (by decide) (fun c6 => ?_) (fun c6 => absurd rfl c6)
        first
          | exact J1011 _ _ _ _ _ _ _ I2
          | exact J1011 _ _ _ _ _ _ _ I
      · skip
        refine g_tableIn (tgt := 309) (off := 277) dL_law_32 (by decide) (by decide) (by decide) (by decide) ?_
        refine g_aload_n dL_law_309 (by rfl) (by first | exact isRf_r | exact isRf_n | exact isRf_o | assumption) ?_
        refine g_aload_n dL_law_310 (by rfl) (by first | exact isRf_r | exact isRf_n | exact isRf_o | assumption) ?_
        refine g_iload_n dL_law_311 (by rfl) ?_
        refine g_iconst (v := 1) dL_law_312 (by decide) ?_
        refine g_iadd dL_law_313 ?_
        rw [show nI (5 * k) + 1 = nI (5 * k + 1) from linB]
        refine g_iaS dL_law_314 (by first | exact hb0 | exact hb1 | exact hSys.1 | exact mm0 | exact mm1) (show 5 * k + 1 < L by omega) (by omega) (by rfl) ?_
        refine g_aload_n dL_law_315 (by rfl) (by first | exact isRf_r | exact isRf_n | exact isRf_o | assumption) ?_
        refine g_iload_n dL_law_316 (by rfl) ?_
        refine g_iconst (v := 2) dL_law_317 (by decide) ?_
        refine g_iadd dL_law_318 ?_
        rw [show nI (5 * k) + 2 = nI (5 * k + 2) from linB]
        refine g_iaS dL_law_319 (by first | exact hb0 | exact hb1 | exact hSys.1 | exact mm0 | exact mm1) (show 5 * k + 2 < L by omega) (by omega) (by rfl) ?_
        refine g_cV2 dL_law_320 lL_35 vX9_lot (ct_X9_lot X hSep hn hO hSys) (by first | exact hb0 | exact hb1 | exact hSys.1 | exact mm0 | exact mm1) rfl ⟨Nat.le_of_ble_eq_true rfl, Nat.le_of_ble_eq_true rfl⟩ (Nat.le_of_ble_eq_true rfl) ⟨Nat.le_of_ble_eq_true rfl, Nat.le_of_ble_eq_true rfl⟩ ?_
        rintro _ h1 ⟨rfl, hT⟩
        refine g_stk (st' := [.int _]) rfl ?_
        obtain ⟨hD1, hb1⟩ := I.md hT
        obtain ⟨s1, hS1⟩ := id hD1
        obtain ⟨p1, l1, f1, mm1⟩ := md_m hS1
        refine g_aload_n dL_law_323 (by rfl) (by first | exact isRf_r | exact isRf_n | exact isRf_o | assumption) ?_
        refine g_aload_n dL_law_324 (by rfl) (by first | exact isRf_r | exact isRf_n | exact isRf_o | assumption) ?_
        refine g_iload_n dL_law_325 (by rfl) ?_
        refine g_iconst (v := 1) dL_law_326 (by decide) ?_
        refine g_iadd dL_law_327 ?_
        rw [show nI (5 * k) + 1 = nI (5 * k + 1) from linB]
        refine g_iaS dL_law_328 (by first | exact hb0 | exact hb1 | exact hSys.1 | exact mm0 | exact mm1) (show 5 * k + 1 < L by omega) (by omega) (by rfl) ?_
        refine g_aload_n dL_law_329 (by rfl) (by first | exact isRf_r | exact isRf_n | exact isRf_o | assumption) ?_
        refine g_iload_n dL_law_330 (by rfl) ?_
        refine g_iconst (v := 2) dL_law_331 (by decide) ?_
        refine g_iadd dL_law_332 ?_
        rw [show nI (5 * k) + 2 = nI (5 * k + 2) from linB]
        refine g_iaS dL_law_333 (by first | exact hb0 | exact hb1 | exact hSys.1 | exact mm0 | exact mm1) (show 5 * k + 2 < L by omega) (by omega) (by rfl) ?_
        refine g_cV2 dL_law_334 lL_38 vX10_lot (ct_X10_lot X hn hO hD1) (by first | exact hb0 | exact hb1 | exact hSys.1 | exact mm0 | exact mm1) rfl ⟨Nat.le_of_ble_eq_true rfl, Nat.le_of_ble_eq_true rfl⟩ (Nat.le_of_ble_eq_true rfl) ⟨Nat.le_of_ble_eq_true rfl, Nat.le_of_ble_eq_true rfl⟩ ?_
        rintro _ h2 ⟨rfl, hD⟩
        refine g_stk (st' := [.int _, .int _]) rfl ?_
        obtain ⟨C2, I2⟩ := I.step (F := F_lot r _ _) hT hD (Ok_lot hO) (Ok2_lot hO hO2)
        refine g_icmp_eq (tgt := 1011) dL_law_337 (by decide) (fun c7 => ?_) (fun c7 => absurd rfl c7)
        first
          | exact J1011 _ _ _ _ _ _ _ I2
          | exact J1011 _ _ _ _ _ _ _ I
      · skip
        refine g_tableIn (tgt := 342) (off := 310) dL_law_32 (by decide) (by decide) (by decide) (by decide) ?_
        refine g_aload_n dL_law_342 (by rfl) (by first | exact isRf_r | exact isRf_n | exact isRf_o | assumption) ?_
        refine g_aload_n dL_law_343 (by rfl) (by first | exact isRf_r | exact isRf_n | exact isRf_o | assumption) ?_
        refine g_iload_n dL_law_344 (by rfl) ?_
        refine g_iconst (v := 1) dL_law_345 (by decide) ?_
        refine g_iadd dL_law_346 ?_
        rw [show nI (5 * k) + 1 = nI (5 * k + 1) from linB]
        refine g_iaS dL_law_347 (by first | exact hb0 | exact hb1 | exact hSys.1 | exact mm0 | exact mm1) (show 5 * k + 1 < L by omega) (by omega) (by rfl) ?_
        refine g_aload_n dL_law_348 (by rfl) (by first | exact isRf_r | exact isRf_n | exact isRf_o | assumption) ?_
        refine g_iload_n dL_law_349 (by rfl) ?_
        refine g_iconst (v := 2) dL_law_350 (by decide) ?_
        refine g_iadd dL_law_351 ?_
        rw [show nI (5 * k) + 2 = nI (5 * k + 2) from linB]
        refine g_iaS dL_law_352 (by first | exact hb0 | exact hb1 | exact hSys.1 | exact mm0 | exact mm1) (show 5 * k + 2 < L by omega) (by omega) (by rfl) ?_
        refine g_cV2 dL_law_353 lL_39 vX9_dip (ct_X9_dip X hSep hn hO hSys) (by first | exact hb0 | exact hb1 | exact hSys.1 | exact mm0 | exact mm1) rfl ⟨Nat.le_of_ble_eq_true rfl, Nat.le_of_ble_eq_true rfl⟩ (Nat.le_of_ble_eq_true rfl) ⟨Nat.le_of_ble_eq_true rfl, Nat.le_of_ble_eq_true rfl⟩ ?_
        rintro _ h1 ⟨rfl, hT⟩
        refine g_stk (st' := [.int _]) rfl ?_
        obtain ⟨hD1, hb1⟩ := I.md hT
        obtain ⟨s1, hS1⟩ := id hD1
        obtain ⟨p1, l1, f1, mm1⟩ := md_m hS1
        refine g_aload_n dL_law_356 (by rfl) (by first | exact isRf_r | exact isRf_n | exact isRf_o | assumption) ?_
        refine g_aload_n dL_law_357 (by rfl) (by first | exact isRf_r | exact isRf_n | exact isRf_o | assumption) ?_
        refine g_iload_n dL_law_358 (by rfl) ?_
        refine g_iconst (v := 1) dL_law_359 (by decide) ?_
        refine g_iadd dL_law_360 ?_
        rw [show nI (5 * k) + 1 = nI (5 * k + 1) from linB]
        refine g_iaS dL_law_361 (by first | exact hb0 | exact hb1 | exact hSys.1 | exact mm0 | exact mm1) (show 5 * k + 1 < L by omega) (by omega) (by rfl) ?_
        refine g_aload_n dL_law_362 (by rfl) (by first | exact isRf_r | exact isRf_n | exact isRf_o | assumption) ?_
        refine g_iload_n dL_law_363 (by rfl) ?_
        refine g_iconst (v := 2) dL_law_364 (by decide) ?_
        refine g_iadd dL_law_365 ?_
        rw [show nI (5 * k) + 2 = nI (5 * k + 2) from linB]
        refine g_iaS dL_law_366 (by first | exact hb0 | exact hb1 | exact hSys.1 | exact mm0 | exact mm1) (show 5 * k + 2 < L by omega) (by omega) (by rfl) ?_
        refine g_cV2 dL_law_367 lL_42 vX10_dip (ct_X10_dip X hn hO hD1) (by first | exact hb0 | exact hb1 | exact hSys.1 | exact mm0 | exact mm1) rfl ⟨Nat.le_of_ble_eq_true rfl, Nat.le_of_ble_eq_true rfl⟩ (Nat.le_of_ble_eq_true rfl) ⟨Nat.le_of_ble_eq_true rfl, Nat.le_of_ble_eq_true rfl⟩ ?_
        rintro _ h2 ⟨rfl, hD⟩
        refine g_stk (st' := [.int _, .int _]) rfl ?_
        obtain ⟨C2, I2⟩ := I.step (F := F_dip r _ _) hT hD (Ok_dip hO) (Ok2_dip hO hO2)
        refine g_icmp_eq (tgt := 1011) dL_law_370 (by decide) (fun c8 => ?_) (fun c8 => absurd rfl c8)
        first
          | exact J1011 _ _ _ _ _ _ _ I2
          | exact J1011 _ _ _ _ _ _ _ I
      · skip
        refine g_tableIn (tgt := 375) (off := 343) dL_law_32 (by decide) (by decide) (by decide) (by decide) ?_
        refine g_aload_n dL_law_375 (by rfl) (by first | exact isRf_r | exact isRf_n | exact isRf_o | assumption) ?_
        refine g_aload_n dL_law_376 (by rfl) (by first | exact isRf_r | exact isRf_n | exact isRf_o | assumption) ?_
        refine g_iload_n dL_law_377 (by rfl) ?_
        refine g_iconst (v := 1) dL_law_378 (by decide) ?_
        refine g_iadd dL_law_379 ?_
        rw [show nI (5 * k) + 1 = nI (5 * k + 1) from linB]
        refine g_iaS dL_law_380 (by first | exact hb0 | exact hb1 | exact hSys.1 | exact mm0 | exact mm1) (show 5 * k + 1 < L by omega) (by omega) (by rfl) ?_
        refine g_cV1 dL_law_381 lL_43 vX9_rinse (ct_X9_rinse X hSep hn hO hSys) (by first | exact hb0 | exact hb1 | exact hSys.1 | exact mm0 | exact mm1) rfl ⟨Nat.le_of_ble_eq_true rfl, Nat.le_of_ble_eq_true rfl⟩ (Nat.le_of_ble_eq_true rfl) ⟨Nat.le_of_ble_eq_true rfl, Nat.le_of_ble_eq_true rfl⟩ ?_
        rintro _ h1 ⟨rfl, hT⟩
        refine g_stk (st' := [.int _]) rfl ?_
        obtain ⟨hD1, hb1⟩ := I.md hT
        obtain ⟨s1, hS1⟩ := id hD1
        obtain ⟨p1, l1, f1, mm1⟩ := md_m hS1
        refine g_aload_n dL_law_384 (by rfl) (by first | exact isRf_r | exact isRf_n | exact isRf_o | assumption) ?_
        refine g_aload_n dL_law_385 (by rfl) (by first | exact isRf_r | exact isRf_n | exact isRf_o | assumption) ?_
        refine g_iload_n dL_law_386 (by rfl) ?_
        refine g_iconst (v := 1) dL_law_387 (by decide) ?_
        refine g_iadd dL_law_388 ?_
        rw [show nI (5 * k) + 1 = nI (5 * k + 1) from linB]
        refine g_iaS dL_law_389 (by first | exact hb0 | exact hb1 | exact hSys.1 | exact mm0 | exact mm1) (show 5 * k + 1 < L by omega) (by omega) (by rfl) ?_
        refine g_cV1 dL_law_390 lL_46 vX10_rinse (ct_X10_rinse X hn hO hD1) (by first | exact hb0 | exact hb1 | exact hSys.1 | exact mm0 | exact mm1) rfl ⟨Nat.le_of_ble_eq_true rfl, Nat.le_of_ble_eq_true rfl⟩ (Nat.le_of_ble_eq_true rfl) ⟨Nat.le_of_ble_eq_true rfl, Nat.le_of_ble_eq_true rfl⟩ ?_
        rintro _ h2 ⟨rfl, hD⟩
        refine g_stk (st' := [.int _, .int _]) rfl ?_
        obtain ⟨C2, I2⟩ := I.step (F := F_rinse r _) hT hD (Ok_rinse hO) (Ok2_rinse hO hO2)
        refine g_icmp_eq (tgt := 1011) dL_law_393 (by decide) (fun c9 => ?_) (fun c9 => absurd rfl c9)
        first
          | exact J1011 _ _ _ _ _ _ _ I2
          | exact J1011 _ _ _ _ _ _ _ I
      · skip
        refine g_tableIn (tgt := 398) (off := 366) dL_law_32 (by decide) (by decide) (by decide) (by decide) ?_
        refine g_aload_n dL_law_398 (by rfl) (by first | exact isRf_r | exact isRf_n | exact isRf_o | assumption) ?_
        refine g_aload_n dL_law_399 (by rfl) (by first | exact isRf_r | exact isRf_n | exact isRf_o | assumption) ?_
        refine g_iload_n dL_law_400 (by rfl) ?_
        refine g_iconst (v := 1) dL_law_401 (by decide) ?_
        refine g_iadd dL_law_402 ?_
        rw [show nI (5 * k) + 1 = nI (5 * k + 1) from linB]
        refine g_iaS dL_law_403 (by first | exact hb0 | exact hb1 | exact hSys.1 | exact mm0 | exact mm1) (show 5 * k + 1 < L by omega) (by omega) (by rfl) ?_
        refine g_aload_n dL_law_404 (by rfl) (by first | exact isRf_r | exact isRf_n | exact isRf_o | assumption) ?_
        refine g_iload_n dL_law_405 (by rfl) ?_
        refine g_iconst (v := 2) dL_law_406 (by decide) ?_
        refine g_iadd dL_law_407 ?_
        rw [show nI (5 * k) + 2 = nI (5 * k + 2) from linB]
        refine g_iaS dL_law_408 (by first | exact hb0 | exact hb1 | exact hSys.1 | exact mm0 | exact mm1) (show 5 * k + 2 < L by omega) (by omega) (by rfl) ?_
        refine g_cV2 dL_law_409 lL_47 vX9_hang (ct_X9_hang X hSep hn hO hSys) (by first | exact hb0 | exact hb1 | exact hSys.1 | exact mm0 | exact mm1) rfl ⟨Nat.le_of_ble_eq_true rfl, Nat.le_of_ble_eq_true rfl⟩ (Nat.le_of_ble_eq_true rfl) ⟨Nat.le_of_ble_eq_true rfl, Nat.le_of_ble_eq_true rfl⟩ ?_
        rintro _ h1 ⟨rfl, hT⟩
        refine g_stk (st' := [.int _]) rfl ?_
        obtain ⟨hD1, hb1⟩ := I.md hT
        obtain ⟨s1, hS1⟩ := id hD1
        obtain ⟨p1, l1, f1, mm1⟩ := md_m hS1
        refine g_aload_n dL_law_412 (by rfl) (by first | exact isRf_r | exact isRf_n | exact isRf_o | assumption) ?_
        refine g_aload_n dL_law_413 (by rfl) (by first | exact isRf_r | exact isRf_n | exact isRf_o | assumption) ?_
        refine g_iload_n dL_law_414 (by rfl) ?_
        refine g_iconst (v := 1) dL_law_415 (by decide) ?_
        refine g_iadd dL_law_416 ?_
        rw [show nI (5 * k) + 1 = nI (5 * k + 1) from linB]
        refine g_iaS dL_law_417 (by first | exact hb0 | exact hb1 | exact hSys.1 | exact mm0 | exact mm1) (show 5 * k + 1 < L by omega) (by omega) (by rfl) ?_
        refine g_aload_n dL_law_418 (by rfl) (by first | exact isRf_r | exact isRf_n | exact isRf_o | assumption) ?_
        refine g_iload_n dL_law_419 (by rfl) ?_
        refine g_iconst (v := 2) dL_law_420 (by decide) ?_
        refine g_iadd dL_law_421 ?_
        rw [show nI (5 * k) + 2 = nI (5 * k + 2) from linB]
        refine g_iaS dL_law_422 (by first | exact hb0 | exact hb1 | exact hSys.1 | exact mm0 | exact mm1) (show 5 * k + 2 < L by omega) (by omega) (by rfl) ?_
        refine g_cV2 dL_law_423 lL_50 vX10_hang (ct_X10_hang X hn hO hD1 hO2.1) (by first | exact hb0 | exact hb1 | exact hSys.1 | exact mm0 | exact mm1) rfl ⟨Nat.le_of_ble_eq_true rfl, Nat.le_of_ble_eq_true rfl⟩ (Nat.le_of_ble_eq_true rfl) ⟨Nat.le_of_ble_eq_true rfl, Nat.le_of_ble_eq_true rfl⟩ ?_
        rintro _ h2 ⟨rfl, hD⟩
        refine g_stk (st' := [.int _, .int _]) rfl ?_
        obtain ⟨C2, I2⟩ := I.step (F := F_hang r _ _) hT hD (Ok_hang hO) (Ok2_hang hO hO2)
        refine g_icmp_eq (tgt := 1011) dL_law_426 (by decide) (fun c10 => ?_) (fun c10 => absurd rfl c10)
        first
          | exact J1011 _ _ _ _ _ _ _ I2
          | exact J1011 _ _ _ _ _ _ _ I
      · skip
        refine g_tableIn (tgt := 431) (off := 399) dL_law_32 (by decide) (by decide) (by decide) (by decide) ?_
        refine g_aload_n dL_law_431 (by rfl) (by first | exact isRf_r | exact isRf_n | exact isRf_o | assumption) ?_
        refine g_aload_n dL_law_432 (by rfl) (by first | exact isRf_r | exact isRf_n | exact isRf_o | assumption) ?_
        refine g_iload_n dL_law_433 (by rfl) ?_
        refine g_iconst (v := 1) dL_law_434 (by decide) ?_
        refine g_iadd dL_law_435 ?_
        rw [show nI (5 * k) + 1 = nI (5 * k + 1) from linB]
        refine g_iaS dL_law_436 (by first | exact hb0 | exact hb1 | exact hSys.1 | exact mm0 | exact mm1) (show 5 * k + 1 < L by omega) (by omega) (by rfl) ?_
        refine g_cV1 dL_law_437 lL_51 vX9_take (ct_X9_take X hSep hn hO hSys) (by first | exact hb0 | exact hb1 | exact hSys.1 | exact mm0 | exact mm1) rfl ⟨Nat.le_of_ble_eq_true rfl, Nat.le_of_ble_eq_true rfl⟩ (Nat.le_of_ble_eq_true rfl) ⟨Nat.le_of_ble_eq_true rfl, Nat.le_of_ble_eq_true rfl⟩ ?_
        rintro _ h1 ⟨rfl, hT⟩
        refine g_stk (st' := [.int _]) rfl ?_
        obtain ⟨hD1, hb1⟩ := I.md hT
        obtain ⟨s1, hS1⟩ := id hD1
        obtain ⟨p1, l1, f1, mm1⟩ := md_m hS1
        refine g_aload_n dL_law_440 (by rfl) (by first | exact isRf_r | exact isRf_n | exact isRf_o | assumption) ?_
        refine g_aload_n dL_law_441 (by rfl) (by first | exact isRf_r | exact isRf_n | exact isRf_o | assumption) ?_
        refine g_iload_n dL_law_442 (by rfl) ?_
        refine g_iconst (v := 1) dL_law_443 (by decide) ?_
        refine g_iadd dL_law_444 ?_
        rw [show nI (5 * k) + 1 = nI (5 * k + 1) from linB]
        refine g_iaS dL_law_445 (by first | exact hb0 | exact hb1 | exact hSys.1 | exact mm0 | exact mm1) (show 5 * k + 1 < L by omega) (by omega) (by rfl) ?_
        refine g_cV1 dL_law_446 lL_54 vX10_take (ct_X10_take X hn hO hD1) (by first | exact hb0 | exact hb1 | exact hSys.1 | exact mm0 | exact mm1) rfl ⟨Nat.le_of_ble_eq_true rfl, Nat.le_of_ble_eq_true rfl⟩ (Nat.le_of_ble_eq_true rfl) ⟨Nat.le_of_ble_eq_true rfl, Nat.le_of_ble_eq_true rfl⟩ ?_
        rintro _ h2 ⟨rfl, hD⟩
        refine g_stk (st' := [.int _, .int _]) rfl ?_
        obtain ⟨C2, I2⟩ := I.step (F := F_take r _) hT hD (Ok_take hO) (Ok2_take hO hO2)
        refine g_icmp_eq (tgt := 1011) dL_law_449 (by decide) (fun c11 => ?_) (fun c11 => absurd rfl c11)
        first
          | exact J1011 _ _ _ _ _ _ _ I2
          | exact J1011 _ _ _ _ _ _ _ I
      · skip
        refine g_tableIn (tgt := 454) (off := 422) dL_law_32 (by decide) (by decide) (by decide) (by decide) ?_
        refine g_aload_n dL_law_454 (by rfl) (by first | exact isRf_r | exact isRf_n | exact isRf_o | assumption) ?_
        refine g_aload_n dL_law_455 (by rfl) (by first | exact isRf_r | exact isRf_n | exact isRf_o | assumption) ?_
        refine g_iload_n dL_law_456 (by rfl) ?_
        refine g_iconst (v := 1) dL_law_457 (by decide) ?_
        refine g_iadd dL_law_458 ?_
        rw [show nI (5 * k) + 1 = nI (5 * k + 1) from linB]
        refine g_iaS dL_law_459 (by first | exact hb0 | exact hb1 | exact hSys.1 | exact mm0 | exact mm1) (show 5 * k + 1 < L by omega) (by omega) (by rfl) ?_
        refine g_aload_n dL_law_460 (by rfl) (by first | exact isRf_r | exact isRf_n | exact isRf_o | assumption) ?_
        refine g_iload_n dL_law_461 (by rfl) ?_
        refine g_iconst (v := 2) dL_law_462 (by decide) ?_
        refine g_iadd dL_law_463 ?_
        rw [show nI (5 * k) + 2 = nI (5 * k + 2) from linB]
        refine g_iaS dL_law_464 (by first | exact hb0 | exact hb1 | exact hSys.1 | exact mm0 | exact mm1) (show 5 * k + 2 < L by omega) (by omega) (by rfl) ?_
        refine g_cV2x dL_law_465 lL_55 vX9_lotOf (ct_X9_lotOf X hO hSys) (by first | exact hb0 | exact hb1 | exact hSys.1 | exact mm0 | exact mm1) rfl ⟨Nat.le_of_ble_eq_true rfl, Nat.le_of_ble_eq_true rfl⟩ (Nat.le_of_ble_eq_true rfl) ⟨Nat.le_of_ble_eq_true rfl, Nat.le_of_ble_eq_true rfl⟩ ?_
        refine g_aload_n dL_law_468 (by rfl) (by first | exact isRf_r | exact isRf_n | exact isRf_o | assumption) ?_
        refine g_aload_n dL_law_469 (by rfl) (by first | exact isRf_r | exact isRf_n | exact isRf_o | assumption) ?_
        refine g_iload_n dL_law_470 (by rfl) ?_
        refine g_iconst (v := 1) dL_law_471 (by decide) ?_
        refine g_iadd dL_law_472 ?_
        rw [show nI (5 * k) + 1 = nI (5 * k + 1) from linB]
        refine g_iaS dL_law_473 (by first | exact hb0 | exact hb1 | exact hSys.1 | exact mm0 | exact mm1) (show 5 * k + 1 < L by omega) (by omega) (by rfl) ?_
        refine g_aload_n dL_law_474 (by rfl) (by first | exact isRf_r | exact isRf_n | exact isRf_o | assumption) ?_
        refine g_iload_n dL_law_475 (by rfl) ?_
        refine g_iconst (v := 2) dL_law_476 (by decide) ?_
        refine g_iadd dL_law_477 ?_
        rw [show nI (5 * k) + 2 = nI (5 * k + 2) from linB]
        refine g_iaS dL_law_478 (by first | exact hb0 | exact hb1 | exact hSys.1 | exact mm0 | exact mm1) (show 5 * k + 2 < L by omega) (by omega) (by rfl) ?_
        refine g_cV2x dL_law_479 lL_58 vX10_lotOf (ct_X10_lotOf X hMo hO) (by first | exact hb0 | exact hb1 | exact hSys.1 | exact mm0 | exact mm1) rfl ⟨Nat.le_of_ble_eq_true rfl, Nat.le_of_ble_eq_true rfl⟩ (Nat.le_of_ble_eq_true rfl) ⟨Nat.le_of_ble_eq_true rfl, Nat.le_of_ble_eq_true rfl⟩ ?_
        refine g_icmp_eq (tgt := 1011) dL_law_482 (by decide) (fun c12 => ?_) (fun c12 => absurd rfl c12)
        first
          | exact J1011 _ _ _ _ _ _ _ I2
          | exact J1011 _ _ _ _ _ _ _ I
      · skip
        refine g_tableIn (tgt := 487) (off := 455) dL_law_32 (by decide) (by decide) (by decide) (by decide) ?_
        refine g_aload_n dL_law_487 (by rfl) (by first | exact isRf_r | exact isRf_n | exact isRf_o | assumption) ?_
        refine g_aload_n dL_law_488 (by rfl) (by first | exact isRf_r | exact isRf_n | exact isRf_o | assumption) ?_
        refine g_iload_n dL_law_489 (by rfl) ?_
        refine g_iconst (v := 1) dL_law_490 (by decide) ?_
        refine g_iadd dL_law_491 ?_
        rw [show nI (5 * k) + 1 = nI (5 * k + 1) from linB]
        refine g_iaS dL_law_492 (by first | exact hb0 | exact hb1 | exact hSys.1 | exact mm0 | exact mm1) (show 5 * k + 1 < L by omega) (by omega) (by rfl) ?_
        refine g_aload_n dL_law_493 (by rfl) (by first | exact isRf_r | exact isRf_n | exact isRf_o | assumption) ?_
        refine g_iload_n dL_law_494 (by rfl) ?_
        refine g_iconst (v := 2) dL_law_495 (by decide) ?_
        refine g_iadd dL_law_496 ?_
        rw [show nI (5 * k) + 2 = nI (5 * k + 2) from linB]
        refine g_iaS dL_law_497 (by first | exact hb0 | exact hb1 | exact hSys.1 | exact mm0 | exact mm1) (show 5 * k + 2 < L by omega) (by omega) (by rfl) ?_
        refine g_cV2x dL_law_498 lL_59 vX9_shade (ct_X9_shade X hO hSys) (by first | exact hb0 | exact hb1 | exact hSys.1 | exact mm0 | exact mm1) rfl ⟨Nat.le_of_ble_eq_true rfl, Nat.le_of_ble_eq_true rfl⟩ (Nat.le_of_ble_eq_true rfl) ⟨Nat.le_of_ble_eq_true rfl, Nat.le_of_ble_eq_true rfl⟩ ?_
        refine g_aload_n dL_law_501 (by rfl) (by first | exact isRf_r | exact isRf_n | exact isRf_o | assumption) ?_
        refine g_aload_n dL_law_502 (by rfl) (by first | exact isRf_r | exact isRf_n | exact isRf_o | assumption) ?_
        refine g_iload_n dL_law_503 (by rfl) ?_
        refine g_iconst (v := 1) dL_law_504 (by decide) ?_
        refine g_iadd dL_law_505 ?_
        rw [show nI (5 * k) + 1 = nI (5 * k + 1) from linB]
        refine g_iaS dL_law_506 (by first | exact hb0 | exact hb1 | exact hSys.1 | exact mm0 | exact mm1) (show 5 * k + 1 < L by omega) (by omega) (by rfl) ?_
        refine g_aload_n dL_law_507 (by rfl) (by first | exact isRf_r | exact isRf_n | exact isRf_o | assumption) ?_
        refine g_iload_n dL_law_508 (by rfl) ?_
        refine g_iconst (v := 2) dL_law_509 (by decide) ?_
        refine g_iadd dL_law_510 ?_
        rw [show nI (5 * k) + 2 = nI (5 * k + 2) from linB]
        refine g_iaS dL_law_511 (by first | exact hb0 | exact hb1 | exact hSys.1 | exact mm0 | exact mm1) (show 5 * k + 2 < L by omega) (by omega) (by rfl) ?_
        refine g_cV2x dL_law_512 lL_62 vX10_shade (ct_X10_shade X hMo hO) (by first | exact hb0 | exact hb1 | exact hSys.1 | exact mm0 | exact mm1) rfl ⟨Nat.le_of_ble_eq_true rfl, Nat.le_of_ble_eq_true rfl⟩ (Nat.le_of_ble_eq_true rfl) ⟨Nat.le_of_ble_eq_true rfl, Nat.le_of_ble_eq_true rfl⟩ ?_
        refine g_icmp_eq (tgt := 1011) dL_law_515 (by decide) (fun c13 => ?_) (fun c13 => absurd rfl c13)
        first
          | exact J1011 _ _ _ _ _ _ _ I2
          | exact J1011 _ _ _ _ _ _ _ I
      · skip
        refine g_tableIn (tgt := 520) (off := 488) dL_law_32 (by decide) (by decide) (by decide) (by decide) ?_
        refine g_aload_n dL_law_520 (by rfl) (by first | exact isRf_r | exact isRf_n | exact isRf_o | assumption) ?_
        refine g_aload_n dL_law_521 (by rfl) (by first | exact isRf_r | exact isRf_n | exact isRf_o | assumption) ?_
        refine g_iload_n dL_law_522 (by rfl) ?_
        refine g_iconst (v := 1) dL_law_523 (by decide) ?_
        refine g_iadd dL_law_524 ?_
        rw [show nI (5 * k) + 1 = nI (5 * k + 1) from linB]
        refine g_iaS dL_law_525 (by first | exact hb0 | exact hb1 | exact hSys.1 | exact mm0 | exact mm1) (show 5 * k + 1 < L by omega) (by omega) (by rfl) ?_
        refine g_aload_n dL_law_526 (by rfl) (by first | exact isRf_r | exact isRf_n | exact isRf_o | assumption) ?_
        refine g_iload_n dL_law_527 (by rfl) ?_
        refine g_iconst (v := 2) dL_law_528 (by decide) ?_
        refine g_iadd dL_law_529 ?_
        rw [show nI (5 * k) + 2 = nI (5 * k + 2) from linB]
        refine g_iaS dL_law_530 (by first | exact hb0 | exact hb1 | exact hSys.1 | exact mm0 | exact mm1) (show 5 * k + 2 < L by omega) (by omega) (by rfl) ?_
        refine g_cV2x dL_law_531 lL_63 vX9_shadeBits (ct_X9_shadeBits X hO hSys) (by first | exact hb0 | exact hb1 | exact hSys.1 | exact mm0 | exact mm1) rfl ⟨Nat.le_of_ble_eq_true rfl, Nat.le_of_ble_eq_true rfl⟩ (Nat.le_of_ble_eq_true rfl) ⟨Nat.le_of_ble_eq_true rfl, Nat.le_of_ble_eq_true rfl⟩ ?_
        refine g_aload_n dL_law_534 (by rfl) (by first | exact isRf_r | exact isRf_n | exact isRf_o | assumption) ?_
        refine g_aload_n dL_law_535 (by rfl) (by first | exact isRf_r | exact isRf_n | exact isRf_o | assumption) ?_
        refine g_iload_n dL_law_536 (by rfl) ?_
        refine g_iconst (v := 1) dL_law_537 (by decide) ?_
        refine g_iadd dL_law_538 ?_
        rw [show nI (5 * k) + 1 = nI (5 * k + 1) from linB]
        refine g_iaS dL_law_539 (by first | exact hb0 | exact hb1 | exact hSys.1 | exact mm0 | exact mm1) (show 5 * k + 1 < L by omega) (by omega) (by rfl) ?_
        refine g_aload_n dL_law_540 (by rfl) (by first | exact isRf_r | exact isRf_n | exact isRf_o | assumption) ?_
        refine g_iload_n dL_law_541 (by rfl) ?_
        refine g_iconst (v := 2) dL_law_542 (by decide) ?_
        refine g_iadd dL_law_543 ?_
        rw [show nI (5 * k) + 2 = nI (5 * k + 2) from linB]
        refine g_iaS dL_law_544 (by first | exact hb0 | exact hb1 | exact hSys.1 | exact mm0 | exact mm1) (show 5 * k + 2 < L by omega) (by omega) (by rfl) ?_
        refine g_cV2x dL_law_545 lL_66 vX10_shadeBits (ct_X10_shadeBits X hMo hO) (by first | exact hb0 | exact hb1 | exact hSys.1 | exact mm0 | exact mm1) rfl ⟨Nat.le_of_ble_eq_true rfl, Nat.le_of_ble_eq_true rfl⟩ (Nat.le_of_ble_eq_true rfl) ⟨Nat.le_of_ble_eq_true rfl, Nat.le_of_ble_eq_true rfl⟩ ?_
        refine g_icmp_eq (tgt := 1011) dL_law_548 (by decide) (fun c14 => ?_) (fun c14 => absurd rfl c14)
        first
          | exact J1011 _ _ _ _ _ _ _ I2
          | exact J1011 _ _ _ _ _ _ _ I
      · skip
        refine g_tableIn (tgt := 553) (off := 521) dL_law_32 (by decide) (by decide) (by decide) (by decide) ?_
        refine g_aload_n dL_law_553 (by rfl) (by first | exact isRf_r | exact isRf_n | exact isRf_o | assumption) ?_
        refine g_aload_n dL_law_554 (by rfl) (by first | exact isRf_r | exact isRf_n | exact isRf_o | assumption) ?_
        refine g_iload_n dL_law_555 (by rfl) ?_
        refine g_iconst (v := 1) dL_law_556 (by decide) ?_
        refine g_iadd dL_law_557 ?_
        rw [show nI (5 * k) + 1 = nI (5 * k + 1) from linB]
        refine g_iaS dL_law_558 (by first | exact hb0 | exact hb1 | exact hSys.1 | exact mm0 | exact mm1) (show 5 * k + 1 < L by omega) (by omega) (by rfl) ?_
        refine g_cV1x dL_law_559 lL_67 vX9_meanBits (ct_X9_meanBits X hO hSys) (by first | exact hb0 | exact hb1 | exact hSys.1 | exact mm0 | exact mm1) rfl ⟨Nat.le_of_ble_eq_true rfl, Nat.le_of_ble_eq_true rfl⟩ (Nat.le_of_ble_eq_true rfl) ⟨Nat.le_of_ble_eq_true rfl, Nat.le_of_ble_eq_true rfl⟩ ?_
        refine g_aload_n dL_law_562 (by rfl) (by first | exact isRf_r | exact isRf_n | exact isRf_o | assumption) ?_
        refine g_aload_n dL_law_563 (by rfl) (by first | exact isRf_r | exact isRf_n | exact isRf_o | assumption) ?_
        refine g_iload_n dL_law_564 (by rfl) ?_
        refine g_iconst (v := 1) dL_law_565 (by decide) ?_
        refine g_iadd dL_law_566 ?_
        rw [show nI (5 * k) + 1 = nI (5 * k + 1) from linB]
        refine g_iaS dL_law_567 (by first | exact hb0 | exact hb1 | exact hSys.1 | exact mm0 | exact mm1) (show 5 * k + 1 < L by omega) (by omega) (by rfl) ?_
        refine g_cV1x dL_law_568 lL_70 vX10_meanBits (ct_X10_meanBits X hMo hO) (by first | exact hb0 | exact hb1 | exact hSys.1 | exact mm0 | exact mm1) rfl ⟨Nat.le_of_ble_eq_true rfl, Nat.le_of_ble_eq_true rfl⟩ (Nat.le_of_ble_eq_true rfl) ⟨Nat.le_of_ble_eq_true rfl, Nat.le_of_ble_eq_true rfl⟩ ?_
        refine g_icmp_eq (tgt := 1011) dL_law_571 (by decide) (fun c15 => ?_) (fun c15 => absurd rfl c15)
        first
          | exact J1011 _ _ _ _ _ _ _ I2
          | exact J1011 _ _ _ _ _ _ _ I
      · skip
        refine g_tableIn (tgt := 576) (off := 544) dL_law_32 (by decide) (by decide) (by decide) (by decide) ?_
        refine g_aload_n dL_law_576 (by rfl) (by first | exact isRf_r | exact isRf_n | exact isRf_o | assumption) ?_
        refine g_aload_n dL_law_577 (by rfl) (by first | exact isRf_r | exact isRf_n | exact isRf_o | assumption) ?_
        refine g_iload_n dL_law_578 (by rfl) ?_
        refine g_iconst (v := 1) dL_law_579 (by decide) ?_
        refine g_iadd dL_law_580 ?_
        rw [show nI (5 * k) + 1 = nI (5 * k + 1) from linB]
        refine g_iaS dL_law_581 (by first | exact hb0 | exact hb1 | exact hSys.1 | exact mm0 | exact mm1) (show 5 * k + 1 < L by omega) (by omega) (by rfl) ?_
        refine g_aload_n dL_law_582 (by rfl) (by first | exact isRf_r | exact isRf_n | exact isRf_o | assumption) ?_
        refine g_iload_n dL_law_583 (by rfl) ?_
        refine g_iconst (v := 2) dL_law_584 (by decide) ?_
        refine g_iadd dL_law_585 ?_
        rw [show nI (5 * k) + 2 = nI (5 * k + 2) from linB]
        refine g_iaS dL_law_586 (by first | exact hb0 | exact hb1 | exact hSys.1 | exact mm0 | exact mm1) (show 5 * k + 2 < L by omega) (by omega) (by rfl) ?_
        refine g_aload_n dL_law_587 (by rfl) (by first | exact isRf_r | exact isRf_n | exact isRf_o | assumption) ?_
        refine g_iload_n dL_law_588 (by rfl) ?_
        refine g_iconst (v := 3) dL_law_589 (by decide) ?_
        refine g_iadd dL_law_590 ?_
        rw [show nI (5 * k) + 3 = nI (5 * k + 3) from linB]
        refine g_iaS dL_law_591 (by first | exact hb0 | exact hb1 | exact hSys.1 | exact mm0 | exact mm1) (show 5 * k + 3 < L by omega) (by omega) (by rfl) ?_
        refine g_aload_n dL_law_592 (by rfl) (by first | exact isRf_r | exact isRf_n | exact isRf_o | assumption) ?_
        refine g_iload_n dL_law_593 (by rfl) ?_
        refine g_iconst (v := 4) dL_law_594 (by decide) ?_
        refine g_iadd dL_law_595 ?_
        rw [show nI (5 * k) + 4 = nI (5 * k + 4) from linB]
        refine g_iaS dL_law_596 (by first | exact hb0 | exact hb1 | exact hSys.1 | exact mm0 | exact mm1) (show 5 * k + 4 < L by omega) (by omega) (by rfl) ?_
        refine g_cV4 dL_law_597 lL_71 vX9_order (ct_X9_order X hSep hn hO hSys) (by first | exact hb0 | exact hb1 | exact hSys.1 | exact mm0 | exact mm1) rfl ⟨Nat.le_of_ble_eq_true rfl, Nat.le_of_ble_eq_true rfl⟩ (Nat.le_of_ble_eq_true rfl) ⟨Nat.le_of_ble_eq_true rfl, Nat.le_of_ble_eq_true rfl⟩ ?_
        rintro _ h1 ⟨rfl, hT⟩
        refine g_stk (st' := [.int _]) rfl ?_
        obtain ⟨hD1, hb1⟩ := I.md hT
        obtain ⟨s1, hS1⟩ := id hD1
        obtain ⟨p1, l1, f1, mm1⟩ := md_m hS1
        refine g_aload_n dL_law_600 (by rfl) (by first | exact isRf_r | exact isRf_n | exact isRf_o | assumption) ?_
        refine g_aload_n dL_law_601 (by rfl) (by first | exact isRf_r | exact isRf_n | exact isRf_o | assumption) ?_
        refine g_iload_n dL_law_602 (by rfl) ?_
        refine g_iconst (v := 1) dL_law_603 (by decide) ?_
        refine g_iadd dL_law_604 ?_
        rw [show nI (5 * k) + 1 = nI (5 * k + 1) from linB]
        refine g_iaS dL_law_605 (by first | exact hb0 | exact hb1 | exact hSys.1 | exact mm0 | exact mm1) (show 5 * k + 1 < L by omega) (by omega) (by rfl) ?_
        refine g_aload_n dL_law_606 (by rfl) (by first | exact isRf_r | exact isRf_n | exact isRf_o | assumption) ?_
        refine g_iload_n dL_law_607 (by rfl) ?_
        refine g_iconst (v := 2) dL_law_608 (by decide) ?_
        refine g_iadd dL_law_609 ?_
        rw [show nI (5 * k) + 2 = nI (5 * k + 2) from linB]
        refine g_iaS dL_law_610 (by first | exact hb0 | exact hb1 | exact hSys.1 | exact mm0 | exact mm1) (show 5 * k + 2 < L by omega) (by omega) (by rfl) ?_
        refine g_aload_n dL_law_611 (by rfl) (by first | exact isRf_r | exact isRf_n | exact isRf_o | assumption) ?_
        refine g_iload_n dL_law_612 (by rfl) ?_
        refine g_iconst (v := 3) dL_law_613 (by decide) ?_
        refine g_iadd dL_law_614 ?_
        rw [show nI (5 * k) + 3 = nI (5 * k + 3) from linB]
        refine g_iaS dL_law_615 (by first | exact hb0 | exact hb1 | exact hSys.1 | exact mm0 | exact mm1) (show 5 * k + 3 < L by omega) (by omega) (by rfl) ?_
        refine g_aload_n dL_law_616 (by rfl) (by first | exact isRf_r | exact isRf_n | exact isRf_o | assumption) ?_
        refine g_iload_n dL_law_617 (by rfl) ?_
        refine g_iconst (v := 4) dL_law_618 (by decide) ?_
        refine g_iadd dL_law_619 ?_
        rw [show nI (5 * k) + 4 = nI (5 * k + 4) from linB]
        refine g_iaS dL_law_620 (by first | exact hb0 | exact hb1 | exact hSys.1 | exact mm0 | exact mm1) (show 5 * k + 4 < L by omega) (by omega) (by rfl) ?_
        refine g_cV4 dL_law_621 lL_75 vX10_order (ct_X10_order X hn hO hD1 hO2.2) (by first | exact hb0 | exact hb1 | exact hSys.1 | exact mm0 | exact mm1) rfl ⟨Nat.le_of_ble_eq_true rfl, Nat.le_of_ble_eq_true rfl⟩ (Nat.le_of_ble_eq_true rfl) ⟨Nat.le_of_ble_eq_true rfl, Nat.le_of_ble_eq_true rfl⟩ ?_
        rintro _ h2 ⟨rfl, hD⟩
        refine g_stk (st' := [.int _, .int _]) rfl ?_
        obtain ⟨C2, I2⟩ := I.step (F := F_order r _ _ _ _) hT hD (Ok_order hO) (Ok2_order hO hO2)
        refine g_icmp_eq (tgt := 1011) dL_law_624 (by decide) (fun c16 => ?_) (fun c16 => absurd rfl c16)
        first
          | exact J1011 _ _ _ _ _ _ _ I2
          | exact J1011 _ _ _ _ _ _ _ I
      · skip
        refine g_tableIn (tgt := 629) (off := 597) dL_law_32 (by decide) (by decide) (by decide) (by decide) ?_
        refine g_aload_n dL_law_629 (by rfl) (by first | exact isRf_r | exact isRf_n | exact isRf_o | assumption) ?_
        refine g_aload_n dL_law_630 (by rfl) (by first | exact isRf_r | exact isRf_n | exact isRf_o | assumption) ?_
        refine g_iload_n dL_law_631 (by rfl) ?_
        refine g_iconst (v := 1) dL_law_632 (by decide) ?_
        refine g_iadd dL_law_633 ?_
        rw [show nI (5 * k) + 1 = nI (5 * k + 1) from linB]
        refine g_iaS dL_law_634 (by first | exact hb0 | exact hb1 | exact hSys.1 | exact mm0 | exact mm1) (show 5 * k + 1 < L by omega) (by omega) (by rfl) ?_
        refine g_aload_n dL_law_635 (by rfl) (by first | exact isRf_r | exact isRf_n | exact isRf_o | assumption) ?_
        refine g_iload_n dL_law_636 (by rfl) ?_
        refine g_iconst (v := 2) dL_law_637 (by decide) ?_
        refine g_iadd dL_law_638 ?_
        rw [show nI (5 * k) + 2 = nI (5 * k + 2) from linB]
        refine g_iaS dL_law_639 (by first | exact hb0 | exact hb1 | exact hSys.1 | exact mm0 | exact mm1) (show 5 * k + 2 < L by omega) (by omega) (by rfl) ?_
        refine g_cV2 dL_law_640 lL_76 vX9_sell (ct_X9_sell X hSep hn hO hSys) (by first | exact hb0 | exact hb1 | exact hSys.1 | exact mm0 | exact mm1) rfl ⟨Nat.le_of_ble_eq_true rfl, Nat.le_of_ble_eq_true rfl⟩ (Nat.le_of_ble_eq_true rfl) ⟨Nat.le_of_ble_eq_true rfl, Nat.le_of_ble_eq_true rfl⟩ ?_
        rintro _ h1 ⟨rfl, hT⟩
        refine g_stk (st' := [.int _]) rfl ?_
        obtain ⟨hD1, hb1⟩ := I.md hT
        obtain ⟨s1, hS1⟩ := id hD1
        obtain ⟨p1, l1, f1, mm1⟩ := md_m hS1
        refine g_aload_n dL_law_643 (by rfl) (by first | exact isRf_r | exact isRf_n | exact isRf_o | assumption) ?_
        refine g_aload_n dL_law_644 (by rfl) (by first | exact isRf_r | exact isRf_n | exact isRf_o | assumption) ?_
        refine g_iload_n dL_law_645 (by rfl) ?_
        refine g_iconst (v := 1) dL_law_646 (by decide) ?_
        refine g_iadd dL_law_647 ?_
        rw [show nI (5 * k) + 1 = nI (5 * k + 1) from linB]
        refine g_iaS dL_law_648 (by first | exact hb0 | exact hb1 | exact hSys.1 | exact mm0 | exact mm1) (show 5 * k + 1 < L by omega) (by omega) (by rfl) ?_
        refine g_aload_n dL_law_649 (by rfl) (by first | exact isRf_r | exact isRf_n | exact isRf_o | assumption) ?_
        refine g_iload_n dL_law_650 (by rfl) ?_
        refine g_iconst (v := 2) dL_law_651 (by decide) ?_
        refine g_iadd dL_law_652 ?_
        rw [show nI (5 * k) + 2 = nI (5 * k + 2) from linB]
        refine g_iaS dL_law_653 (by first | exact hb0 | exact hb1 | exact hSys.1 | exact mm0 | exact mm1) (show 5 * k + 2 < L by omega) (by omega) (by rfl) ?_
        refine g_cV2 dL_law_654 lL_79 vX10_sell (ct_X10_sell X hn hO hD1) (by first | exact hb0 | exact hb1 | exact hSys.1 | exact mm0 | exact mm1) rfl ⟨Nat.le_of_ble_eq_true rfl, Nat.le_of_ble_eq_true rfl⟩ (Nat.le_of_ble_eq_true rfl) ⟨Nat.le_of_ble_eq_true rfl, Nat.le_of_ble_eq_true rfl⟩ ?_
        rintro _ h2 ⟨rfl, hD⟩
        refine g_stk (st' := [.int _, .int _]) rfl ?_
        obtain ⟨C2, I2⟩ := I.step (F := F_sell r _ _) hT hD (Ok_sell hO) (Ok2_sell hO hO2)
        refine g_icmp_eq (tgt := 1011) dL_law_657 (by decide) (fun c17 => ?_) (fun c17 => absurd rfl c17)
        first
          | exact J1011 _ _ _ _ _ _ _ I2
          | exact J1011 _ _ _ _ _ _ _ I
      · skip
        refine g_tableIn (tgt := 662) (off := 630) dL_law_32 (by decide) (by decide) (by decide) (by decide) ?_
        refine g_aload_n dL_law_662 (by rfl) (by first | exact isRf_r | exact isRf_n | exact isRf_o | assumption) ?_
        refine g_aload_n dL_law_663 (by rfl) (by first | exact isRf_r | exact isRf_n | exact isRf_o | assumption) ?_
        refine g_iload_n dL_law_664 (by rfl) ?_
        refine g_iconst (v := 1) dL_law_665 (by decide) ?_
        refine g_iadd dL_law_666 ?_
        rw [show nI (5 * k) + 1 = nI (5 * k + 1) from linB]
        refine g_iaS dL_law_667 (by first | exact hb0 | exact hb1 | exact hSys.1 | exact mm0 | exact mm1) (show 5 * k + 1 < L by omega) (by omega) (by rfl) ?_
        refine g_aload_n dL_law_668 (by rfl) (by first | exact isRf_r | exact isRf_n | exact isRf_o | assumption) ?_
        refine g_iload_n dL_law_669 (by rfl) ?_
        refine g_iconst (v := 2) dL_law_670 (by decide) ?_
        refine g_iadd dL_law_671 ?_
        rw [show nI (5 * k) + 2 = nI (5 * k + 2) from linB]
        refine g_iaS dL_law_672 (by first | exact hb0 | exact hb1 | exact hSys.1 | exact mm0 | exact mm1) (show 5 * k + 2 < L by omega) (by omega) (by rfl) ?_
        refine g_cV2x dL_law_673 lL_80 vX9_orderOf (ct_X9_orderOf X hO hSys) (by first | exact hb0 | exact hb1 | exact hSys.1 | exact mm0 | exact mm1) rfl ⟨Nat.le_of_ble_eq_true rfl, Nat.le_of_ble_eq_true rfl⟩ (Nat.le_of_ble_eq_true rfl) ⟨Nat.le_of_ble_eq_true rfl, Nat.le_of_ble_eq_true rfl⟩ ?_
        refine g_aload_n dL_law_676 (by rfl) (by first | exact isRf_r | exact isRf_n | exact isRf_o | assumption) ?_
        refine g_aload_n dL_law_677 (by rfl) (by first | exact isRf_r | exact isRf_n | exact isRf_o | assumption) ?_
        refine g_iload_n dL_law_678 (by rfl) ?_
        refine g_iconst (v := 1) dL_law_679 (by decide) ?_
        refine g_iadd dL_law_680 ?_
        rw [show nI (5 * k) + 1 = nI (5 * k + 1) from linB]
        refine g_iaS dL_law_681 (by first | exact hb0 | exact hb1 | exact hSys.1 | exact mm0 | exact mm1) (show 5 * k + 1 < L by omega) (by omega) (by rfl) ?_
        refine g_aload_n dL_law_682 (by rfl) (by first | exact isRf_r | exact isRf_n | exact isRf_o | assumption) ?_
        refine g_iload_n dL_law_683 (by rfl) ?_
        refine g_iconst (v := 2) dL_law_684 (by decide) ?_
        refine g_iadd dL_law_685 ?_
        rw [show nI (5 * k) + 2 = nI (5 * k + 2) from linB]
        refine g_iaS dL_law_686 (by first | exact hb0 | exact hb1 | exact hSys.1 | exact mm0 | exact mm1) (show 5 * k + 2 < L by omega) (by omega) (by rfl) ?_
        refine g_cV2x dL_law_687 lL_83 vX10_orderOf (ct_X10_orderOf X hMo hO) (by first | exact hb0 | exact hb1 | exact hSys.1 | exact mm0 | exact mm1) rfl ⟨Nat.le_of_ble_eq_true rfl, Nat.le_of_ble_eq_true rfl⟩ (Nat.le_of_ble_eq_true rfl) ⟨Nat.le_of_ble_eq_true rfl, Nat.le_of_ble_eq_true rfl⟩ ?_
        refine g_icmp_eq (tgt := 1011) dL_law_690 (by decide) (fun c18 => ?_) (fun c18 => absurd rfl c18)
        first
          | exact J1011 _ _ _ _ _ _ _ I2
          | exact J1011 _ _ _ _ _ _ _ I
      · skip
        refine g_tableIn (tgt := 695) (off := 663) dL_law_32 (by decide) (by decide) (by decide) (by decide) ?_
        refine g_aload_n dL_law_695 (by rfl) (by first | exact isRf_r | exact isRf_n | exact isRf_o | assumption) ?_
        refine g_aload_n dL_law_696 (by rfl) (by first | exact isRf_r | exact isRf_n | exact isRf_o | assumption) ?_
        refine g_iload_n dL_law_697 (by rfl) ?_
        refine g_iconst (v := 1) dL_law_698 (by decide) ?_
        refine g_iadd dL_law_699 ?_
        rw [show nI (5 * k) + 1 = nI (5 * k + 1) from linB]
        refine g_iaS dL_law_700 (by first | exact hb0 | exact hb1 | exact hSys.1 | exact mm0 | exact mm1) (show 5 * k + 1 < L by omega) (by omega) (by rfl) ?_
        refine g_aload_n dL_law_701 (by rfl) (by first | exact isRf_r | exact isRf_n | exact isRf_o | assumption) ?_
        refine g_iload_n dL_law_702 (by rfl) ?_
        refine g_iconst (v := 2) dL_law_703 (by decide) ?_
        refine g_iadd dL_law_704 ?_
        rw [show nI (5 * k) + 2 = nI (5 * k + 2) from linB]
        refine g_iaS dL_law_705 (by first | exact hb0 | exact hb1 | exact hSys.1 | exact mm0 | exact mm1) (show 5 * k + 2 < L by omega) (by omega) (by rfl) ?_
        refine g_cV2x dL_law_706 lL_84 vX9_match (ct_X9_match X hO hSys) (by first | exact hb0 | exact hb1 | exact hSys.1 | exact mm0 | exact mm1) rfl ⟨Nat.le_of_ble_eq_true rfl, Nat.le_of_ble_eq_true rfl⟩ (Nat.le_of_ble_eq_true rfl) ⟨Nat.le_of_ble_eq_true rfl, Nat.le_of_ble_eq_true rfl⟩ ?_
        refine g_aload_n dL_law_709 (by rfl) (by first | exact isRf_r | exact isRf_n | exact isRf_o | assumption) ?_
        refine g_aload_n dL_law_710 (by rfl) (by first | exact isRf_r | exact isRf_n | exact isRf_o | assumption) ?_
        refine g_iload_n dL_law_711 (by rfl) ?_
        refine g_iconst (v := 1) dL_law_712 (by decide) ?_
        refine g_iadd dL_law_713 ?_
        rw [show nI (5 * k) + 1 = nI (5 * k + 1) from linB]
        refine g_iaS dL_law_714 (by first | exact hb0 | exact hb1 | exact hSys.1 | exact mm0 | exact mm1) (show 5 * k + 1 < L by omega) (by omega) (by rfl) ?_
        refine g_aload_n dL_law_715 (by rfl) (by first | exact isRf_r | exact isRf_n | exact isRf_o | assumption) ?_
        refine g_iload_n dL_law_716 (by rfl) ?_
        refine g_iconst (v := 2) dL_law_717 (by decide) ?_
        refine g_iadd dL_law_718 ?_
        rw [show nI (5 * k) + 2 = nI (5 * k + 2) from linB]
        refine g_iaS dL_law_719 (by first | exact hb0 | exact hb1 | exact hSys.1 | exact mm0 | exact mm1) (show 5 * k + 2 < L by omega) (by omega) (by rfl) ?_
        refine g_cV2x dL_law_720 lL_87 vX10_match (ct_X10_match X hMo hO) (by first | exact hb0 | exact hb1 | exact hSys.1 | exact mm0 | exact mm1) rfl ⟨Nat.le_of_ble_eq_true rfl, Nat.le_of_ble_eq_true rfl⟩ (Nat.le_of_ble_eq_true rfl) ⟨Nat.le_of_ble_eq_true rfl, Nat.le_of_ble_eq_true rfl⟩ ?_
        refine g_icmp_eq (tgt := 1011) dL_law_723 (by decide) (fun c19 => ?_) (fun c19 => absurd rfl c19)
        first
          | exact J1011 _ _ _ _ _ _ _ I2
          | exact J1011 _ _ _ _ _ _ _ I
      · skip
        refine g_tableIn (tgt := 728) (off := 696) dL_law_32 (by decide) (by decide) (by decide) (by decide) ?_
        refine g_aload_n dL_law_728 (by rfl) (by first | exact isRf_r | exact isRf_n | exact isRf_o | assumption) ?_
        refine g_aload_n dL_law_729 (by rfl) (by first | exact isRf_r | exact isRf_n | exact isRf_o | assumption) ?_
        refine g_iload_n dL_law_730 (by rfl) ?_
        refine g_iconst (v := 1) dL_law_731 (by decide) ?_
        refine g_iadd dL_law_732 ?_
        rw [show nI (5 * k) + 1 = nI (5 * k + 1) from linB]
        refine g_iaS dL_law_733 (by first | exact hb0 | exact hb1 | exact hSys.1 | exact mm0 | exact mm1) (show 5 * k + 1 < L by omega) (by omega) (by rfl) ?_
        refine g_cV1x dL_law_734 lL_88 vX9_alike (ct_X9_alike X hO hSys) (by first | exact hb0 | exact hb1 | exact hSys.1 | exact mm0 | exact mm1) rfl ⟨Nat.le_of_ble_eq_true rfl, Nat.le_of_ble_eq_true rfl⟩ (Nat.le_of_ble_eq_true rfl) ⟨Nat.le_of_ble_eq_true rfl, Nat.le_of_ble_eq_true rfl⟩ ?_
        refine g_aload_n dL_law_737 (by rfl) (by first | exact isRf_r | exact isRf_n | exact isRf_o | assumption) ?_
        refine g_aload_n dL_law_738 (by rfl) (by first | exact isRf_r | exact isRf_n | exact isRf_o | assumption) ?_
        refine g_iload_n dL_law_739 (by rfl) ?_
        refine g_iconst (v := 1) dL_law_740 (by decide) ?_
        refine g_iadd dL_law_741 ?_
        rw [show nI (5 * k) + 1 = nI (5 * k + 1) from linB]
        refine g_iaS dL_law_742 (by first | exact hb0 | exact hb1 | exact hSys.1 | exact mm0 | exact mm1) (show 5 * k + 1 < L by omega) (by omega) (by rfl) ?_
        refine g_cV1x dL_law_743 lL_91 vX10_alike (ct_X10_alike X hMo hO) (by first | exact hb0 | exact hb1 | exact hSys.1 | exact mm0 | exact mm1) rfl ⟨Nat.le_of_ble_eq_true rfl, Nat.le_of_ble_eq_true rfl⟩ (Nat.le_of_ble_eq_true rfl) ⟨Nat.le_of_ble_eq_true rfl, Nat.le_of_ble_eq_true rfl⟩ ?_
        refine g_icmp_eq (tgt := 1011) dL_law_746 (by decide) (fun c20 => ?_) (fun c20 => absurd rfl c20)
        first
          | exact J1011 _ _ _ _ _ _ _ I2
          | exact J1011 _ _ _ _ _ _ _ I
      · skip
        refine g_tableIn (tgt := 751) (off := 719) dL_law_32 (by decide) (by decide) (by decide) (by decide) ?_
        refine g_aload_n dL_law_751 (by rfl) (by first | exact isRf_r | exact isRf_n | exact isRf_o | assumption) ?_
        refine g_aload_n dL_law_752 (by rfl) (by first | exact isRf_r | exact isRf_n | exact isRf_o | assumption) ?_
        refine g_iload_n dL_law_753 (by rfl) ?_
        refine g_iconst (v := 1) dL_law_754 (by decide) ?_
        refine g_iadd dL_law_755 ?_
        rw [show nI (5 * k) + 1 = nI (5 * k + 1) from linB]
        refine g_iaS dL_law_756 (by first | exact hb0 | exact hb1 | exact hSys.1 | exact mm0 | exact mm1) (show 5 * k + 1 < L by omega) (by omega) (by rfl) ?_
        refine g_aload_n dL_law_757 (by rfl) (by first | exact isRf_r | exact isRf_n | exact isRf_o | assumption) ?_
        refine g_iload_n dL_law_758 (by rfl) ?_
        refine g_iconst (v := 2) dL_law_759 (by decide) ?_
        refine g_iadd dL_law_760 ?_
        rw [show nI (5 * k) + 2 = nI (5 * k + 2) from linB]
        refine g_iaS dL_law_761 (by first | exact hb0 | exact hb1 | exact hSys.1 | exact mm0 | exact mm1) (show 5 * k + 2 < L by omega) (by omega) (by rfl) ?_
        refine g_aload_n dL_law_762 (by rfl) (by first | exact isRf_r | exact isRf_n | exact isRf_o | assumption) ?_
        refine g_iload_n dL_law_763 (by rfl) ?_
        refine g_iconst (v := 3) dL_law_764 (by decide) ?_
        refine g_iadd dL_law_765 ?_
        rw [show nI (5 * k) + 3 = nI (5 * k + 3) from linB]
        refine g_iaS dL_law_766 (by first | exact hb0 | exact hb1 | exact hSys.1 | exact mm0 | exact mm1) (show 5 * k + 3 < L by omega) (by omega) (by rfl) ?_
        refine g_cV3 dL_law_767 lL_92 vX9_plan (ct_X9_plan X hSep hn hO hSys) (by first | exact hb0 | exact hb1 | exact hSys.1 | exact mm0 | exact mm1) rfl ⟨Nat.le_of_ble_eq_true rfl, Nat.le_of_ble_eq_true rfl⟩ (Nat.le_of_ble_eq_true rfl) ⟨Nat.le_of_ble_eq_true rfl, Nat.le_of_ble_eq_true rfl⟩ ?_
        rintro _ h1 ⟨rfl, hT⟩
        refine g_stk (st' := [.int _]) rfl ?_
        obtain ⟨hD1, hb1⟩ := I.md hT
        obtain ⟨s1, hS1⟩ := id hD1
        obtain ⟨p1, l1, f1, mm1⟩ := md_m hS1
        refine g_aload_n dL_law_770 (by rfl) (by first | exact isRf_r | exact isRf_n | exact isRf_o | assumption) ?_
        refine g_aload_n dL_law_771 (by rfl) (by first | exact isRf_r | exact isRf_n | exact isRf_o | assumption) ?_
        refine g_iload_n dL_law_772 (by rfl) ?_
        refine g_iconst (v := 1) dL_law_773 (by decide) ?_
        refine g_iadd dL_law_774 ?_
        rw [show nI (5 * k) + 1 = nI (5 * k + 1) from linB]
        refine g_iaS dL_law_775 (by first | exact hb0 | exact hb1 | exact hSys.1 | exact mm0 | exact mm1) (show 5 * k + 1 < L by omega) (by omega) (by rfl) ?_
        refine g_aload_n dL_law_776 (by rfl) (by first | exact isRf_r | exact isRf_n | exact isRf_o | assumption) ?_
        refine g_iload_n dL_law_777 (by rfl) ?_
        refine g_iconst (v := 2) dL_law_778 (by decide) ?_
        refine g_iadd dL_law_779 ?_
        rw [show nI (5 * k) + 2 = nI (5 * k + 2) from linB]
        refine g_iaS dL_law_780 (by first | exact hb0 | exact hb1 | exact hSys.1 | exact mm0 | exact mm1) (show 5 * k + 2 < L by omega) (by omega) (by rfl) ?_
        refine g_aload_n dL_law_781 (by rfl) (by first | exact isRf_r | exact isRf_n | exact isRf_o | assumption) ?_
        refine g_iload_n dL_law_782 (by rfl) ?_
        refine g_iconst (v := 3) dL_law_783 (by decide) ?_
        refine g_iadd dL_law_784 ?_
        rw [show nI (5 * k) + 3 = nI (5 * k + 3) from linB]
        refine g_iaS dL_law_785 (by first | exact hb0 | exact hb1 | exact hSys.1 | exact mm0 | exact mm1) (show 5 * k + 3 < L by omega) (by omega) (by rfl) ?_
        refine g_cV3 dL_law_786 lL_96 vX10_plan (ct_X10_plan X hO hD1) (by first | exact hb0 | exact hb1 | exact hSys.1 | exact mm0 | exact mm1) rfl ⟨Nat.le_of_ble_eq_true rfl, Nat.le_of_ble_eq_true rfl⟩ (Nat.le_of_ble_eq_true rfl) ⟨Nat.le_of_ble_eq_true rfl, Nat.le_of_ble_eq_true rfl⟩ ?_
        rintro _ h2 ⟨rfl, hD⟩
        refine g_stk (st' := [.int _, .int _]) rfl ?_
        obtain ⟨C2, I2⟩ := I.deed hT hD hn hO hO2 hTk hRs
        refine g_icmp_eq (tgt := 1011) dL_law_789 (by decide) (fun c21 => ?_) (fun c21 => absurd rfl c21)
        first
          | exact J1011 _ _ _ _ _ _ _ I2
          | exact J1011 _ _ _ _ _ _ _ I
      · skip
        refine g_tableIn (tgt := 794) (off := 762) dL_law_32 (by decide) (by decide) (by decide) (by decide) ?_
        refine g_aload_n dL_law_794 (by rfl) (by first | exact isRf_r | exact isRf_n | exact isRf_o | assumption) ?_
        refine g_aload_n dL_law_795 (by rfl) (by first | exact isRf_r | exact isRf_n | exact isRf_o | assumption) ?_
        refine g_iload_n dL_law_796 (by rfl) ?_
        refine g_iconst (v := 1) dL_law_797 (by decide) ?_
        refine g_iadd dL_law_798 ?_
        rw [show nI (5 * k) + 1 = nI (5 * k + 1) from linB]
        refine g_iaS dL_law_799 (by first | exact hb0 | exact hb1 | exact hSys.1 | exact mm0 | exact mm1) (show 5 * k + 1 < L by omega) (by omega) (by rfl) ?_
        refine g_aload_n dL_law_800 (by rfl) (by first | exact isRf_r | exact isRf_n | exact isRf_o | assumption) ?_
        refine g_iload_n dL_law_801 (by rfl) ?_
        refine g_iconst (v := 2) dL_law_802 (by decide) ?_
        refine g_iadd dL_law_803 ?_
        rw [show nI (5 * k) + 2 = nI (5 * k + 2) from linB]
        refine g_iaS dL_law_804 (by first | exact hb0 | exact hb1 | exact hSys.1 | exact mm0 | exact mm1) (show 5 * k + 2 < L by omega) (by omega) (by rfl) ?_
        refine g_aload_n dL_law_805 (by rfl) (by first | exact isRf_r | exact isRf_n | exact isRf_o | assumption) ?_
        refine g_iload_n dL_law_806 (by rfl) ?_
        refine g_iconst (v := 3) dL_law_807 (by decide) ?_
        refine g_iadd dL_law_808 ?_
        rw [show nI (5 * k) + 3 = nI (5 * k + 3) from linB]
        refine g_iaS dL_law_809 (by first | exact hb0 | exact hb1 | exact hSys.1 | exact mm0 | exact mm1) (show 5 * k + 3 < L by omega) (by omega) (by rfl) ?_
        refine g_cV3x dL_law_810 lL_97 vX9_takes (ct_X9_takes X hO hSys) (by first | exact hb0 | exact hb1 | exact hSys.1 | exact mm0 | exact mm1) rfl ⟨Nat.le_of_ble_eq_true rfl, Nat.le_of_ble_eq_true rfl⟩ (Nat.le_of_ble_eq_true rfl) ⟨Nat.le_of_ble_eq_true rfl, Nat.le_of_ble_eq_true rfl⟩ ?_
        refine g_aload_n dL_law_813 (by rfl) (by first | exact isRf_r | exact isRf_n | exact isRf_o | assumption) ?_
        refine g_aload_n dL_law_814 (by rfl) (by first | exact isRf_r | exact isRf_n | exact isRf_o | assumption) ?_
        refine g_iload_n dL_law_815 (by rfl) ?_
        refine g_iconst (v := 1) dL_law_816 (by decide) ?_
        refine g_iadd dL_law_817 ?_
        rw [show nI (5 * k) + 1 = nI (5 * k + 1) from linB]
        refine g_iaS dL_law_818 (by first | exact hb0 | exact hb1 | exact hSys.1 | exact mm0 | exact mm1) (show 5 * k + 1 < L by omega) (by omega) (by rfl) ?_
        refine g_aload_n dL_law_819 (by rfl) (by first | exact isRf_r | exact isRf_n | exact isRf_o | assumption) ?_
        refine g_iload_n dL_law_820 (by rfl) ?_
        refine g_iconst (v := 2) dL_law_821 (by decide) ?_
        refine g_iadd dL_law_822 ?_
        rw [show nI (5 * k) + 2 = nI (5 * k + 2) from linB]
        refine g_iaS dL_law_823 (by first | exact hb0 | exact hb1 | exact hSys.1 | exact mm0 | exact mm1) (show 5 * k + 2 < L by omega) (by omega) (by rfl) ?_
        refine g_aload_n dL_law_824 (by rfl) (by first | exact isRf_r | exact isRf_n | exact isRf_o | assumption) ?_
        refine g_iload_n dL_law_825 (by rfl) ?_
        refine g_iconst (v := 3) dL_law_826 (by decide) ?_
        refine g_iadd dL_law_827 ?_
        rw [show nI (5 * k) + 3 = nI (5 * k + 3) from linB]
        refine g_iaS dL_law_828 (by first | exact hb0 | exact hb1 | exact hSys.1 | exact mm0 | exact mm1) (show 5 * k + 3 < L by omega) (by omega) (by rfl) ?_
        refine g_cV3x dL_law_829 lL_100 vX10_takes (ct_X10_takes X hMo hO) (by first | exact hb0 | exact hb1 | exact hSys.1 | exact mm0 | exact mm1) rfl ⟨Nat.le_of_ble_eq_true rfl, Nat.le_of_ble_eq_true rfl⟩ (Nat.le_of_ble_eq_true rfl) ⟨Nat.le_of_ble_eq_true rfl, Nat.le_of_ble_eq_true rfl⟩ ?_
        refine g_icmp_eq (tgt := 1011) dL_law_832 (by decide) (fun c22 => ?_) (fun c22 => absurd rfl c22)
        first
          | exact J1011 _ _ _ _ _ _ _ I2
          | exact J1011 _ _ _ _ _ _ _ I
      · skip
        refine g_tableIn (tgt := 837) (off := 805) dL_law_32 (by decide) (by decide) (by decide) (by decide) ?_
        refine g_aload_n dL_law_837 (by rfl) (by first | exact isRf_r | exact isRf_n | exact isRf_o | assumption) ?_
        refine g_aload_n dL_law_838 (by rfl) (by first | exact isRf_r | exact isRf_n | exact isRf_o | assumption) ?_
        refine g_iload_n dL_law_839 (by rfl) ?_
        refine g_iconst (v := 1) dL_law_840 (by decide) ?_
        refine g_iadd dL_law_841 ?_
        rw [show nI (5 * k) + 1 = nI (5 * k + 1) from linB]
        refine g_iaS dL_law_842 (by first | exact hb0 | exact hb1 | exact hSys.1 | exact mm0 | exact mm1) (show 5 * k + 1 < L by omega) (by omega) (by rfl) ?_
        refine g_aload_n dL_law_843 (by rfl) (by first | exact isRf_r | exact isRf_n | exact isRf_o | assumption) ?_
        refine g_iload_n dL_law_844 (by rfl) ?_
        refine g_iconst (v := 2) dL_law_845 (by decide) ?_
        refine g_iadd dL_law_846 ?_
        rw [show nI (5 * k) + 2 = nI (5 * k + 2) from linB]
        refine g_iaS dL_law_847 (by first | exact hb0 | exact hb1 | exact hSys.1 | exact mm0 | exact mm1) (show 5 * k + 2 < L by omega) (by omega) (by rfl) ?_
        refine g_cV2x dL_law_848 lL_101 vX9_account (ct_X9_account X hO hSys) (by first | exact hb0 | exact hb1 | exact hSys.1 | exact mm0 | exact mm1) rfl ⟨Nat.le_of_ble_eq_true rfl, Nat.le_of_ble_eq_true rfl⟩ (Nat.le_of_ble_eq_true rfl) ⟨Nat.le_of_ble_eq_true rfl, Nat.le_of_ble_eq_true rfl⟩ ?_
        refine g_aload_n dL_law_851 (by rfl) (by first | exact isRf_r | exact isRf_n | exact isRf_o | assumption) ?_
        refine g_aload_n dL_law_852 (by rfl) (by first | exact isRf_r | exact isRf_n | exact isRf_o | assumption) ?_
        refine g_iload_n dL_law_853 (by rfl) ?_
        refine g_iconst (v := 1) dL_law_854 (by decide) ?_
        refine g_iadd dL_law_855 ?_
        rw [show nI (5 * k) + 1 = nI (5 * k + 1) from linB]
        refine g_iaS dL_law_856 (by first | exact hb0 | exact hb1 | exact hSys.1 | exact mm0 | exact mm1) (show 5 * k + 1 < L by omega) (by omega) (by rfl) ?_
        refine g_aload_n dL_law_857 (by rfl) (by first | exact isRf_r | exact isRf_n | exact isRf_o | assumption) ?_
        refine g_iload_n dL_law_858 (by rfl) ?_
        refine g_iconst (v := 2) dL_law_859 (by decide) ?_
        refine g_iadd dL_law_860 ?_
        rw [show nI (5 * k) + 2 = nI (5 * k + 2) from linB]
        refine g_iaS dL_law_861 (by first | exact hb0 | exact hb1 | exact hSys.1 | exact mm0 | exact mm1) (show 5 * k + 2 < L by omega) (by omega) (by rfl) ?_
        refine g_cV2x dL_law_862 lL_104 vX10_account (ct_X10_account X hMo hO) (by first | exact hb0 | exact hb1 | exact hSys.1 | exact mm0 | exact mm1) rfl ⟨Nat.le_of_ble_eq_true rfl, Nat.le_of_ble_eq_true rfl⟩ (Nat.le_of_ble_eq_true rfl) ⟨Nat.le_of_ble_eq_true rfl, Nat.le_of_ble_eq_true rfl⟩ ?_
        refine g_icmp_eq (tgt := 1011) dL_law_865 (by decide) (fun c23 => ?_) (fun c23 => absurd rfl c23)
        first
          | exact J1011 _ _ _ _ _ _ _ I2
          | exact J1011 _ _ _ _ _ _ _ I
      · skip
        refine g_tableIn (tgt := 870) (off := 838) dL_law_32 (by decide) (by decide) (by decide) (by decide) ?_
        refine g_aload_n dL_law_870 (by rfl) (by first | exact isRf_r | exact isRf_n | exact isRf_o | assumption) ?_
        refine g_aload_n dL_law_871 (by rfl) (by first | exact isRf_r | exact isRf_n | exact isRf_o | assumption) ?_
        refine g_iload_n dL_law_872 (by rfl) ?_
        refine g_iconst (v := 1) dL_law_873 (by decide) ?_
        refine g_iadd dL_law_874 ?_
        rw [show nI (5 * k) + 1 = nI (5 * k + 1) from linB]
        refine g_iaS dL_law_875 (by first | exact hb0 | exact hb1 | exact hSys.1 | exact mm0 | exact mm1) (show 5 * k + 1 < L by omega) (by omega) (by rfl) ?_
        refine g_cV1x dL_law_876 lL_105 vX9_count (ct_X9_count X hO hSys) (by first | exact hb0 | exact hb1 | exact hSys.1 | exact mm0 | exact mm1) rfl ⟨Nat.le_of_ble_eq_true rfl, Nat.le_of_ble_eq_true rfl⟩ (Nat.le_of_ble_eq_true rfl) ⟨Nat.le_of_ble_eq_true rfl, Nat.le_of_ble_eq_true rfl⟩ ?_
        refine g_aload_n dL_law_879 (by rfl) (by first | exact isRf_r | exact isRf_n | exact isRf_o | assumption) ?_
        refine g_aload_n dL_law_880 (by rfl) (by first | exact isRf_r | exact isRf_n | exact isRf_o | assumption) ?_
        refine g_iload_n dL_law_881 (by rfl) ?_
        refine g_iconst (v := 1) dL_law_882 (by decide) ?_
        refine g_iadd dL_law_883 ?_
        rw [show nI (5 * k) + 1 = nI (5 * k + 1) from linB]
        refine g_iaS dL_law_884 (by first | exact hb0 | exact hb1 | exact hSys.1 | exact mm0 | exact mm1) (show 5 * k + 1 < L by omega) (by omega) (by rfl) ?_
        refine g_cV1x dL_law_885 lL_108 vX10_count (ct_X10_count X hO hMd) (by first | exact hb0 | exact hb1 | exact hSys.1 | exact mm0 | exact mm1) rfl ⟨Nat.le_of_ble_eq_true rfl, Nat.le_of_ble_eq_true rfl⟩ (Nat.le_of_ble_eq_true rfl) ⟨Nat.le_of_ble_eq_true rfl, Nat.le_of_ble_eq_true rfl⟩ ?_
        refine g_icmp_eq (tgt := 1011) dL_law_888 (by decide) (fun c24 => ?_) (fun c24 => absurd rfl c24)
        first
          | exact J1011 _ _ _ _ _ _ _ I2
          | exact J1011 _ _ _ _ _ _ _ I
      · skip
        refine g_tableIn (tgt := 893) (off := 861) dL_law_32 (by decide) (by decide) (by decide) (by decide) ?_
        refine g_aload_n dL_law_893 (by rfl) (by first | exact isRf_r | exact isRf_n | exact isRf_o | assumption) ?_
        refine g_aload_n dL_law_894 (by rfl) (by first | exact isRf_r | exact isRf_n | exact isRf_o | assumption) ?_
        refine g_iload_n dL_law_895 (by rfl) ?_
        refine g_iconst (v := 1) dL_law_896 (by decide) ?_
        refine g_iadd dL_law_897 ?_
        rw [show nI (5 * k) + 1 = nI (5 * k + 1) from linB]
        refine g_iaS dL_law_898 (by first | exact hb0 | exact hb1 | exact hSys.1 | exact mm0 | exact mm1) (show 5 * k + 1 < L by omega) (by omega) (by rfl) ?_
        refine g_aload_n dL_law_899 (by rfl) (by first | exact isRf_r | exact isRf_n | exact isRf_o | assumption) ?_
        refine g_iload_n dL_law_900 (by rfl) ?_
        refine g_iconst (v := 2) dL_law_901 (by decide) ?_
        refine g_iadd dL_law_902 ?_
        rw [show nI (5 * k) + 2 = nI (5 * k + 2) from linB]
        refine g_iaS dL_law_903 (by first | exact hb0 | exact hb1 | exact hSys.1 | exact mm0 | exact mm1) (show 5 * k + 2 < L by omega) (by omega) (by rfl) ?_
        refine g_cV2 dL_law_904 lL_109 vX9_set (ct_X9_set X hSep hn hO hSys) (by first | exact hb0 | exact hb1 | exact hSys.1 | exact mm0 | exact mm1) rfl ⟨Nat.le_of_ble_eq_true rfl, Nat.le_of_ble_eq_true rfl⟩ (Nat.le_of_ble_eq_true rfl) ⟨Nat.le_of_ble_eq_true rfl, Nat.le_of_ble_eq_true rfl⟩ ?_
        rintro _ h1 ⟨rfl, hT⟩
        refine g_stk (st' := [.int _]) rfl ?_
        obtain ⟨hD1, hb1⟩ := I.md hT
        obtain ⟨s1, hS1⟩ := id hD1
        obtain ⟨p1, l1, f1, mm1⟩ := md_m hS1
        refine g_aload_n dL_law_907 (by rfl) (by first | exact isRf_r | exact isRf_n | exact isRf_o | assumption) ?_
        refine g_aload_n dL_law_908 (by rfl) (by first | exact isRf_r | exact isRf_n | exact isRf_o | assumption) ?_
        refine g_iload_n dL_law_909 (by rfl) ?_
        refine g_iconst (v := 1) dL_law_910 (by decide) ?_
        refine g_iadd dL_law_911 ?_
        rw [show nI (5 * k) + 1 = nI (5 * k + 1) from linB]
        refine g_iaS dL_law_912 (by first | exact hb0 | exact hb1 | exact hSys.1 | exact mm0 | exact mm1) (show 5 * k + 1 < L by omega) (by omega) (by rfl) ?_
        refine g_aload_n dL_law_913 (by rfl) (by first | exact isRf_r | exact isRf_n | exact isRf_o | assumption) ?_
        refine g_iload_n dL_law_914 (by rfl) ?_
        refine g_iconst (v := 2) dL_law_915 (by decide) ?_
        refine g_iadd dL_law_916 ?_
        rw [show nI (5 * k) + 2 = nI (5 * k + 2) from linB]
        refine g_iaS dL_law_917 (by first | exact hb0 | exact hb1 | exact hSys.1 | exact mm0 | exact mm1) (show 5 * k + 2 < L by omega) (by omega) (by rfl) ?_
        refine g_cV2 dL_law_918 lL_112 vX10_set (ct_X10_set X hn hO hD1) (by first | exact hb0 | exact hb1 | exact hSys.1 | exact mm0 | exact mm1) rfl ⟨Nat.le_of_ble_eq_true rfl, Nat.le_of_ble_eq_true rfl⟩ (Nat.le_of_ble_eq_true rfl) ⟨Nat.le_of_ble_eq_true rfl, Nat.le_of_ble_eq_true rfl⟩ ?_
        rintro _ h2 ⟨rfl, hD⟩
        refine g_stk (st' := [.int _, .int _]) rfl ?_
        obtain ⟨C2, I2⟩ := I.step (F := F_set r _ _) hT hD (Ok_set hO) (Ok2_set hO hO2)
        refine g_icmp_eq (tgt := 1011) dL_law_921 (by decide) (fun c25 => ?_) (fun c25 => absurd rfl c25)
        first
          | exact J1011 _ _ _ _ _ _ _ I2
          | exact J1011 _ _ _ _ _ _ _ I
      · skip
        refine g_tableIn (tgt := 926) (off := 894) dL_law_32 (by decide) (by decide) (by decide) (by decide) ?_
        refine g_aload_n dL_law_926 (by rfl) (by first | exact isRf_r | exact isRf_n | exact isRf_o | assumption) ?_
        refine g_cV0 dL_law_927 lL_113 vX9_undo (ct_undoA hSep hn hRs hSys) (by first | exact hb0 | exact hb1 | exact hSys.1 | exact mm0 | exact mm1) rfl ⟨Nat.le_of_ble_eq_true rfl, Nat.le_of_ble_eq_true rfl⟩ (Nat.le_of_ble_eq_true rfl) ⟨Nat.le_of_ble_eq_true rfl, Nat.le_of_ble_eq_true rfl⟩ ?_
        rintro _ h1 ⟨rfl, hT⟩
        refine g_stk (st' := [.int _]) rfl ?_
        obtain ⟨hD1, hb1⟩ := I.md hT
        obtain ⟨s1, hS1⟩ := id hD1
        obtain ⟨p1, l1, f1, mm1⟩ := md_m hS1
        refine g_aload_n dL_law_930 (by rfl) (by first | exact isRf_r | exact isRf_n | exact isRf_o | assumption) ?_
        refine g_cV0 dL_law_931 lL_117 vX10_undo (ct_mUndoA hn hD1) (by first | exact hb0 | exact hb1 | exact hSys.1 | exact mm0 | exact mm1) rfl ⟨Nat.le_of_ble_eq_true rfl, Nat.le_of_ble_eq_true rfl⟩ (Nat.le_of_ble_eq_true rfl) ⟨Nat.le_of_ble_eq_true rfl, Nat.le_of_ble_eq_true rfl⟩ ?_
        rintro _ h2 ⟨rfl, hD⟩
        refine g_stk (st' := [.int _, .int _]) rfl ?_
        obtain ⟨C2, I2⟩ := I.deed hT hD (by omega) (un_ok hO hO2 hRs).1 (un_ok hO hO2 hRs).2 hTk (fun k hk => hRs k (by omega))
        refine g_icmp_eq (tgt := 1011) dL_law_934 (by decide) (fun c26 => ?_) (fun c26 => absurd rfl c26)
        first
          | exact J1011 _ _ _ _ _ _ _ I2
          | exact J1011 _ _ _ _ _ _ _ I
      · skip
        refine g_tableIn (tgt := 939) (off := 907) dL_law_32 (by decide) (by decide) (by decide) (by decide) ?_
        refine g_aload_n dL_law_939 (by rfl) (by first | exact isRf_r | exact isRf_n | exact isRf_o | assumption) ?_
        refine g_aload_n dL_law_940 (by rfl) (by first | exact isRf_r | exact isRf_n | exact isRf_o | assumption) ?_
        refine g_iload_n dL_law_941 (by rfl) ?_
        refine g_iconst (v := 1) dL_law_942 (by decide) ?_
        refine g_iadd dL_law_943 ?_
        rw [show nI (5 * k) + 1 = nI (5 * k + 1) from linB]
        refine g_iaS dL_law_944 (by first | exact hb0 | exact hb1 | exact hSys.1 | exact mm0 | exact mm1) (show 5 * k + 1 < L by omega) (by omega) (by rfl) ?_
        refine g_cV1 dL_law_945 lL_118 vX9_type (ct_X9_type X hSep hTk hSys) (by first | exact hb0 | exact hb1 | exact hSys.1 | exact mm0 | exact mm1) rfl ⟨Nat.le_of_ble_eq_true rfl, Nat.le_of_ble_eq_true rfl⟩ (Nat.le_of_ble_eq_true rfl) ⟨Nat.le_of_ble_eq_true rfl, Nat.le_of_ble_eq_true rfl⟩ ?_
        rintro _ h1 ⟨rfl, hT⟩
        refine g_stk (st' := [.int _]) rfl ?_
        obtain ⟨hD1, hb1⟩ := I.md hT
        obtain ⟨s1, hS1⟩ := id hD1
        obtain ⟨p1, l1, f1, mm1⟩ := md_m hS1
        refine g_aload_n dL_law_948 (by rfl) (by first | exact isRf_r | exact isRf_n | exact isRf_o | assumption) ?_
        refine g_aload_n dL_law_949 (by rfl) (by first | exact isRf_r | exact isRf_n | exact isRf_o | assumption) ?_
        refine g_iload_n dL_law_950 (by rfl) ?_
        refine g_iconst (v := 1) dL_law_951 (by decide) ?_
        refine g_iadd dL_law_952 ?_
        rw [show nI (5 * k) + 1 = nI (5 * k + 1) from linB]
        refine g_iaS dL_law_953 (by first | exact hb0 | exact hb1 | exact hSys.1 | exact mm0 | exact mm1) (show 5 * k + 1 < L by omega) (by omega) (by rfl) ?_
        refine g_cV1 dL_law_954 lL_121 vX10_type (ct_X10_type X hTk hD1) (by first | exact hb0 | exact hb1 | exact hSys.1 | exact mm0 | exact mm1) rfl ⟨Nat.le_of_ble_eq_true rfl, Nat.le_of_ble_eq_true rfl⟩ (Nat.le_of_ble_eq_true rfl) ⟨Nat.le_of_ble_eq_true rfl, Nat.le_of_ble_eq_true rfl⟩ ?_
        rintro _ h2 ⟨rfl, hD⟩
        refine g_stk (st' := [.int _, .int _]) rfl ?_
        obtain ⟨C2, I2⟩ := I.deed hT hD hn hO hO2 (TOk_type hTk) hRs
        refine g_icmp_eq (tgt := 1011) dL_law_957 (by decide) (fun c27 => ?_) (fun c27 => absurd rfl c27)
        first
          | exact J1011 _ _ _ _ _ _ _ I2
          | exact J1011 _ _ _ _ _ _ _ I
      · skip
        refine g_tableIn (tgt := 962) (off := 930) dL_law_32 (by decide) (by decide) (by decide) (by decide) ?_
        refine g_aload_n dL_law_962 (by rfl) (by first | exact isRf_r | exact isRf_n | exact isRf_o | assumption) ?_
        refine g_cV0 dL_law_963 lL_122 vX9_clearText (ct_X9_clearText X hSep hTk hSys) (by first | exact hb0 | exact hb1 | exact hSys.1 | exact mm0 | exact mm1) rfl ⟨Nat.le_of_ble_eq_true rfl, Nat.le_of_ble_eq_true rfl⟩ (Nat.le_of_ble_eq_true rfl) ⟨Nat.le_of_ble_eq_true rfl, Nat.le_of_ble_eq_true rfl⟩ ?_
        rintro _ h1 ⟨rfl, hT⟩
        refine g_stk (st' := [.int _]) rfl ?_
        obtain ⟨hD1, hb1⟩ := I.md hT
        obtain ⟨s1, hS1⟩ := id hD1
        obtain ⟨p1, l1, f1, mm1⟩ := md_m hS1
        refine g_aload_n dL_law_966 (by rfl) (by first | exact isRf_r | exact isRf_n | exact isRf_o | assumption) ?_
        refine g_cV0 dL_law_967 lL_125 vX10_clearText (ct_X10_clearText X hD1) (by first | exact hb0 | exact hb1 | exact hSys.1 | exact mm0 | exact mm1) rfl ⟨Nat.le_of_ble_eq_true rfl, Nat.le_of_ble_eq_true rfl⟩ (Nat.le_of_ble_eq_true rfl) ⟨Nat.le_of_ble_eq_true rfl, Nat.le_of_ble_eq_true rfl⟩ ?_
        rintro _ h2 ⟨rfl, hD⟩
        refine g_stk (st' := [.int _, .int _]) rfl ?_
        obtain ⟨C2, I2⟩ := I.deed hT hD hn hO hO2 TOk_0 hRs
        refine g_icmp_eq (tgt := 1011) dL_law_970 (by decide) (fun c28 => ?_) (fun c28 => absurd rfl c28)
        first
          | exact J1011 _ _ _ _ _ _ _ I2
          | exact J1011 _ _ _ _ _ _ _ I
      · skip
        refine g_tableIn (tgt := 975) (off := 943) dL_law_32 (by decide) (by decide) (by decide) (by decide) ?_
        refine g_aload_n dL_law_975 (by rfl) (by first | exact isRf_r | exact isRf_n | exact isRf_o | assumption) ?_
        refine g_aload_n dL_law_976 (by rfl) (by first | exact isRf_r | exact isRf_n | exact isRf_o | assumption) ?_
        refine g_iload_n dL_law_977 (by rfl) ?_
        refine g_iconst (v := 1) dL_law_978 (by decide) ?_
        refine g_iadd dL_law_979 ?_
        rw [show nI (5 * k) + 1 = nI (5 * k + 1) from linB]
        refine g_iaS dL_law_980 (by first | exact hb0 | exact hb1 | exact hSys.1 | exact mm0 | exact mm1) (show 5 * k + 1 < L by omega) (by omega) (by rfl) ?_
        refine g_cV1 dL_law_981 lL_126 vX9_fault (ct_X9_fault X hSep hn hO hSys hTk) (by first | exact hb0 | exact hb1 | exact hSys.1 | exact mm0 | exact mm1) rfl ⟨Nat.le_of_ble_eq_true rfl, Nat.le_of_ble_eq_true rfl⟩ (Nat.le_of_ble_eq_true rfl) ⟨Nat.le_of_ble_eq_true rfl, Nat.le_of_ble_eq_true rfl⟩ ?_
        rintro _ h1 ⟨rfl, hT⟩
        refine g_stk (st' := [.int _]) rfl ?_
        obtain ⟨hD1, hb1⟩ := I.md hT
        obtain ⟨s1, hS1⟩ := id hD1
        obtain ⟨p1, l1, f1, mm1⟩ := md_m hS1
        refine g_aload_n dL_law_984 (by rfl) (by first | exact isRf_r | exact isRf_n | exact isRf_o | assumption) ?_
        refine g_aload_n dL_law_985 (by rfl) (by first | exact isRf_r | exact isRf_n | exact isRf_o | assumption) ?_
        refine g_iload_n dL_law_986 (by rfl) ?_
        refine g_iconst (v := 1) dL_law_987 (by decide) ?_
        refine g_iadd dL_law_988 ?_
        rw [show nI (5 * k) + 1 = nI (5 * k + 1) from linB]
        refine g_iaS dL_law_989 (by first | exact hb0 | exact hb1 | exact hSys.1 | exact mm0 | exact mm1) (show 5 * k + 1 < L by omega) (by omega) (by rfl) ?_
        refine g_cV1 dL_law_990 lL_129 vX10_fault (ct_X10_fault X hTk hn hO hO2 hD1) (by first | exact hb0 | exact hb1 | exact hSys.1 | exact mm0 | exact mm1) rfl ⟨Nat.le_of_ble_eq_true rfl, Nat.le_of_ble_eq_true rfl⟩ (Nat.le_of_ble_eq_true rfl) ⟨Nat.le_of_ble_eq_true rfl, Nat.le_of_ble_eq_true rfl⟩ ?_
        rintro _ h2 ⟨rfl, hD⟩
        refine g_stk (st' := [.int _, .int _]) rfl ?_
        obtain ⟨C2, I2⟩ := I.deed hT hD hn hO hO2 hTk hRs
        refine g_icmp_eq (tgt := 1011) dL_law_993 (by decide) (fun c29 => ?_) (fun c29 => absurd rfl c29)
        first
          | exact J1011 _ _ _ _ _ _ _ I2
          | exact J1011 _ _ _ _ _ _ _ I
      · skip
        refine g_tableIn (tgt := 998) (off := 966) dL_law_32 (by decide) (by decide) (by decide) (by decide) ?_
        refine g_aload_n dL_law_998 (by rfl) (by first | exact isRf_r | exact isRf_n | exact isRf_o | assumption) ?_
        refine g_cV0 dL_law_999 lL_130 vX9_play (ct_X9_play X hSep hn hO hSys hTk) (by first | exact hb0 | exact hb1 | exact hSys.1 | exact mm0 | exact mm1) rfl ⟨Nat.le_of_ble_eq_true rfl, Nat.le_of_ble_eq_true rfl⟩ (Nat.le_of_ble_eq_true rfl) ⟨Nat.le_of_ble_eq_true rfl, Nat.le_of_ble_eq_true rfl⟩ ?_
        rintro _ h1 ⟨rfl, hT⟩
        refine g_stk (st' := [.int _]) rfl ?_
        obtain ⟨hD1, hb1⟩ := I.md hT
        obtain ⟨s1, hS1⟩ := id hD1
        obtain ⟨p1, l1, f1, mm1⟩ := md_m hS1
        refine g_aload_n dL_law_1002 (by rfl) (by first | exact isRf_r | exact isRf_n | exact isRf_o | assumption) ?_
        refine g_cV0 dL_law_1003 lL_133 vX10_play (ct_X10_play X hTk hn hO hO2 hD1) (by first | exact hb0 | exact hb1 | exact hSys.1 | exact mm0 | exact mm1) rfl ⟨Nat.le_of_ble_eq_true rfl, Nat.le_of_ble_eq_true rfl⟩ (Nat.le_of_ble_eq_true rfl) ⟨Nat.le_of_ble_eq_true rfl, Nat.le_of_ble_eq_true rfl⟩ ?_
        rintro _ h2 ⟨rfl, hD⟩
        refine g_stk (st' := [.int _, .int _]) rfl ?_
        obtain ⟨C2, I2⟩ := I.step (F := F_play tn tg r) hT hD (Ok_play hO hO2).1 (Ok_play hO hO2).2
        refine g_icmp_eq (tgt := 1011) dL_law_1006 (by decide) (fun c30 => ?_) (fun c30 => absurd rfl c30)
        first
          | exact J1011 _ _ _ _ _ _ _ I2
          | exact J1011 _ _ _ _ _ _ _ I
    · skip
      refine g_tableOut (tgt := 1011) dL_law_32 (sw_out (m := 28) (by omega) hsw) (by decide) ?_
      first
        | exact J1011 _ _ _ _ _ _ _ I2
        | exact J1011 _ _ _ _ _ _ _ I
