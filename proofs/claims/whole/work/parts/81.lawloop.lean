/-! the law: its loop -/
set_option maxHeartbeats 16000000 in
theorem z_lawL {g_z : z_U} {zX : z_X} {n_z : Nat} {xs : Nat → Int32} (hB_z : z_B g_z zX R_law code 4) (hR0 : z_XR zX = room_1) (hX : va_X (z_old g_z 0) n_z xs (z_Xs zX) (z_Xs zX).heap) (hbl : z_old g_z 0 < (z_Xs zX).heap.size) (hbs : z_base g_z = (z_Xs zX).heap.size) (hL : n_z ≤ 256) (hend : ∀ ls zS, z_W g_z zX 850 ls [.int 1] 108 1243 zS) : ∀ t_z, t_z ≤ 64 → ∀ zS A_z, z_BO zS A_z → z_W g_z zX 18 [some (.ref 0), some (.ref 4), some (.ref 99), some (.int (nI (4 * t_z)))] [] 108 1243 zS :=
  z_loop (fun t_z => ∀ zS A_z, z_BO zS A_z → z_W g_z zX 18 [some (.ref 0), some (.ref 4), some (.ref 99), some (.int (nI (4 * t_z)))] [] 108 1243 zS) 64 (fun t_z ht ih_z zS A_z hBO => by
    obtain ⟨hC, hN_z, hR, hO⟩ := id hBO
    obtain ⟨hz1, hz2, hz3, hz4⟩ := hC.sz
    refine z_s 19 hB_z dL_law_18 rfl rfl ?_
    refine z_s 20 hB_z dL_law_19 rfl rfl ?_
    refine z_slen 21 hB_z hX hbl hbs dL_law_20 rfl ?_
    refine z_s 22 hB_z dL_law_21 rfl rfl ?_
    refine z_s 23 hB_z dL_law_22 rfl rfl ?_
    refine z_b 26 849 hB_z dL_law_23 rfl rfl (by decide) (fun c_23 => ?_) (fun c_23 => ?_)
    ·
      refine z_s 850 hB_z dL_law_849 rfl rfl ?_
      exact hend _ _
    ·
      have hmore : 4 * t_z + 4 ≤ n_z := z_more hL ht c_23
      refine z_s 27 hB_z dL_law_26 rfl rfl ?_
      refine z_s 28 hB_z dL_law_27 rfl rfl ?_
      refine z_sld 29 hB_z hX hbl hbs dL_law_28 rfl (vp_in_nI (show 4 * t_z < n_z by omega) (by omega)) ?_
      rw [nI_clamp (by omega)]
      refine z_s 31 hB_z dL_law_29 rfl rfl ?_
      refine z_s 32 hB_z dL_law_31 rfl rfl ?_
      obtain ⟨x_z, hx⟩ : ∃ x_z, xs (4 * t_z) &&& 31 = x_z := ⟨_, rfl⟩
      rw [hx]
      by_cases hw : 0 ≤ x_z ∧ x_z ≤ nI 26
      · obtain ⟨k_z, hk, rfl⟩ := z_le28 hw.1 (m_z := 26) (by decide) hw.2
        rcases (show k_z = 0 ∨ k_z = 1 ∨ k_z = 2 ∨ k_z = 3 ∨ k_z = 4 ∨ k_z = 5 ∨ k_z = 6 ∨ k_z = 7 ∨ k_z = 8 ∨ k_z = 9 ∨ k_z = 10 ∨ k_z = 11 ∨ k_z = 12 ∨ k_z = 13 ∨ k_z = 14 ∨ k_z = 15 ∨ k_z = 16 ∨ k_z = 17 ∨ k_z = 18 ∨ k_z = 19 ∨ k_z = 20 ∨ k_z = 21 ∨ k_z = 22 ∨ k_z = 23 ∨ k_z = 24 ∨ k_z = 25 ∨ k_z = 26 by omega) with rfl | rfl | rfl | rfl | rfl | rfl | rfl | rfl | rfl | rfl | rfl | rfl | rfl | rfl | rfl | rfl | rfl | rfl | rfl | rfl | rfl | rfl | rfl | rfl | rfl | rfl | rfl
        · refine z_tsw hB_z dL_law_32 156 (by decide) (by decide) ?_
          refine z_s 157 hB_z dL_law_156 rfl rfl ?_
          refine z_s 158 hB_z dL_law_157 rfl rfl ?_
          refine z_s 159 hB_z dL_law_158 rfl rfl ?_
          refine z_s 160 hB_z dL_law_159 rfl rfl ?_
          refine z_s 161 hB_z dL_law_160 rfl rfl ?_
          rw [show nI (4 * t_z) + 1 = nI (4 * t_z + 1) from z_nij t_z 1]
          refine z_sld 162 hB_z hX hbl hbs dL_law_161 rfl (vp_in_nI (show 4 * t_z + 1 < n_z by omega) (by omega)) ?_
          rw [nI_clamp (by omega)]
          refine z_callVL 165 hB_z hR0 kL_13 dL_law_162 rfl (L4_z (zS := zS) hC.1) rfl (c_X9_write (d_z := 0) hC) (by omega) rfl rfl (Nat.le_of_ble_eq_true rfl) ⟨Nat.le_of_ble_eq_true rfl, Nat.le_of_ble_eq_true rfl⟩ ?_
          rintro _ S1 ⟨rfl, hC1, hk1⟩
          obtain ⟨hN1, hR1⟩ := hBO.c hk1
          refine z_s 166 hB_z dL_law_165 rfl rfl ?_
          refine z_s 167 hB_z dL_law_166 rfl rfl ?_
          refine z_s 168 hB_z dL_law_167 rfl rfl ?_
          refine z_s 169 hB_z dL_law_168 rfl rfl ?_
          refine z_s 170 hB_z dL_law_169 rfl rfl ?_
          rw [show nI (4 * t_z) + 1 = nI (4 * t_z + 1) from z_nij t_z 1]
          refine z_sld 171 hB_z hX hbl hbs dL_law_170 rfl (vp_in_nI (show 4 * t_z + 1 < n_z by omega) (by omega)) ?_
          rw [nI_clamp (by omega)]
          refine z_callVL 174 hB_z hR0 kL_17 dL_law_171 rfl (N99 (zS := S1) hN1) rfl (c_X10_write (zS := S1) (d_z := 0) hN1 hR1 hz1) (by omega) rfl rfl (Nat.le_of_ble_eq_true rfl) ⟨Nat.le_of_ble_eq_true rfl, Nat.le_of_ble_eq_true rfl⟩ ?_
          rintro _ _ ⟨rfl, I2_z, rfl, hR2, hf2⟩
          have hB2 := z_BO.d hC1 hN1 hR2 hf2 hO.write
          refine z_b 177 843 hB_z dL_law_174 rfl rfl (by decide) (fun c_174 => ?_) (fun c_174 => ?_)
          ·
            refine z_s 846 hB_z dL_law_843 rfl rfl ?_
            refine z_j 18 hB_z dL_law_846 (by decide) ?_
            exact z_wkn (ih_z (by omega) _ _ hB2) ⟨rfl, rfl, rfl, congrArg (fun q_z => some (Value.int q_z)) (z_n44 t_z), trivial⟩
          ·
            exact absurd rfl c_174
        · refine z_tsw hB_z dL_law_32 179 (by decide) (by decide) ?_
          refine z_s 180 hB_z dL_law_179 rfl rfl ?_
          refine z_callVL 183 hB_z hR0 kL_18 dL_law_180 rfl (L4_z (zS := zS) hC.1) rfl (c_X9_wipe (d_z := 0) hC) (by omega) rfl rfl (Nat.le_of_ble_eq_true rfl) ⟨Nat.le_of_ble_eq_true rfl, Nat.le_of_ble_eq_true rfl⟩ ?_
          rintro _ S1 ⟨rfl, hC1, hk1⟩
          obtain ⟨hN1, hR1⟩ := hBO.c hk1
          refine z_s 184 hB_z dL_law_183 rfl rfl ?_
          refine z_callVL 187 hB_z hR0 kL_22 dL_law_184 rfl (N99 (zS := S1) hN1) rfl (c_X10_wipe (zS := S1) (d_z := 0) hN1 hR1) (by omega) rfl rfl (Nat.le_of_ble_eq_true rfl) ⟨Nat.le_of_ble_eq_true rfl, Nat.le_of_ble_eq_true rfl⟩ ?_
          rintro _ _ ⟨rfl, I2_z, rfl, hR2, hf2⟩
          have hB2 := z_BO.d hC1 hN1 hR2 hf2 hO.wipe
          refine z_b 190 843 hB_z dL_law_187 rfl rfl (by decide) (fun c_187 => ?_) (fun c_187 => ?_)
          ·
            refine z_s 846 hB_z dL_law_843 rfl rfl ?_
            refine z_j 18 hB_z dL_law_846 (by decide) ?_
            exact z_wkn (ih_z (by omega) _ _ hB2) ⟨rfl, rfl, rfl, congrArg (fun q_z => some (Value.int q_z)) (z_n44 t_z), trivial⟩
          ·
            exact absurd rfl c_187
        · refine z_tsw hB_z dL_law_32 192 (by decide) (by decide) ?_
          refine z_s 193 hB_z dL_law_192 rfl rfl ?_
          refine z_callVL 196 hB_z hR0 kL_23 dL_law_193 rfl (L4_z (zS := zS) hC.1) rfl (c_X9_fault (d_z := 0) hC) (by omega) rfl rfl (Nat.le_of_ble_eq_true rfl) ⟨Nat.le_of_ble_eq_true rfl, Nat.le_of_ble_eq_true rfl⟩ ?_
          rintro _ _ ⟨rfl, I1, rfl, hf1⟩
          have hB1 := hBO.q hf1
          obtain ⟨hC1, hN1, hR1, -⟩ := id hB1
          refine z_s 197 hB_z dL_law_196 rfl rfl ?_
          refine z_callVL 200 hB_z hR0 kL_26 dL_law_197 rfl (N99 (zS := z_up zS I1) hN1) rfl (c_X10_fault (zS := z_up zS I1) (d_z := 0) hN1 hR1 hz1 (J_z := z_J zS)) (by omega) rfl rfl (Nat.le_of_ble_eq_true rfl) ⟨Nat.le_of_ble_eq_true rfl, Nat.le_of_ble_eq_true rfl⟩ ?_
          rintro _ _ ⟨rfl, I2_z, rfl, hf2, -⟩
          have hB2 := hB1.m hf2
          refine z_b 203 843 hB_z dL_law_200 rfl rfl (by decide) (fun c_200 => ?_) (fun c_200 => ?_)
          ·
            refine z_s 846 hB_z dL_law_843 rfl rfl ?_
            refine z_j 18 hB_z dL_law_846 (by decide) ?_
            exact z_wkn (ih_z (by omega) _ _ hB2) ⟨rfl, rfl, rfl, congrArg (fun q_z => some (Value.int q_z)) (z_n44 t_z), trivial⟩
          ·
            exact absurd rfl c_200
        · refine z_tsw hB_z dL_law_32 205 (by decide) (by decide) ?_
          refine z_s 206 hB_z dL_law_205 rfl rfl ?_
          refine z_callVL 209 hB_z hR0 kL_27 dL_law_206 rfl (L4_z (zS := zS) hC.1) rfl (c_X9_lay (d_z := 0) hC) (by omega) rfl rfl (Nat.le_of_ble_eq_true rfl) ⟨Nat.le_of_ble_eq_true rfl, Nat.le_of_ble_eq_true rfl⟩ ?_
          rintro _ S1 ⟨rfl, hC1, hk1⟩
          obtain ⟨hN1, hR1⟩ := hBO.c hk1
          refine z_s 210 hB_z dL_law_209 rfl rfl ?_
          refine z_callVL 213 hB_z hR0 kL_30 dL_law_210 rfl (N99 (zS := S1) hN1) rfl (c_X10_lay (zS := S1) (d_z := 0) hN1 hR1 hz1 (J_z := z_J zS)) (by omega) rfl rfl (Nat.le_of_ble_eq_true rfl) ⟨Nat.le_of_ble_eq_true rfl, Nat.le_of_ble_eq_true rfl⟩ ?_
          rintro _ _ ⟨rfl, I2_z, rfl, hR2, hf2⟩
          have hB2 := z_BO.d hC1 hN1 hR2 hf2 hO.lay
          refine z_b 216 843 hB_z dL_law_213 rfl rfl (by decide) (fun c_213 => ?_) (fun c_213 => ?_)
          ·
            refine z_s 846 hB_z dL_law_843 rfl rfl ?_
            refine z_j 18 hB_z dL_law_846 (by decide) ?_
            exact z_wkn (ih_z (by omega) _ _ hB2) ⟨rfl, rfl, rfl, congrArg (fun q_z => some (Value.int q_z)) (z_n44 t_z), trivial⟩
          ·
            exact absurd rfl c_213
        · refine z_tsw hB_z dL_law_32 218 (by decide) (by decide) ?_
          refine z_s 219 hB_z dL_law_218 rfl rfl ?_
          refine z_s 220 hB_z dL_law_219 rfl rfl ?_
          refine z_s 221 hB_z dL_law_220 rfl rfl ?_
          refine z_s 222 hB_z dL_law_221 rfl rfl ?_
          refine z_s 223 hB_z dL_law_222 rfl rfl ?_
          rw [show nI (4 * t_z) + 1 = nI (4 * t_z + 1) from z_nij t_z 1]
          refine z_sld 224 hB_z hX hbl hbs dL_law_223 rfl (vp_in_nI (show 4 * t_z + 1 < n_z by omega) (by omega)) ?_
          rw [nI_clamp (by omega)]
          refine z_s 225 hB_z dL_law_224 rfl rfl ?_
          refine z_s 226 hB_z dL_law_225 rfl rfl ?_
          refine z_s 227 hB_z dL_law_226 rfl rfl ?_
          refine z_s 228 hB_z dL_law_227 rfl rfl ?_
          rw [show nI (4 * t_z) + 2 = nI (4 * t_z + 2) from z_nij t_z 2]
          refine z_sld 229 hB_z hX hbl hbs dL_law_228 rfl (vp_in_nI (show 4 * t_z + 2 < n_z by omega) (by omega)) ?_
          rw [nI_clamp (by omega)]
          refine z_callVL 232 hB_z hR0 kL_31 dL_law_229 rfl (L4_z (zS := zS) hC.1) rfl (c_X9_staff (d_z := 0) hC) (by omega) rfl rfl (Nat.le_of_ble_eq_true rfl) ⟨Nat.le_of_ble_eq_true rfl, Nat.le_of_ble_eq_true rfl⟩ ?_
          rintro _ _ ⟨rfl, I1, rfl, hf1⟩
          have hB1 := hBO.q hf1
          obtain ⟨hC1, hN1, hR1, -⟩ := id hB1
          refine z_s 233 hB_z dL_law_232 rfl rfl ?_
          refine z_s 234 hB_z dL_law_233 rfl rfl ?_
          refine z_s 235 hB_z dL_law_234 rfl rfl ?_
          refine z_s 236 hB_z dL_law_235 rfl rfl ?_
          refine z_s 237 hB_z dL_law_236 rfl rfl ?_
          rw [show nI (4 * t_z) + 1 = nI (4 * t_z + 1) from z_nij t_z 1]
          refine z_sld 238 hB_z hX hbl hbs dL_law_237 rfl (vp_in_nI (show 4 * t_z + 1 < n_z by omega) (by omega)) ?_
          rw [nI_clamp (by omega)]
          refine z_s 239 hB_z dL_law_238 rfl rfl ?_
          refine z_s 240 hB_z dL_law_239 rfl rfl ?_
          refine z_s 241 hB_z dL_law_240 rfl rfl ?_
          refine z_s 242 hB_z dL_law_241 rfl rfl ?_
          rw [show nI (4 * t_z) + 2 = nI (4 * t_z + 2) from z_nij t_z 2]
          refine z_sld 243 hB_z hX hbl hbs dL_law_242 rfl (vp_in_nI (show 4 * t_z + 2 < n_z by omega) (by omega)) ?_
          rw [nI_clamp (by omega)]
          refine z_callVL 246 hB_z hR0 kL_35 dL_law_243 rfl (N99 (zS := z_up zS I1) hN1) rfl (c_X10_staff (zS := z_up zS I1) (d_z := 0) hN1 hR1 hO.1) (by omega) rfl rfl (Nat.le_of_ble_eq_true rfl) ⟨Nat.le_of_ble_eq_true rfl, Nat.le_of_ble_eq_true rfl⟩ ?_
          rintro _ _ ⟨rfl, I2_z, rfl, hf2⟩
          have hB2 := hB1.m hf2
          refine z_b 249 843 hB_z dL_law_246 rfl rfl (by decide) (fun c_246 => ?_) (fun c_246 => ?_)
          ·
            refine z_s 846 hB_z dL_law_843 rfl rfl ?_
            refine z_j 18 hB_z dL_law_846 (by decide) ?_
            exact z_wkn (ih_z (by omega) _ _ hB2) ⟨rfl, rfl, rfl, congrArg (fun q_z => some (Value.int q_z)) (z_n44 t_z), trivial⟩
          ·
            exact absurd rfl c_246
        · refine z_tsw hB_z dL_law_32 251 (by decide) (by decide) ?_
          refine z_s 252 hB_z dL_law_251 rfl rfl ?_
          refine z_s 253 hB_z dL_law_252 rfl rfl ?_
          refine z_s 254 hB_z dL_law_253 rfl rfl ?_
          refine z_s 255 hB_z dL_law_254 rfl rfl ?_
          refine z_s 256 hB_z dL_law_255 rfl rfl ?_
          rw [show nI (4 * t_z) + 1 = nI (4 * t_z + 1) from z_nij t_z 1]
          refine z_sld 257 hB_z hX hbl hbs dL_law_256 rfl (vp_in_nI (show 4 * t_z + 1 < n_z by omega) (by omega)) ?_
          rw [nI_clamp (by omega)]
          refine z_s 258 hB_z dL_law_257 rfl rfl ?_
          refine z_s 259 hB_z dL_law_258 rfl rfl ?_
          refine z_s 260 hB_z dL_law_259 rfl rfl ?_
          refine z_s 261 hB_z dL_law_260 rfl rfl ?_
          rw [show nI (4 * t_z) + 2 = nI (4 * t_z + 2) from z_nij t_z 2]
          refine z_sld 262 hB_z hX hbl hbs dL_law_261 rfl (vp_in_nI (show 4 * t_z + 2 < n_z by omega) (by omega)) ?_
          rw [nI_clamp (by omega)]
          refine z_callVL 265 hB_z hR0 kL_36 dL_law_262 rfl (L4_z (zS := zS) hC.1) rfl (c_X9_customer (d_z := 0) hC) (by omega) rfl rfl (Nat.le_of_ble_eq_true rfl) ⟨Nat.le_of_ble_eq_true rfl, Nat.le_of_ble_eq_true rfl⟩ ?_
          rintro _ _ ⟨rfl, I1, rfl, hf1⟩
          have hB1 := hBO.q hf1
          obtain ⟨hC1, hN1, hR1, -⟩ := id hB1
          refine z_s 266 hB_z dL_law_265 rfl rfl ?_
          refine z_s 267 hB_z dL_law_266 rfl rfl ?_
          refine z_s 268 hB_z dL_law_267 rfl rfl ?_
          refine z_s 269 hB_z dL_law_268 rfl rfl ?_
          refine z_s 270 hB_z dL_law_269 rfl rfl ?_
          rw [show nI (4 * t_z) + 1 = nI (4 * t_z + 1) from z_nij t_z 1]
          refine z_sld 271 hB_z hX hbl hbs dL_law_270 rfl (vp_in_nI (show 4 * t_z + 1 < n_z by omega) (by omega)) ?_
          rw [nI_clamp (by omega)]
          refine z_s 272 hB_z dL_law_271 rfl rfl ?_
          refine z_s 273 hB_z dL_law_272 rfl rfl ?_
          refine z_s 274 hB_z dL_law_273 rfl rfl ?_
          refine z_s 275 hB_z dL_law_274 rfl rfl ?_
          rw [show nI (4 * t_z) + 2 = nI (4 * t_z + 2) from z_nij t_z 2]
          refine z_sld 276 hB_z hX hbl hbs dL_law_275 rfl (vp_in_nI (show 4 * t_z + 2 < n_z by omega) (by omega)) ?_
          rw [nI_clamp (by omega)]
          refine z_callVL 279 hB_z hR0 kL_39 dL_law_276 rfl (N99 (zS := z_up zS I1) hN1) rfl (c_X10_customer (zS := z_up zS I1) (d_z := 0) hN1 hR1 hO.1) (by omega) rfl rfl (Nat.le_of_ble_eq_true rfl) ⟨Nat.le_of_ble_eq_true rfl, Nat.le_of_ble_eq_true rfl⟩ ?_
          rintro _ _ ⟨rfl, I2_z, rfl, hf2⟩
          have hB2 := hB1.m hf2
          refine z_b 282 843 hB_z dL_law_279 rfl rfl (by decide) (fun c_279 => ?_) (fun c_279 => ?_)
          ·
            refine z_s 846 hB_z dL_law_843 rfl rfl ?_
            refine z_j 18 hB_z dL_law_846 (by decide) ?_
            exact z_wkn (ih_z (by omega) _ _ hB2) ⟨rfl, rfl, rfl, congrArg (fun q_z => some (Value.int q_z)) (z_n44 t_z), trivial⟩
          ·
            exact absurd rfl c_279
        · refine z_tsw hB_z dL_law_32 284 (by decide) (by decide) ?_
          refine z_s 285 hB_z dL_law_284 rfl rfl ?_
          refine z_s 286 hB_z dL_law_285 rfl rfl ?_
          refine z_s 287 hB_z dL_law_286 rfl rfl ?_
          refine z_s 288 hB_z dL_law_287 rfl rfl ?_
          refine z_s 289 hB_z dL_law_288 rfl rfl ?_
          rw [show nI (4 * t_z) + 1 = nI (4 * t_z + 1) from z_nij t_z 1]
          refine z_sld 290 hB_z hX hbl hbs dL_law_289 rfl (vp_in_nI (show 4 * t_z + 1 < n_z by omega) (by omega)) ?_
          rw [nI_clamp (by omega)]
          refine z_s 291 hB_z dL_law_290 rfl rfl ?_
          refine z_s 292 hB_z dL_law_291 rfl rfl ?_
          refine z_s 293 hB_z dL_law_292 rfl rfl ?_
          refine z_s 294 hB_z dL_law_293 rfl rfl ?_
          rw [show nI (4 * t_z) + 2 = nI (4 * t_z + 2) from z_nij t_z 2]
          refine z_sld 295 hB_z hX hbl hbs dL_law_294 rfl (vp_in_nI (show 4 * t_z + 2 < n_z by omega) (by omega)) ?_
          rw [nI_clamp (by omega)]
          refine z_callVL 298 hB_z hR0 kL_40 dL_law_295 rfl (L4_z (zS := zS) hC.1) rfl (c_X9_quarrel (d_z := 0) hC) (by omega) rfl rfl (Nat.le_of_ble_eq_true rfl) ⟨Nat.le_of_ble_eq_true rfl, Nat.le_of_ble_eq_true rfl⟩ ?_
          rintro _ _ ⟨rfl, I1, rfl, hf1⟩
          have hB1 := hBO.q hf1
          obtain ⟨hC1, hN1, hR1, -⟩ := id hB1
          refine z_s 299 hB_z dL_law_298 rfl rfl ?_
          refine z_s 300 hB_z dL_law_299 rfl rfl ?_
          refine z_s 301 hB_z dL_law_300 rfl rfl ?_
          refine z_s 302 hB_z dL_law_301 rfl rfl ?_
          refine z_s 303 hB_z dL_law_302 rfl rfl ?_
          rw [show nI (4 * t_z) + 1 = nI (4 * t_z + 1) from z_nij t_z 1]
          refine z_sld 304 hB_z hX hbl hbs dL_law_303 rfl (vp_in_nI (show 4 * t_z + 1 < n_z by omega) (by omega)) ?_
          rw [nI_clamp (by omega)]
          refine z_s 305 hB_z dL_law_304 rfl rfl ?_
          refine z_s 306 hB_z dL_law_305 rfl rfl ?_
          refine z_s 307 hB_z dL_law_306 rfl rfl ?_
          refine z_s 308 hB_z dL_law_307 rfl rfl ?_
          rw [show nI (4 * t_z) + 2 = nI (4 * t_z + 2) from z_nij t_z 2]
          refine z_sld 309 hB_z hX hbl hbs dL_law_308 rfl (vp_in_nI (show 4 * t_z + 2 < n_z by omega) (by omega)) ?_
          rw [nI_clamp (by omega)]
          refine z_callVL 312 hB_z hR0 kL_43 dL_law_309 rfl (N99 (zS := z_up zS I1) hN1) rfl (c_X10_quarrel (zS := z_up zS I1) (d_z := 0) hN1 hR1 hO.1.2.1) (by omega) rfl rfl (Nat.le_of_ble_eq_true rfl) ⟨Nat.le_of_ble_eq_true rfl, Nat.le_of_ble_eq_true rfl⟩ ?_
          rintro _ _ ⟨rfl, I2_z, rfl, hf2⟩
          have hB2 := hB1.m hf2
          refine z_b 315 843 hB_z dL_law_312 rfl rfl (by decide) (fun c_312 => ?_) (fun c_312 => ?_)
          ·
            refine z_s 846 hB_z dL_law_843 rfl rfl ?_
            refine z_j 18 hB_z dL_law_846 (by decide) ?_
            exact z_wkn (ih_z (by omega) _ _ hB2) ⟨rfl, rfl, rfl, congrArg (fun q_z => some (Value.int q_z)) (z_n44 t_z), trivial⟩
          ·
            exact absurd rfl c_312
        · refine z_tsw hB_z dL_law_32 317 (by decide) (by decide) ?_
          refine z_s 318 hB_z dL_law_317 rfl rfl ?_
          refine z_callVL 321 hB_z hR0 kL_44 dL_law_318 rfl (L4_z (zS := zS) hC.1) rfl (c_X9_woken (d_z := 0) hC) (by omega) rfl rfl (Nat.le_of_ble_eq_true rfl) ⟨Nat.le_of_ble_eq_true rfl, Nat.le_of_ble_eq_true rfl⟩ ?_
          rintro _ _ ⟨rfl, I1, rfl, hf1⟩
          have hB1 := hBO.q hf1
          obtain ⟨hC1, hN1, hR1, -⟩ := id hB1
          refine z_s 322 hB_z dL_law_321 rfl rfl ?_
          refine z_callVL 325 hB_z hR0 kL_47 dL_law_322 rfl (N99 (zS := z_up zS I1) hN1) rfl (c_X10_woken (zS := z_up zS I1) (d_z := 0) hN1 hR1 hO.1) (by omega) rfl rfl (Nat.le_of_ble_eq_true rfl) ⟨Nat.le_of_ble_eq_true rfl, Nat.le_of_ble_eq_true rfl⟩ ?_
          rintro _ _ ⟨rfl, I2_z, rfl, hf2⟩
          have hB2 := hB1.m hf2
          refine z_b 328 843 hB_z dL_law_325 rfl rfl (by decide) (fun c_325 => ?_) (fun c_325 => ?_)
          ·
            refine z_s 846 hB_z dL_law_843 rfl rfl ?_
            refine z_j 18 hB_z dL_law_846 (by decide) ?_
            exact z_wkn (ih_z (by omega) _ _ hB2) ⟨rfl, rfl, rfl, congrArg (fun q_z => some (Value.int q_z)) (z_n44 t_z), trivial⟩
          ·
            exact absurd rfl c_325
        · refine z_tsw hB_z dL_law_32 330 (by decide) (by decide) ?_
          refine z_s 331 hB_z dL_law_330 rfl rfl ?_
          refine z_s 332 hB_z dL_law_331 rfl rfl ?_
          refine z_s 333 hB_z dL_law_332 rfl rfl ?_
          refine z_s 334 hB_z dL_law_333 rfl rfl ?_
          refine z_s 335 hB_z dL_law_334 rfl rfl ?_
          rw [show nI (4 * t_z) + 1 = nI (4 * t_z + 1) from z_nij t_z 1]
          refine z_sld 336 hB_z hX hbl hbs dL_law_335 rfl (vp_in_nI (show 4 * t_z + 1 < n_z by omega) (by omega)) ?_
          rw [nI_clamp (by omega)]
          refine z_callVL 339 hB_z hR0 kL_48 dL_law_336 rfl (L4_z (zS := zS) hC.1) rfl (c_X9_pass (d_z := 0) hC) (by omega) rfl rfl (Nat.le_of_ble_eq_true rfl) ⟨Nat.le_of_ble_eq_true rfl, Nat.le_of_ble_eq_true rfl⟩ ?_
          rintro _ S1 ⟨rfl, hC1, hk1⟩
          obtain ⟨hN1, hR1⟩ := hBO.c hk1
          refine z_s 340 hB_z dL_law_339 rfl rfl ?_
          refine z_s 341 hB_z dL_law_340 rfl rfl ?_
          refine z_s 342 hB_z dL_law_341 rfl rfl ?_
          refine z_s 343 hB_z dL_law_342 rfl rfl ?_
          refine z_s 344 hB_z dL_law_343 rfl rfl ?_
          rw [show nI (4 * t_z) + 1 = nI (4 * t_z + 1) from z_nij t_z 1]
          refine z_sld 345 hB_z hX hbl hbs dL_law_344 rfl (vp_in_nI (show 4 * t_z + 1 < n_z by omega) (by omega)) ?_
          rw [nI_clamp (by omega)]
          refine z_callVL 348 hB_z hR0 kL_51 dL_law_345 rfl (N99 (zS := S1) hN1) rfl (c_X10_pass (zS := S1) (d_z := 0) hN1 hR1 hO.1 hO.2.1 hz2) (by omega) rfl rfl (Nat.le_of_ble_eq_true rfl) ⟨Nat.le_of_ble_eq_true rfl, Nat.le_of_ble_eq_true rfl⟩ ?_
          rintro _ _ ⟨rfl, I2_z, rfl, hR2, hf2⟩
          have hB2 := z_BO.d hC1 hN1 hR2 hf2 hO.pass
          refine z_b 351 843 hB_z dL_law_348 rfl rfl (by decide) (fun c_348 => ?_) (fun c_348 => ?_)
          ·
            refine z_s 846 hB_z dL_law_843 rfl rfl ?_
            refine z_j 18 hB_z dL_law_846 (by decide) ?_
            exact z_wkn (ih_z (by omega) _ _ hB2) ⟨rfl, rfl, rfl, congrArg (fun q_z => some (Value.int q_z)) (z_n44 t_z), trivial⟩
          ·
            exact absurd rfl c_348
        · refine z_tsw hB_z dL_law_32 353 (by decide) (by decide) ?_
          refine z_s 354 hB_z dL_law_353 rfl rfl ?_
          refine z_s 355 hB_z dL_law_354 rfl rfl ?_
          refine z_s 356 hB_z dL_law_355 rfl rfl ?_
          refine z_s 357 hB_z dL_law_356 rfl rfl ?_
          refine z_s 358 hB_z dL_law_357 rfl rfl ?_
          rw [show nI (4 * t_z) + 1 = nI (4 * t_z + 1) from z_nij t_z 1]
          refine z_sld 359 hB_z hX hbl hbs dL_law_358 rfl (vp_in_nI (show 4 * t_z + 1 < n_z by omega) (by omega)) ?_
          rw [nI_clamp (by omega)]
          refine z_callVL 362 hB_z hR0 kL_52 dL_law_359 rfl (L4_z (zS := zS) hC.1) rfl (c_X9_supper (d_z := 0) hC) (by omega) rfl rfl (Nat.le_of_ble_eq_true rfl) ⟨Nat.le_of_ble_eq_true rfl, Nat.le_of_ble_eq_true rfl⟩ ?_
          rintro _ S1 ⟨rfl, hC1, hk1⟩
          obtain ⟨hN1, hR1⟩ := hBO.c hk1
          refine z_s 363 hB_z dL_law_362 rfl rfl ?_
          refine z_s 364 hB_z dL_law_363 rfl rfl ?_
          refine z_s 365 hB_z dL_law_364 rfl rfl ?_
          refine z_s 366 hB_z dL_law_365 rfl rfl ?_
          refine z_s 367 hB_z dL_law_366 rfl rfl ?_
          rw [show nI (4 * t_z) + 1 = nI (4 * t_z + 1) from z_nij t_z 1]
          refine z_sld 368 hB_z hX hbl hbs dL_law_367 rfl (vp_in_nI (show 4 * t_z + 1 < n_z by omega) (by omega)) ?_
          rw [nI_clamp (by omega)]
          refine z_callVL 371 hB_z hR0 kL_55 dL_law_368 rfl (N99 (zS := S1) hN1) rfl (c_X10_supper (zS := S1) (d_z := 0) hN1 hR1 hO.1.2.1 hz2 hO.2.1.2.2.2) (by omega) rfl rfl (Nat.le_of_ble_eq_true rfl) ⟨Nat.le_of_ble_eq_true rfl, Nat.le_of_ble_eq_true rfl⟩ ?_
          rintro _ _ ⟨rfl, I2_z, rfl, hR2, hf2⟩
          have hB2 := z_BO.d hC1 hN1 hR2 hf2 hO.supper
          refine z_b 374 843 hB_z dL_law_371 rfl rfl (by decide) (fun c_371 => ?_) (fun c_371 => ?_)
          ·
            refine z_s 846 hB_z dL_law_843 rfl rfl ?_
            refine z_j 18 hB_z dL_law_846 (by decide) ?_
            exact z_wkn (ih_z (by omega) _ _ hB2) ⟨rfl, rfl, rfl, congrArg (fun q_z => some (Value.int q_z)) (z_n44 t_z), trivial⟩
          ·
            exact absurd rfl c_371
        · refine z_tsw hB_z dL_law_32 376 (by decide) (by decide) ?_
          refine z_s 377 hB_z dL_law_376 rfl rfl ?_
          refine z_s 378 hB_z dL_law_377 rfl rfl ?_
          refine z_s 379 hB_z dL_law_378 rfl rfl ?_
          refine z_s 380 hB_z dL_law_379 rfl rfl ?_
          refine z_s 381 hB_z dL_law_380 rfl rfl ?_
          rw [show nI (4 * t_z) + 1 = nI (4 * t_z + 1) from z_nij t_z 1]
          refine z_sld 382 hB_z hX hbl hbs dL_law_381 rfl (vp_in_nI (show 4 * t_z + 1 < n_z by omega) (by omega)) ?_
          rw [nI_clamp (by omega)]
          refine z_s 383 hB_z dL_law_382 rfl rfl ?_
          refine z_s 384 hB_z dL_law_383 rfl rfl ?_
          refine z_s 385 hB_z dL_law_384 rfl rfl ?_
          refine z_s 386 hB_z dL_law_385 rfl rfl ?_
          rw [show nI (4 * t_z) + 2 = nI (4 * t_z + 2) from z_nij t_z 2]
          refine z_sld 387 hB_z hX hbl hbs dL_law_386 rfl (vp_in_nI (show 4 * t_z + 2 < n_z by omega) (by omega)) ?_
          rw [nI_clamp (by omega)]
          refine z_callVL 390 hB_z hR0 kL_56 dL_law_387 rfl (L4_z (zS := zS) hC.1) rfl (c_X9_settle (d_z := 0) hC) (by omega) rfl rfl (Nat.le_of_ble_eq_true rfl) ⟨Nat.le_of_ble_eq_true rfl, Nat.le_of_ble_eq_true rfl⟩ ?_
          rintro _ S1 ⟨rfl, hC1, hk1⟩
          obtain ⟨hN1, hR1⟩ := hBO.c hk1
          refine z_s 391 hB_z dL_law_390 rfl rfl ?_
          refine z_s 392 hB_z dL_law_391 rfl rfl ?_
          refine z_s 393 hB_z dL_law_392 rfl rfl ?_
          refine z_s 394 hB_z dL_law_393 rfl rfl ?_
          refine z_s 395 hB_z dL_law_394 rfl rfl ?_
          rw [show nI (4 * t_z) + 1 = nI (4 * t_z + 1) from z_nij t_z 1]
          refine z_sld 396 hB_z hX hbl hbs dL_law_395 rfl (vp_in_nI (show 4 * t_z + 1 < n_z by omega) (by omega)) ?_
          rw [nI_clamp (by omega)]
          refine z_s 397 hB_z dL_law_396 rfl rfl ?_
          refine z_s 398 hB_z dL_law_397 rfl rfl ?_
          refine z_s 399 hB_z dL_law_398 rfl rfl ?_
          refine z_s 400 hB_z dL_law_399 rfl rfl ?_
          rw [show nI (4 * t_z) + 2 = nI (4 * t_z + 2) from z_nij t_z 2]
          refine z_sld 401 hB_z hX hbl hbs dL_law_400 rfl (vp_in_nI (show 4 * t_z + 2 < n_z by omega) (by omega)) ?_
          rw [nI_clamp (by omega)]
          refine z_callVL 404 hB_z hR0 kL_59 dL_law_401 rfl (N99 (zS := S1) hN1) rfl (c_X10_settle (zS := S1) (d_z := 0) hN1 hR1 hO.1 hO.2.1 hz2) (by omega) rfl rfl (Nat.le_of_ble_eq_true rfl) ⟨Nat.le_of_ble_eq_true rfl, Nat.le_of_ble_eq_true rfl⟩ ?_
          rintro _ _ ⟨rfl, I2_z, rfl, hR2, hf2⟩
          have hB2 := z_BO.d hC1 hN1 hR2 hf2 hO.settle
          refine z_b 407 843 hB_z dL_law_404 rfl rfl (by decide) (fun c_404 => ?_) (fun c_404 => ?_)
          ·
            refine z_s 846 hB_z dL_law_843 rfl rfl ?_
            refine z_j 18 hB_z dL_law_846 (by decide) ?_
            exact z_wkn (ih_z (by omega) _ _ hB2) ⟨rfl, rfl, rfl, congrArg (fun q_z => some (Value.int q_z)) (z_n44 t_z), trivial⟩
          ·
            exact absurd rfl c_404
        · refine z_tsw hB_z dL_law_32 409 (by decide) (by decide) ?_
          refine z_s 410 hB_z dL_law_409 rfl rfl ?_
          refine z_s 411 hB_z dL_law_410 rfl rfl ?_
          refine z_s 412 hB_z dL_law_411 rfl rfl ?_
          refine z_s 413 hB_z dL_law_412 rfl rfl ?_
          refine z_s 414 hB_z dL_law_413 rfl rfl ?_
          rw [show nI (4 * t_z) + 1 = nI (4 * t_z + 1) from z_nij t_z 1]
          refine z_sld 415 hB_z hX hbl hbs dL_law_414 rfl (vp_in_nI (show 4 * t_z + 1 < n_z by omega) (by omega)) ?_
          rw [nI_clamp (by omega)]
          refine z_callVL 418 hB_z hR0 kL_60 dL_law_415 rfl (L4_z (zS := zS) hC.1) rfl (c_X9_lull (d_z := 0) hC) (by omega) rfl rfl (Nat.le_of_ble_eq_true rfl) ⟨Nat.le_of_ble_eq_true rfl, Nat.le_of_ble_eq_true rfl⟩ ?_
          rintro _ S1 ⟨rfl, hC1, hk1⟩
          obtain ⟨hN1, hR1⟩ := hBO.c hk1
          refine z_s 419 hB_z dL_law_418 rfl rfl ?_
          refine z_s 420 hB_z dL_law_419 rfl rfl ?_
          refine z_s 421 hB_z dL_law_420 rfl rfl ?_
          refine z_s 422 hB_z dL_law_421 rfl rfl ?_
          refine z_s 423 hB_z dL_law_422 rfl rfl ?_
          rw [show nI (4 * t_z) + 1 = nI (4 * t_z + 1) from z_nij t_z 1]
          refine z_sld 424 hB_z hX hbl hbs dL_law_423 rfl (vp_in_nI (show 4 * t_z + 1 < n_z by omega) (by omega)) ?_
          rw [nI_clamp (by omega)]
          refine z_callVL 427 hB_z hR0 kL_63 dL_law_424 rfl (N99 (zS := S1) hN1) rfl (c_X10_lull (zS := S1) (d_z := 0) hN1 hR1 hO.1.2.1 hz2) (by omega) rfl rfl (Nat.le_of_ble_eq_true rfl) ⟨Nat.le_of_ble_eq_true rfl, Nat.le_of_ble_eq_true rfl⟩ ?_
          rintro _ _ ⟨rfl, I2_z, rfl, hR2, hf2⟩
          have hB2 := z_BO.d hC1 hN1 hR2 hf2 hO.lull
          refine z_b 430 843 hB_z dL_law_427 rfl rfl (by decide) (fun c_427 => ?_) (fun c_427 => ?_)
          ·
            refine z_s 846 hB_z dL_law_843 rfl rfl ?_
            refine z_j 18 hB_z dL_law_846 (by decide) ?_
            exact z_wkn (ih_z (by omega) _ _ hB2) ⟨rfl, rfl, rfl, congrArg (fun q_z => some (Value.int q_z)) (z_n44 t_z), trivial⟩
          ·
            exact absurd rfl c_427
        · refine z_tsw hB_z dL_law_32 432 (by decide) (by decide) ?_
          refine z_s 433 hB_z dL_law_432 rfl rfl ?_
          refine z_callVL 436 hB_z hR0 kL_64 dL_law_433 rfl (L4_z (zS := zS) hC.1) rfl (c_X9_undo (d_z := 0) hC) (by omega) rfl rfl (Nat.le_of_ble_eq_true rfl) ⟨Nat.le_of_ble_eq_true rfl, Nat.le_of_ble_eq_true rfl⟩ ?_
          rintro _ S1 ⟨rfl, hC1, hk1⟩
          obtain ⟨hN1, hR1⟩ := hBO.c hk1
          refine z_s 437 hB_z dL_law_436 rfl rfl ?_
          refine z_callVL 440 hB_z hR0 kL_67 dL_law_437 rfl (N99 (zS := S1) hN1) rfl (c_X10_undo (zS := S1) (d_z := 0) hN1 hR1 hz2) (by omega) rfl rfl (Nat.le_of_ble_eq_true rfl) ⟨Nat.le_of_ble_eq_true rfl, Nat.le_of_ble_eq_true rfl⟩ ?_
          rintro _ _ ⟨rfl, I2_z, rfl, hR2, hf2⟩
          have hB2 := z_BO.d hC1 hN1 hR2 hf2 hO.undo
          refine z_b 443 843 hB_z dL_law_440 rfl rfl (by decide) (fun c_440 => ?_) (fun c_440 => ?_)
          ·
            refine z_s 846 hB_z dL_law_843 rfl rfl ?_
            refine z_j 18 hB_z dL_law_846 (by decide) ?_
            exact z_wkn (ih_z (by omega) _ _ hB2) ⟨rfl, rfl, rfl, congrArg (fun q_z => some (Value.int q_z)) (z_n44 t_z), trivial⟩
          ·
            exact absurd rfl c_440
        · refine z_tsw hB_z dL_law_32 445 (by decide) (by decide) ?_
          refine z_s 446 hB_z dL_law_445 rfl rfl ?_
          refine z_s 447 hB_z dL_law_446 rfl rfl ?_
          refine z_s 448 hB_z dL_law_447 rfl rfl ?_
          refine z_s 449 hB_z dL_law_448 rfl rfl ?_
          refine z_s 450 hB_z dL_law_449 rfl rfl ?_
          rw [show nI (4 * t_z) + 1 = nI (4 * t_z + 1) from z_nij t_z 1]
          refine z_sld 451 hB_z hX hbl hbs dL_law_450 rfl (vp_in_nI (show 4 * t_z + 1 < n_z by omega) (by omega)) ?_
          rw [nI_clamp (by omega)]
          refine z_s 452 hB_z dL_law_451 rfl rfl ?_
          refine z_s 453 hB_z dL_law_452 rfl rfl ?_
          refine z_s 454 hB_z dL_law_453 rfl rfl ?_
          refine z_s 455 hB_z dL_law_454 rfl rfl ?_
          rw [show nI (4 * t_z) + 2 = nI (4 * t_z + 2) from z_nij t_z 2]
          refine z_sld 456 hB_z hX hbl hbs dL_law_455 rfl (vp_in_nI (show 4 * t_z + 2 < n_z by omega) (by omega)) ?_
          rw [nI_clamp (by omega)]
          refine z_callVL 459 hB_z hR0 kL_68 dL_law_456 rfl (L4_z (zS := zS) hC.1) rfl (c_X9_behind (d_z := 0) hC) (by omega) rfl rfl (Nat.le_of_ble_eq_true rfl) ⟨Nat.le_of_ble_eq_true rfl, Nat.le_of_ble_eq_true rfl⟩ ?_
          rintro _ _ ⟨rfl, I1, rfl, hf1⟩
          have hB1 := hBO.q hf1
          obtain ⟨hC1, hN1, hR1, -⟩ := id hB1
          refine z_s 460 hB_z dL_law_459 rfl rfl ?_
          refine z_s 461 hB_z dL_law_460 rfl rfl ?_
          refine z_s 462 hB_z dL_law_461 rfl rfl ?_
          refine z_s 463 hB_z dL_law_462 rfl rfl ?_
          refine z_s 464 hB_z dL_law_463 rfl rfl ?_
          rw [show nI (4 * t_z) + 1 = nI (4 * t_z + 1) from z_nij t_z 1]
          refine z_sld 465 hB_z hX hbl hbs dL_law_464 rfl (vp_in_nI (show 4 * t_z + 1 < n_z by omega) (by omega)) ?_
          rw [nI_clamp (by omega)]
          refine z_s 466 hB_z dL_law_465 rfl rfl ?_
          refine z_s 467 hB_z dL_law_466 rfl rfl ?_
          refine z_s 468 hB_z dL_law_467 rfl rfl ?_
          refine z_s 469 hB_z dL_law_468 rfl rfl ?_
          rw [show nI (4 * t_z) + 2 = nI (4 * t_z + 2) from z_nij t_z 2]
          refine z_sld 470 hB_z hX hbl hbs dL_law_469 rfl (vp_in_nI (show 4 * t_z + 2 < n_z by omega) (by omega)) ?_
          rw [nI_clamp (by omega)]
          refine z_callVL 473 hB_z hR0 kL_71 dL_law_470 rfl (N99 (zS := z_up zS I1) hN1) rfl (c_X10_behind (zS := z_up zS I1) (d_z := 0) hN1 hR1 hO.1 hO.2.1.1) (by omega) rfl rfl (Nat.le_of_ble_eq_true rfl) ⟨Nat.le_of_ble_eq_true rfl, Nat.le_of_ble_eq_true rfl⟩ ?_
          rintro _ _ ⟨rfl, I2_z, rfl, hf2⟩
          have hB2 := hB1.m hf2
          refine z_b 476 843 hB_z dL_law_473 rfl rfl (by decide) (fun c_473 => ?_) (fun c_473 => ?_)
          ·
            refine z_s 846 hB_z dL_law_843 rfl rfl ?_
            refine z_j 18 hB_z dL_law_846 (by decide) ?_
            exact z_wkn (ih_z (by omega) _ _ hB2) ⟨rfl, rfl, rfl, congrArg (fun q_z => some (Value.int q_z)) (z_n44 t_z), trivial⟩
          ·
            exact absurd rfl c_473
        · refine z_tsw hB_z dL_law_32 478 (by decide) (by decide) ?_
          refine z_s 479 hB_z dL_law_478 rfl rfl ?_
          refine z_s 480 hB_z dL_law_479 rfl rfl ?_
          refine z_s 481 hB_z dL_law_480 rfl rfl ?_
          refine z_s 482 hB_z dL_law_481 rfl rfl ?_
          refine z_s 483 hB_z dL_law_482 rfl rfl ?_
          rw [show nI (4 * t_z) + 1 = nI (4 * t_z + 1) from z_nij t_z 1]
          refine z_sld 484 hB_z hX hbl hbs dL_law_483 rfl (vp_in_nI (show 4 * t_z + 1 < n_z by omega) (by omega)) ?_
          rw [nI_clamp (by omega)]
          refine z_callVL 487 hB_z hR0 kL_72 dL_law_484 rfl (L4_z (zS := zS) hC.1) rfl (c_X9_ham (d_z := 0) hC) (by omega) rfl rfl (Nat.le_of_ble_eq_true rfl) ⟨Nat.le_of_ble_eq_true rfl, Nat.le_of_ble_eq_true rfl⟩ ?_
          rintro _ _ ⟨rfl, I1, rfl, hf1⟩
          have hB1 := hBO.q hf1
          obtain ⟨hC1, hN1, hR1, -⟩ := id hB1
          refine z_s 488 hB_z dL_law_487 rfl rfl ?_
          refine z_s 489 hB_z dL_law_488 rfl rfl ?_
          refine z_s 490 hB_z dL_law_489 rfl rfl ?_
          refine z_s 491 hB_z dL_law_490 rfl rfl ?_
          refine z_s 492 hB_z dL_law_491 rfl rfl ?_
          rw [show nI (4 * t_z) + 1 = nI (4 * t_z + 1) from z_nij t_z 1]
          refine z_sld 493 hB_z hX hbl hbs dL_law_492 rfl (vp_in_nI (show 4 * t_z + 1 < n_z by omega) (by omega)) ?_
          rw [nI_clamp (by omega)]
          refine z_callVL 496 hB_z hR0 kL_75 dL_law_493 rfl (N99 (zS := z_up zS I1) hN1) rfl (c_X10_ham (zS := z_up zS I1) (d_z := 0) hN1 hR1 hO.1 hO.2.1.1) (by omega) rfl rfl (Nat.le_of_ble_eq_true rfl) ⟨Nat.le_of_ble_eq_true rfl, Nat.le_of_ble_eq_true rfl⟩ ?_
          rintro _ _ ⟨rfl, I2_z, rfl, hf2⟩
          have hB2 := hB1.m hf2
          refine z_b 499 843 hB_z dL_law_496 rfl rfl (by decide) (fun c_496 => ?_) (fun c_496 => ?_)
          ·
            refine z_s 846 hB_z dL_law_843 rfl rfl ?_
            refine z_j 18 hB_z dL_law_846 (by decide) ?_
            exact z_wkn (ih_z (by omega) _ _ hB2) ⟨rfl, rfl, rfl, congrArg (fun q_z => some (Value.int q_z)) (z_n44 t_z), trivial⟩
          ·
            exact absurd rfl c_496
        · refine z_tsw hB_z dL_law_32 501 (by decide) (by decide) ?_
          refine z_s 502 hB_z dL_law_501 rfl rfl ?_
          refine z_s 503 hB_z dL_law_502 rfl rfl ?_
          refine z_s 504 hB_z dL_law_503 rfl rfl ?_
          refine z_s 505 hB_z dL_law_504 rfl rfl ?_
          refine z_s 506 hB_z dL_law_505 rfl rfl ?_
          rw [show nI (4 * t_z) + 1 = nI (4 * t_z + 1) from z_nij t_z 1]
          refine z_sld 507 hB_z hX hbl hbs dL_law_506 rfl (vp_in_nI (show 4 * t_z + 1 < n_z by omega) (by omega)) ?_
          rw [nI_clamp (by omega)]
          refine z_callVL 510 hB_z hR0 kL_76 dL_law_507 rfl (L4_z (zS := zS) hC.1) rfl (c_X9_suppers (d_z := 0) hC) (by omega) rfl rfl (Nat.le_of_ble_eq_true rfl) ⟨Nat.le_of_ble_eq_true rfl, Nat.le_of_ble_eq_true rfl⟩ ?_
          rintro _ _ ⟨rfl, I1, rfl, hf1⟩
          have hB1 := hBO.q hf1
          obtain ⟨hC1, hN1, hR1, -⟩ := id hB1
          refine z_s 511 hB_z dL_law_510 rfl rfl ?_
          refine z_s 512 hB_z dL_law_511 rfl rfl ?_
          refine z_s 513 hB_z dL_law_512 rfl rfl ?_
          refine z_s 514 hB_z dL_law_513 rfl rfl ?_
          refine z_s 515 hB_z dL_law_514 rfl rfl ?_
          rw [show nI (4 * t_z) + 1 = nI (4 * t_z + 1) from z_nij t_z 1]
          refine z_sld 516 hB_z hX hbl hbs dL_law_515 rfl (vp_in_nI (show 4 * t_z + 1 < n_z by omega) (by omega)) ?_
          rw [nI_clamp (by omega)]
          refine z_callVL 519 hB_z hR0 kL_79 dL_law_516 rfl (N99 (zS := z_up zS I1) hN1) rfl (c_X10_suppers (zS := z_up zS I1) (d_z := 0) hN1 hR1 hO.1) (by omega) rfl rfl (Nat.le_of_ble_eq_true rfl) ⟨Nat.le_of_ble_eq_true rfl, Nat.le_of_ble_eq_true rfl⟩ ?_
          rintro _ _ ⟨rfl, I2_z, rfl, hf2⟩
          have hB2 := hB1.m hf2
          refine z_b 522 843 hB_z dL_law_519 rfl rfl (by decide) (fun c_519 => ?_) (fun c_519 => ?_)
          ·
            refine z_s 846 hB_z dL_law_843 rfl rfl ?_
            refine z_j 18 hB_z dL_law_846 (by decide) ?_
            exact z_wkn (ih_z (by omega) _ _ hB2) ⟨rfl, rfl, rfl, congrArg (fun q_z => some (Value.int q_z)) (z_n44 t_z), trivial⟩
          ·
            exact absurd rfl c_519
        · refine z_tsw hB_z dL_law_32 524 (by decide) (by decide) ?_
          refine z_s 525 hB_z dL_law_524 rfl rfl ?_
          refine z_s 526 hB_z dL_law_525 rfl rfl ?_
          refine z_s 527 hB_z dL_law_526 rfl rfl ?_
          refine z_s 528 hB_z dL_law_527 rfl rfl ?_
          refine z_s 529 hB_z dL_law_528 rfl rfl ?_
          rw [show nI (4 * t_z) + 1 = nI (4 * t_z + 1) from z_nij t_z 1]
          refine z_sld 530 hB_z hX hbl hbs dL_law_529 rfl (vp_in_nI (show 4 * t_z + 1 < n_z by omega) (by omega)) ?_
          rw [nI_clamp (by omega)]
          refine z_s 531 hB_z dL_law_530 rfl rfl ?_
          refine z_s 532 hB_z dL_law_531 rfl rfl ?_
          refine z_s 533 hB_z dL_law_532 rfl rfl ?_
          refine z_s 534 hB_z dL_law_533 rfl rfl ?_
          rw [show nI (4 * t_z) + 2 = nI (4 * t_z + 2) from z_nij t_z 2]
          refine z_sld 535 hB_z hX hbl hbs dL_law_534 rfl (vp_in_nI (show 4 * t_z + 2 < n_z by omega) (by omega)) ?_
          rw [nI_clamp (by omega)]
          refine z_callVL 538 hB_z hR0 kL_80 dL_law_535 rfl (L4_z (zS := zS) hC.1) rfl (c_X9_apart (d_z := 0) hC (qn := z_qn (z_AT A_z 4)) hO.2.1.2.1.bc hO.2.1.2.2.1) (by omega) rfl rfl (Nat.le_of_ble_eq_true rfl) ⟨Nat.le_of_ble_eq_true rfl, Nat.le_of_ble_eq_true rfl⟩ ?_
          rintro _ _ ⟨rfl, I1, rfl, hf1⟩
          have hB1 := hBO.q hf1
          obtain ⟨hC1, hN1, hR1, -⟩ := id hB1
          refine z_s 539 hB_z dL_law_538 rfl rfl ?_
          refine z_s 540 hB_z dL_law_539 rfl rfl ?_
          refine z_s 541 hB_z dL_law_540 rfl rfl ?_
          refine z_s 542 hB_z dL_law_541 rfl rfl ?_
          refine z_s 543 hB_z dL_law_542 rfl rfl ?_
          rw [show nI (4 * t_z) + 1 = nI (4 * t_z + 1) from z_nij t_z 1]
          refine z_sld 544 hB_z hX hbl hbs dL_law_543 rfl (vp_in_nI (show 4 * t_z + 1 < n_z by omega) (by omega)) ?_
          rw [nI_clamp (by omega)]
          refine z_s 545 hB_z dL_law_544 rfl rfl ?_
          refine z_s 546 hB_z dL_law_545 rfl rfl ?_
          refine z_s 547 hB_z dL_law_546 rfl rfl ?_
          refine z_s 548 hB_z dL_law_547 rfl rfl ?_
          rw [show nI (4 * t_z) + 2 = nI (4 * t_z + 2) from z_nij t_z 2]
          refine z_sld 549 hB_z hX hbl hbs dL_law_548 rfl (vp_in_nI (show 4 * t_z + 2 < n_z by omega) (by omega)) ?_
          rw [nI_clamp (by omega)]
          refine z_callVL 552 hB_z hR0 kL_83 dL_law_549 rfl (N99 (zS := z_up zS I1) hN1) rfl (c_X10_apart (zS := z_up zS I1) (d_z := 0) hN1 hR1 hO.1 hO.2.1) (by omega) rfl rfl (Nat.le_of_ble_eq_true rfl) ⟨Nat.le_of_ble_eq_true rfl, Nat.le_of_ble_eq_true rfl⟩ ?_
          rintro _ _ ⟨rfl, I2_z, rfl, hf2⟩
          have hB2 := hB1.m hf2
          refine z_b 555 843 hB_z dL_law_552 rfl rfl (by decide) (fun c_552 => ?_) (fun c_552 => ?_)
          ·
            refine z_s 846 hB_z dL_law_843 rfl rfl ?_
            refine z_j 18 hB_z dL_law_846 (by decide) ?_
            exact z_wkn (ih_z (by omega) _ _ hB2) ⟨rfl, rfl, rfl, congrArg (fun q_z => some (Value.int q_z)) (z_n44 t_z), trivial⟩
          ·
            exact absurd rfl c_552
        · refine z_tsw hB_z dL_law_32 557 (by decide) (by decide) ?_
          refine z_s 558 hB_z dL_law_557 rfl rfl ?_
          refine z_s 559 hB_z dL_law_558 rfl rfl ?_
          refine z_s 560 hB_z dL_law_559 rfl rfl ?_
          refine z_s 561 hB_z dL_law_560 rfl rfl ?_
          refine z_s 562 hB_z dL_law_561 rfl rfl ?_
          rw [show nI (4 * t_z) + 1 = nI (4 * t_z + 1) from z_nij t_z 1]
          refine z_sld 563 hB_z hX hbl hbs dL_law_562 rfl (vp_in_nI (show 4 * t_z + 1 < n_z by omega) (by omega)) ?_
          rw [nI_clamp (by omega)]
          refine z_callVL 566 hB_z hR0 kL_84 dL_law_563 rfl (L4_z (zS := zS) hC.1) rfl (c_X9_ask (d_z := 0) hC) (by omega) rfl rfl (Nat.le_of_ble_eq_true rfl) ⟨Nat.le_of_ble_eq_true rfl, Nat.le_of_ble_eq_true rfl⟩ ?_
          rintro _ _ ⟨rfl, I1, rfl, hf1⟩
          have hB1 := hBO.q hf1
          obtain ⟨hC1, hN1, hR1, -⟩ := id hB1
          refine z_s 567 hB_z dL_law_566 rfl rfl ?_
          refine z_s 568 hB_z dL_law_567 rfl rfl ?_
          refine z_s 569 hB_z dL_law_568 rfl rfl ?_
          refine z_s 570 hB_z dL_law_569 rfl rfl ?_
          refine z_s 571 hB_z dL_law_570 rfl rfl ?_
          rw [show nI (4 * t_z) + 1 = nI (4 * t_z + 1) from z_nij t_z 1]
          refine z_sld 572 hB_z hX hbl hbs dL_law_571 rfl (vp_in_nI (show 4 * t_z + 1 < n_z by omega) (by omega)) ?_
          rw [nI_clamp (by omega)]
          refine z_callVL 575 hB_z hR0 kL_87 dL_law_572 rfl (N99 (zS := z_up zS I1) hN1) rfl (c_X10_ask (zS := z_up zS I1) (d_z := 0) hN1 hR1 hO.1) (by omega) rfl rfl (Nat.le_of_ble_eq_true rfl) ⟨Nat.le_of_ble_eq_true rfl, Nat.le_of_ble_eq_true rfl⟩ ?_
          rintro _ _ ⟨rfl, I2_z, rfl, hf2⟩
          have hB2 := hB1.m hf2
          refine z_b 578 843 hB_z dL_law_575 rfl rfl (by decide) (fun c_575 => ?_) (fun c_575 => ?_)
          ·
            refine z_s 846 hB_z dL_law_843 rfl rfl ?_
            refine z_j 18 hB_z dL_law_846 (by decide) ?_
            exact z_wkn (ih_z (by omega) _ _ hB2) ⟨rfl, rfl, rfl, congrArg (fun q_z => some (Value.int q_z)) (z_n44 t_z), trivial⟩
          ·
            exact absurd rfl c_575
        · refine z_tsw hB_z dL_law_32 580 (by decide) (by decide) ?_
          refine z_s 581 hB_z dL_law_580 rfl rfl ?_
          refine z_s 582 hB_z dL_law_581 rfl rfl ?_
          refine z_s 583 hB_z dL_law_582 rfl rfl ?_
          refine z_s 584 hB_z dL_law_583 rfl rfl ?_
          refine z_s 585 hB_z dL_law_584 rfl rfl ?_
          rw [show nI (4 * t_z) + 1 = nI (4 * t_z + 1) from z_nij t_z 1]
          refine z_sld 586 hB_z hX hbl hbs dL_law_585 rfl (vp_in_nI (show 4 * t_z + 1 < n_z by omega) (by omega)) ?_
          rw [nI_clamp (by omega)]
          refine z_s 587 hB_z dL_law_586 rfl rfl ?_
          refine z_s 588 hB_z dL_law_587 rfl rfl ?_
          refine z_s 589 hB_z dL_law_588 rfl rfl ?_
          refine z_s 590 hB_z dL_law_589 rfl rfl ?_
          rw [show nI (4 * t_z) + 2 = nI (4 * t_z + 2) from z_nij t_z 2]
          refine z_sld 591 hB_z hX hbl hbs dL_law_590 rfl (vp_in_nI (show 4 * t_z + 2 < n_z by omega) (by omega)) ?_
          rw [nI_clamp (by omega)]
          refine z_s 592 hB_z dL_law_591 rfl rfl ?_
          refine z_s 593 hB_z dL_law_592 rfl rfl ?_
          refine z_s 594 hB_z dL_law_593 rfl rfl ?_
          refine z_s 595 hB_z dL_law_594 rfl rfl ?_
          rw [show nI (4 * t_z) + 3 = nI (4 * t_z + 3) from z_nij t_z 3]
          refine z_sld 596 hB_z hX hbl hbs dL_law_595 rfl (vp_in_nI (show 4 * t_z + 3 < n_z by omega) (by omega)) ?_
          rw [nI_clamp (by omega)]
          refine z_b 599 603 hB_z dL_law_596 rfl rfl (by decide) (fun c_596 => ?_) (fun c_596 => ?_)
          ·
            refine z_s 604 hB_z dL_law_603 rfl rfl ?_
            refine z_callVL 607 hB_z hR0 kL_88 dL_law_604 rfl (L4_z (zS := zS) hC.1) rfl (c_X9_see (d_z := 0) hC) (by omega) rfl rfl (Nat.le_of_ble_eq_true rfl) ⟨Nat.le_of_ble_eq_true rfl, Nat.le_of_ble_eq_true rfl⟩ ?_
            rintro _ S1 ⟨rfl, hC1, hk1⟩
            obtain ⟨hN1, hR1⟩ := hBO.c hk1
            refine z_s 608 hB_z dL_law_607 rfl rfl ?_
            refine z_s 609 hB_z dL_law_608 rfl rfl ?_
            refine z_s 610 hB_z dL_law_609 rfl rfl ?_
            refine z_s 611 hB_z dL_law_610 rfl rfl ?_
            refine z_s 612 hB_z dL_law_611 rfl rfl ?_
            rw [show nI (4 * t_z) + 1 = nI (4 * t_z + 1) from z_nij t_z 1]
            refine z_sld 613 hB_z hX hbl hbs dL_law_612 rfl (vp_in_nI (show 4 * t_z + 1 < n_z by omega) (by omega)) ?_
            rw [nI_clamp (by omega)]
            refine z_s 614 hB_z dL_law_613 rfl rfl ?_
            refine z_s 615 hB_z dL_law_614 rfl rfl ?_
            refine z_s 616 hB_z dL_law_615 rfl rfl ?_
            refine z_s 617 hB_z dL_law_616 rfl rfl ?_
            rw [show nI (4 * t_z) + 2 = nI (4 * t_z + 2) from z_nij t_z 2]
            refine z_sld 618 hB_z hX hbl hbs dL_law_617 rfl (vp_in_nI (show 4 * t_z + 2 < n_z by omega) (by omega)) ?_
            rw [nI_clamp (by omega)]
            refine z_s 619 hB_z dL_law_618 rfl rfl ?_
            refine z_s 620 hB_z dL_law_619 rfl rfl ?_
            refine z_s 621 hB_z dL_law_620 rfl rfl ?_
            refine z_s 622 hB_z dL_law_621 rfl rfl ?_
            rw [show nI (4 * t_z) + 3 = nI (4 * t_z + 3) from z_nij t_z 3]
            refine z_sld 623 hB_z hX hbl hbs dL_law_622 rfl (vp_in_nI (show 4 * t_z + 3 < n_z by omega) (by omega)) ?_
            rw [nI_clamp (by omega)]
            refine z_b 626 630 hB_z dL_law_623 rfl rfl (by decide) (fun c_623 => ?_) (fun c_623 => ?_)
            ·
              refine z_s 631 hB_z dL_law_630 rfl rfl ?_
              refine z_callVL 634 hB_z hR0 kL_92 dL_law_631 rfl (N99 (zS := S1) hN1) rfl (c_X10_see (zS := S1) (d_z := 0) hN1 hR1 hO.1.2.1 hz4) (by omega) rfl rfl (Nat.le_of_ble_eq_true rfl) ⟨Nat.le_of_ble_eq_true rfl, Nat.le_of_ble_eq_true rfl⟩ ?_
              rintro _ _ ⟨rfl, I2_z, rfl, hR2, hf2⟩
              have hB2 := z_BO.d hC1 hN1 hR2 hf2 hO.see
              refine z_b 637 843 hB_z dL_law_634 rfl rfl (by decide) (fun c_634 => ?_) (fun c_634 => ?_)
              ·
                refine z_s 846 hB_z dL_law_843 rfl rfl ?_
                refine z_j 18 hB_z dL_law_846 (by decide) ?_
                exact z_wkn (ih_z (by omega) _ _ hB2) ⟨rfl, rfl, rfl, congrArg (fun q_z => some (Value.int q_z)) (z_n44 t_z), trivial⟩
              ·
                exact absurd rfl c_634
            ·
              exact absurd c_596 c_623
          ·
            refine z_s 600 hB_z dL_law_599 rfl rfl ?_
            refine z_j 604 hB_z dL_law_600 (by decide) ?_
            refine z_callVL 607 hB_z hR0 kL_88 dL_law_604 rfl (L4_z (zS := zS) hC.1) rfl (c_X9_see (d_z := 0) hC) (by omega) rfl rfl (Nat.le_of_ble_eq_true rfl) ⟨Nat.le_of_ble_eq_true rfl, Nat.le_of_ble_eq_true rfl⟩ ?_
            rintro _ S1 ⟨rfl, hC1, hk1⟩
            obtain ⟨hN1, hR1⟩ := hBO.c hk1
            refine z_s 608 hB_z dL_law_607 rfl rfl ?_
            refine z_s 609 hB_z dL_law_608 rfl rfl ?_
            refine z_s 610 hB_z dL_law_609 rfl rfl ?_
            refine z_s 611 hB_z dL_law_610 rfl rfl ?_
            refine z_s 612 hB_z dL_law_611 rfl rfl ?_
            rw [show nI (4 * t_z) + 1 = nI (4 * t_z + 1) from z_nij t_z 1]
            refine z_sld 613 hB_z hX hbl hbs dL_law_612 rfl (vp_in_nI (show 4 * t_z + 1 < n_z by omega) (by omega)) ?_
            rw [nI_clamp (by omega)]
            refine z_s 614 hB_z dL_law_613 rfl rfl ?_
            refine z_s 615 hB_z dL_law_614 rfl rfl ?_
            refine z_s 616 hB_z dL_law_615 rfl rfl ?_
            refine z_s 617 hB_z dL_law_616 rfl rfl ?_
            rw [show nI (4 * t_z) + 2 = nI (4 * t_z + 2) from z_nij t_z 2]
            refine z_sld 618 hB_z hX hbl hbs dL_law_617 rfl (vp_in_nI (show 4 * t_z + 2 < n_z by omega) (by omega)) ?_
            rw [nI_clamp (by omega)]
            refine z_s 619 hB_z dL_law_618 rfl rfl ?_
            refine z_s 620 hB_z dL_law_619 rfl rfl ?_
            refine z_s 621 hB_z dL_law_620 rfl rfl ?_
            refine z_s 622 hB_z dL_law_621 rfl rfl ?_
            rw [show nI (4 * t_z) + 3 = nI (4 * t_z + 3) from z_nij t_z 3]
            refine z_sld 623 hB_z hX hbl hbs dL_law_622 rfl (vp_in_nI (show 4 * t_z + 3 < n_z by omega) (by omega)) ?_
            rw [nI_clamp (by omega)]
            refine z_b 626 630 hB_z dL_law_623 rfl rfl (by decide) (fun c_623 => ?_) (fun c_623 => ?_)
            ·
              exact absurd c_623 c_596
            ·
              refine z_s 627 hB_z dL_law_626 rfl rfl ?_
              refine z_j 631 hB_z dL_law_627 (by decide) ?_
              refine z_callVL 634 hB_z hR0 kL_92 dL_law_631 rfl (N99 (zS := S1) hN1) rfl (c_X10_see (zS := S1) (d_z := 0) hN1 hR1 hO.1.2.1 hz4) (by omega) rfl rfl (Nat.le_of_ble_eq_true rfl) ⟨Nat.le_of_ble_eq_true rfl, Nat.le_of_ble_eq_true rfl⟩ ?_
              rintro _ _ ⟨rfl, I2_z, rfl, hR2, hf2⟩
              have hB2 := z_BO.d hC1 hN1 hR2 hf2 hO.see
              refine z_b 637 843 hB_z dL_law_634 rfl rfl (by decide) (fun c_634 => ?_) (fun c_634 => ?_)
              ·
                refine z_s 846 hB_z dL_law_843 rfl rfl ?_
                refine z_j 18 hB_z dL_law_846 (by decide) ?_
                exact z_wkn (ih_z (by omega) _ _ hB2) ⟨rfl, rfl, rfl, congrArg (fun q_z => some (Value.int q_z)) (z_n44 t_z), trivial⟩
              ·
                exact absurd rfl c_634
        · refine z_tsw hB_z dL_law_32 639 (by decide) (by decide) ?_
          refine z_s 640 hB_z dL_law_639 rfl rfl ?_
          refine z_callVL 643 hB_z hR0 kL_93 dL_law_640 rfl (L4_z (zS := zS) hC.1) rfl (c_X9_forget (d_z := 0) hC) (by omega) rfl rfl (Nat.le_of_ble_eq_true rfl) ⟨Nat.le_of_ble_eq_true rfl, Nat.le_of_ble_eq_true rfl⟩ ?_
          rintro _ S1 ⟨rfl, hC1, hk1⟩
          obtain ⟨hN1, hR1⟩ := hBO.c hk1
          refine z_s 644 hB_z dL_law_643 rfl rfl ?_
          refine z_callVL 647 hB_z hR0 kL_96 dL_law_644 rfl (N99 (zS := S1) hN1) rfl (c_X10_forget (zS := S1) (d_z := 0) hN1 hR1) (by omega) rfl rfl (Nat.le_of_ble_eq_true rfl) ⟨Nat.le_of_ble_eq_true rfl, Nat.le_of_ble_eq_true rfl⟩ ?_
          rintro _ _ ⟨rfl, I2_z, rfl, hR2, hf2⟩
          have hB2 := z_BO.d hC1 hN1 hR2 hf2 hO.forget
          refine z_b 650 843 hB_z dL_law_647 rfl rfl (by decide) (fun c_647 => ?_) (fun c_647 => ?_)
          ·
            refine z_s 846 hB_z dL_law_843 rfl rfl ?_
            refine z_j 18 hB_z dL_law_846 (by decide) ?_
            exact z_wkn (ih_z (by omega) _ _ hB2) ⟨rfl, rfl, rfl, congrArg (fun q_z => some (Value.int q_z)) (z_n44 t_z), trivial⟩
          ·
            exact absurd rfl c_647
        · refine z_tsw hB_z dL_law_32 652 (by decide) (by decide) ?_
          refine z_s 653 hB_z dL_law_652 rfl rfl ?_
          refine z_s 654 hB_z dL_law_653 rfl rfl ?_
          refine z_s 655 hB_z dL_law_654 rfl rfl ?_
          refine z_s 656 hB_z dL_law_655 rfl rfl ?_
          refine z_s 657 hB_z dL_law_656 rfl rfl ?_
          rw [show nI (4 * t_z) + 1 = nI (4 * t_z + 1) from z_nij t_z 1]
          refine z_sld 658 hB_z hX hbl hbs dL_law_657 rfl (vp_in_nI (show 4 * t_z + 1 < n_z by omega) (by omega)) ?_
          rw [nI_clamp (by omega)]
          refine z_s 659 hB_z dL_law_658 rfl rfl ?_
          refine z_s 660 hB_z dL_law_659 rfl rfl ?_
          refine z_s 661 hB_z dL_law_660 rfl rfl ?_
          refine z_s 662 hB_z dL_law_661 rfl rfl ?_
          rw [show nI (4 * t_z) + 2 = nI (4 * t_z + 2) from z_nij t_z 2]
          refine z_sld 663 hB_z hX hbl hbs dL_law_662 rfl (vp_in_nI (show 4 * t_z + 2 < n_z by omega) (by omega)) ?_
          rw [nI_clamp (by omega)]
          refine z_callVL 666 hB_z hR0 kL_97 dL_law_663 rfl (L4_z (zS := zS) hC.1) rfl (c_X9_law (d_z := 0) hC) (by omega) rfl rfl (Nat.le_of_ble_eq_true rfl) ⟨Nat.le_of_ble_eq_true rfl, Nat.le_of_ble_eq_true rfl⟩ ?_
          rintro _ _ ⟨rfl, I1, rfl, hf1⟩
          have hB1 := hBO.q hf1
          obtain ⟨hC1, hN1, hR1, -⟩ := id hB1
          refine z_s 667 hB_z dL_law_666 rfl rfl ?_
          refine z_s 668 hB_z dL_law_667 rfl rfl ?_
          refine z_s 669 hB_z dL_law_668 rfl rfl ?_
          refine z_s 670 hB_z dL_law_669 rfl rfl ?_
          refine z_s 671 hB_z dL_law_670 rfl rfl ?_
          rw [show nI (4 * t_z) + 1 = nI (4 * t_z + 1) from z_nij t_z 1]
          refine z_sld 672 hB_z hX hbl hbs dL_law_671 rfl (vp_in_nI (show 4 * t_z + 1 < n_z by omega) (by omega)) ?_
          rw [nI_clamp (by omega)]
          refine z_s 673 hB_z dL_law_672 rfl rfl ?_
          refine z_s 674 hB_z dL_law_673 rfl rfl ?_
          refine z_s 675 hB_z dL_law_674 rfl rfl ?_
          refine z_s 676 hB_z dL_law_675 rfl rfl ?_
          rw [show nI (4 * t_z) + 2 = nI (4 * t_z + 2) from z_nij t_z 2]
          refine z_sld 677 hB_z hX hbl hbs dL_law_676 rfl (vp_in_nI (show 4 * t_z + 2 < n_z by omega) (by omega)) ?_
          rw [nI_clamp (by omega)]
          refine z_callVL 680 hB_z hR0 kL_100 dL_law_677 rfl (N99 (zS := z_up zS I1) hN1) rfl (c_X10_law (zS := z_up zS I1) (d_z := 0) hN1 hR1 hO.1.2.1 hz4) (by omega) rfl rfl (Nat.le_of_ble_eq_true rfl) ⟨Nat.le_of_ble_eq_true rfl, Nat.le_of_ble_eq_true rfl⟩ ?_
          rintro _ _ ⟨rfl, I2_z, rfl, hf2⟩
          have hB2 := hB1.m hf2
          refine z_b 683 843 hB_z dL_law_680 rfl rfl (by decide) (fun c_680 => ?_) (fun c_680 => ?_)
          ·
            refine z_s 846 hB_z dL_law_843 rfl rfl ?_
            refine z_j 18 hB_z dL_law_846 (by decide) ?_
            exact z_wkn (ih_z (by omega) _ _ hB2) ⟨rfl, rfl, rfl, congrArg (fun q_z => some (Value.int q_z)) (z_n44 t_z), trivial⟩
          ·
            exact absurd rfl c_680
        · refine z_tsw hB_z dL_law_32 685 (by decide) (by decide) ?_
          refine z_s 686 hB_z dL_law_685 rfl rfl ?_
          refine z_s 687 hB_z dL_law_686 rfl rfl ?_
          refine z_s 688 hB_z dL_law_687 rfl rfl ?_
          refine z_s 689 hB_z dL_law_688 rfl rfl ?_
          refine z_s 690 hB_z dL_law_689 rfl rfl ?_
          rw [show nI (4 * t_z) + 1 = nI (4 * t_z + 1) from z_nij t_z 1]
          refine z_sld 691 hB_z hX hbl hbs dL_law_690 rfl (vp_in_nI (show 4 * t_z + 1 < n_z by omega) (by omega)) ?_
          rw [nI_clamp (by omega)]
          refine z_callVL 694 hB_z hR0 kL_101 dL_law_691 rfl (L4_z (zS := zS) hC.1) rfl (c_X9_did (d_z := 0) hC) (by omega) rfl rfl (Nat.le_of_ble_eq_true rfl) ⟨Nat.le_of_ble_eq_true rfl, Nat.le_of_ble_eq_true rfl⟩ ?_
          rintro _ _ ⟨rfl, I1, rfl, hf1⟩
          have hB1 := hBO.q hf1
          obtain ⟨hC1, hN1, hR1, -⟩ := id hB1
          refine z_s 695 hB_z dL_law_694 rfl rfl ?_
          refine z_s 696 hB_z dL_law_695 rfl rfl ?_
          refine z_s 697 hB_z dL_law_696 rfl rfl ?_
          refine z_s 698 hB_z dL_law_697 rfl rfl ?_
          refine z_s 699 hB_z dL_law_698 rfl rfl ?_
          rw [show nI (4 * t_z) + 1 = nI (4 * t_z + 1) from z_nij t_z 1]
          refine z_sld 700 hB_z hX hbl hbs dL_law_699 rfl (vp_in_nI (show 4 * t_z + 1 < n_z by omega) (by omega)) ?_
          rw [nI_clamp (by omega)]
          refine z_callVL 703 hB_z hR0 kL_104 dL_law_700 rfl (N99 (zS := z_up zS I1) hN1) rfl (c_X10_did (zS := z_up zS I1) (d_z := 0) hN1 hR1 hO.1) (by omega) rfl rfl (Nat.le_of_ble_eq_true rfl) ⟨Nat.le_of_ble_eq_true rfl, Nat.le_of_ble_eq_true rfl⟩ ?_
          rintro _ _ ⟨rfl, I2_z, rfl, hf2⟩
          have hB2 := hB1.m hf2
          refine z_b 706 843 hB_z dL_law_703 rfl rfl (by decide) (fun c_703 => ?_) (fun c_703 => ?_)
          ·
            refine z_s 846 hB_z dL_law_843 rfl rfl ?_
            refine z_j 18 hB_z dL_law_846 (by decide) ?_
            exact z_wkn (ih_z (by omega) _ _ hB2) ⟨rfl, rfl, rfl, congrArg (fun q_z => some (Value.int q_z)) (z_n44 t_z), trivial⟩
          ·
            exact absurd rfl c_703
        · refine z_tsw hB_z dL_law_32 708 (by decide) (by decide) ?_
          refine z_s 709 hB_z dL_law_708 rfl rfl ?_
          refine z_s 710 hB_z dL_law_709 rfl rfl ?_
          refine z_s 711 hB_z dL_law_710 rfl rfl ?_
          refine z_s 712 hB_z dL_law_711 rfl rfl ?_
          refine z_s 713 hB_z dL_law_712 rfl rfl ?_
          rw [show nI (4 * t_z) + 1 = nI (4 * t_z + 1) from z_nij t_z 1]
          refine z_sld 714 hB_z hX hbl hbs dL_law_713 rfl (vp_in_nI (show 4 * t_z + 1 < n_z by omega) (by omega)) ?_
          rw [nI_clamp (by omega)]
          refine z_s 715 hB_z dL_law_714 rfl rfl ?_
          refine z_s 716 hB_z dL_law_715 rfl rfl ?_
          refine z_s 717 hB_z dL_law_716 rfl rfl ?_
          refine z_s 718 hB_z dL_law_717 rfl rfl ?_
          rw [show nI (4 * t_z) + 2 = nI (4 * t_z + 2) from z_nij t_z 2]
          refine z_sld 719 hB_z hX hbl hbs dL_law_718 rfl (vp_in_nI (show 4 * t_z + 2 < n_z by omega) (by omega)) ?_
          rw [nI_clamp (by omega)]
          refine z_s 720 hB_z dL_law_719 rfl rfl ?_
          refine z_s 721 hB_z dL_law_720 rfl rfl ?_
          refine z_s 722 hB_z dL_law_721 rfl rfl ?_
          refine z_s 723 hB_z dL_law_722 rfl rfl ?_
          rw [show nI (4 * t_z) + 3 = nI (4 * t_z + 3) from z_nij t_z 3]
          refine z_sld 724 hB_z hX hbl hbs dL_law_723 rfl (vp_in_nI (show 4 * t_z + 3 < n_z by omega) (by omega)) ?_
          rw [nI_clamp (by omega)]
          refine z_callVL 727 hB_z hR0 kL_105 dL_law_724 rfl (L4_z (zS := zS) hC.1) rfl (c_X9_dogs (d_z := 0) hC) (by omega) rfl rfl (Nat.le_of_ble_eq_true rfl) ⟨Nat.le_of_ble_eq_true rfl, Nat.le_of_ble_eq_true rfl⟩ ?_
          rintro _ _ ⟨rfl, I1, rfl, hf1⟩
          have hB1 := hBO.q hf1
          obtain ⟨hC1, hN1, hR1, -⟩ := id hB1
          refine z_s 728 hB_z dL_law_727 rfl rfl ?_
          refine z_s 729 hB_z dL_law_728 rfl rfl ?_
          refine z_s 730 hB_z dL_law_729 rfl rfl ?_
          refine z_s 731 hB_z dL_law_730 rfl rfl ?_
          refine z_s 732 hB_z dL_law_731 rfl rfl ?_
          rw [show nI (4 * t_z) + 1 = nI (4 * t_z + 1) from z_nij t_z 1]
          refine z_sld 733 hB_z hX hbl hbs dL_law_732 rfl (vp_in_nI (show 4 * t_z + 1 < n_z by omega) (by omega)) ?_
          rw [nI_clamp (by omega)]
          refine z_s 734 hB_z dL_law_733 rfl rfl ?_
          refine z_s 735 hB_z dL_law_734 rfl rfl ?_
          refine z_s 736 hB_z dL_law_735 rfl rfl ?_
          refine z_s 737 hB_z dL_law_736 rfl rfl ?_
          rw [show nI (4 * t_z) + 2 = nI (4 * t_z + 2) from z_nij t_z 2]
          refine z_sld 738 hB_z hX hbl hbs dL_law_737 rfl (vp_in_nI (show 4 * t_z + 2 < n_z by omega) (by omega)) ?_
          rw [nI_clamp (by omega)]
          refine z_s 739 hB_z dL_law_738 rfl rfl ?_
          refine z_s 740 hB_z dL_law_739 rfl rfl ?_
          refine z_s 741 hB_z dL_law_740 rfl rfl ?_
          refine z_s 742 hB_z dL_law_741 rfl rfl ?_
          rw [show nI (4 * t_z) + 3 = nI (4 * t_z + 3) from z_nij t_z 3]
          refine z_sld 743 hB_z hX hbl hbs dL_law_742 rfl (vp_in_nI (show 4 * t_z + 3 < n_z by omega) (by omega)) ?_
          rw [nI_clamp (by omega)]
          refine z_callVL 746 hB_z hR0 kL_109 dL_law_743 rfl (N99 (zS := z_up zS I1) hN1) rfl (c_X10_dogs (zS := z_up zS I1) (d_z := 0) hN1 hR1 hO.1 hO.2.1.1) (by omega) rfl rfl (Nat.le_of_ble_eq_true rfl) ⟨Nat.le_of_ble_eq_true rfl, Nat.le_of_ble_eq_true rfl⟩ ?_
          rintro _ _ ⟨rfl, I2_z, rfl, hf2⟩
          have hB2 := hB1.m hf2
          refine z_b 749 843 hB_z dL_law_746 rfl rfl (by decide) (fun c_746 => ?_) (fun c_746 => ?_)
          ·
            refine z_s 846 hB_z dL_law_843 rfl rfl ?_
            refine z_j 18 hB_z dL_law_846 (by decide) ?_
            exact z_wkn (ih_z (by omega) _ _ hB2) ⟨rfl, rfl, rfl, congrArg (fun q_z => some (Value.int q_z)) (z_n44 t_z), trivial⟩
          ·
            exact absurd rfl c_746
        · refine z_tsw hB_z dL_law_32 751 (by decide) (by decide) ?_
          refine z_s 752 hB_z dL_law_751 rfl rfl ?_
          refine z_s 753 hB_z dL_law_752 rfl rfl ?_
          refine z_s 754 hB_z dL_law_753 rfl rfl ?_
          refine z_s 755 hB_z dL_law_754 rfl rfl ?_
          refine z_s 756 hB_z dL_law_755 rfl rfl ?_
          rw [show nI (4 * t_z) + 1 = nI (4 * t_z + 1) from z_nij t_z 1]
          refine z_sld 757 hB_z hX hbl hbs dL_law_756 rfl (vp_in_nI (show 4 * t_z + 1 < n_z by omega) (by omega)) ?_
          rw [nI_clamp (by omega)]
          refine z_s 758 hB_z dL_law_757 rfl rfl ?_
          refine z_s 759 hB_z dL_law_758 rfl rfl ?_
          refine z_s 760 hB_z dL_law_759 rfl rfl ?_
          refine z_s 761 hB_z dL_law_760 rfl rfl ?_
          rw [show nI (4 * t_z) + 2 = nI (4 * t_z + 2) from z_nij t_z 2]
          refine z_sld 762 hB_z hX hbl hbs dL_law_761 rfl (vp_in_nI (show 4 * t_z + 2 < n_z by omega) (by omega)) ?_
          rw [nI_clamp (by omega)]
          refine z_s 763 hB_z dL_law_762 rfl rfl ?_
          refine z_s 764 hB_z dL_law_763 rfl rfl ?_
          refine z_s 765 hB_z dL_law_764 rfl rfl ?_
          refine z_s 766 hB_z dL_law_765 rfl rfl ?_
          rw [show nI (4 * t_z) + 3 = nI (4 * t_z + 3) from z_nij t_z 3]
          refine z_sld 767 hB_z hX hbl hbs dL_law_766 rfl (vp_in_nI (show 4 * t_z + 3 < n_z by omega) (by omega)) ?_
          rw [nI_clamp (by omega)]
          refine z_callVL 770 hB_z hR0 kL_110 dL_law_767 rfl (L4_z (zS := zS) hC.1) rfl (c_X9_year (d_z := 0) hC) (by omega) rfl rfl (Nat.le_of_ble_eq_true rfl) ⟨Nat.le_of_ble_eq_true rfl, Nat.le_of_ble_eq_true rfl⟩ ?_
          rintro _ _ ⟨rfl, I1, rfl, hf1⟩
          have hB1 := hBO.q hf1
          obtain ⟨hC1, hN1, hR1, -⟩ := id hB1
          refine z_s 771 hB_z dL_law_770 rfl rfl ?_
          refine z_s 772 hB_z dL_law_771 rfl rfl ?_
          refine z_s 773 hB_z dL_law_772 rfl rfl ?_
          refine z_s 774 hB_z dL_law_773 rfl rfl ?_
          refine z_s 775 hB_z dL_law_774 rfl rfl ?_
          rw [show nI (4 * t_z) + 1 = nI (4 * t_z + 1) from z_nij t_z 1]
          refine z_sld 776 hB_z hX hbl hbs dL_law_775 rfl (vp_in_nI (show 4 * t_z + 1 < n_z by omega) (by omega)) ?_
          rw [nI_clamp (by omega)]
          refine z_s 777 hB_z dL_law_776 rfl rfl ?_
          refine z_s 778 hB_z dL_law_777 rfl rfl ?_
          refine z_s 779 hB_z dL_law_778 rfl rfl ?_
          refine z_s 780 hB_z dL_law_779 rfl rfl ?_
          rw [show nI (4 * t_z) + 2 = nI (4 * t_z + 2) from z_nij t_z 2]
          refine z_sld 781 hB_z hX hbl hbs dL_law_780 rfl (vp_in_nI (show 4 * t_z + 2 < n_z by omega) (by omega)) ?_
          rw [nI_clamp (by omega)]
          refine z_s 782 hB_z dL_law_781 rfl rfl ?_
          refine z_s 783 hB_z dL_law_782 rfl rfl ?_
          refine z_s 784 hB_z dL_law_783 rfl rfl ?_
          refine z_s 785 hB_z dL_law_784 rfl rfl ?_
          rw [show nI (4 * t_z) + 3 = nI (4 * t_z + 3) from z_nij t_z 3]
          refine z_sld 786 hB_z hX hbl hbs dL_law_785 rfl (vp_in_nI (show 4 * t_z + 3 < n_z by omega) (by omega)) ?_
          rw [nI_clamp (by omega)]
          refine z_callVL 789 hB_z hR0 kL_113 dL_law_786 rfl (N99 (zS := z_up zS I1) hN1) rfl (c_X10_year (zS := z_up zS I1) (d_z := 0) hN1 hR1 hO.1 hO.2.1.1) (by omega) rfl rfl (Nat.le_of_ble_eq_true rfl) ⟨Nat.le_of_ble_eq_true rfl, Nat.le_of_ble_eq_true rfl⟩ ?_
          rintro _ _ ⟨rfl, I2_z, rfl, hf2⟩
          have hB2 := hB1.m hf2
          refine z_b 792 843 hB_z dL_law_789 rfl rfl (by decide) (fun c_789 => ?_) (fun c_789 => ?_)
          ·
            refine z_s 846 hB_z dL_law_843 rfl rfl ?_
            refine z_j 18 hB_z dL_law_846 (by decide) ?_
            exact z_wkn (ih_z (by omega) _ _ hB2) ⟨rfl, rfl, rfl, congrArg (fun q_z => some (Value.int q_z)) (z_n44 t_z), trivial⟩
          ·
            exact absurd rfl c_789
        · refine z_tsw hB_z dL_law_32 794 (by decide) (by decide) ?_
          refine z_s 795 hB_z dL_law_794 rfl rfl ?_
          refine z_callVL 798 hB_z hR0 kL_114 dL_law_795 rfl (L4_z (zS := zS) hC.1) rfl (c_X9_keep (d_z := 0) hC) (by omega) rfl rfl (Nat.le_of_ble_eq_true rfl) ⟨Nat.le_of_ble_eq_true rfl, Nat.le_of_ble_eq_true rfl⟩ ?_
          rintro _ S1 ⟨rfl, hC1, hk1⟩
          obtain ⟨hN1, hR1⟩ := hBO.c hk1
          refine z_s 799 hB_z dL_law_798 rfl rfl ?_
          refine z_callVL 802 hB_z hR0 kL_117 dL_law_799 rfl (N99 (zS := S1) hN1) rfl (c_X10_keep (zS := S1) (d_z := 0) hN1 hR1 hz3) (by omega) rfl rfl (Nat.le_of_ble_eq_true rfl) ⟨Nat.le_of_ble_eq_true rfl, Nat.le_of_ble_eq_true rfl⟩ ?_
          rintro _ _ ⟨rfl, I2_z, rfl, hR2, hf2⟩
          have hB2 := z_BO.d hC1 hN1 hR2 hf2 hO.keep
          refine z_b 805 843 hB_z dL_law_802 rfl rfl (by decide) (fun c_802 => ?_) (fun c_802 => ?_)
          ·
            refine z_s 846 hB_z dL_law_843 rfl rfl ?_
            refine z_j 18 hB_z dL_law_846 (by decide) ?_
            exact z_wkn (ih_z (by omega) _ _ hB2) ⟨rfl, rfl, rfl, congrArg (fun q_z => some (Value.int q_z)) (z_n44 t_z), trivial⟩
          ·
            exact absurd rfl c_802
        · refine z_tsw hB_z dL_law_32 807 (by decide) (by decide) ?_
          refine z_s 808 hB_z dL_law_807 rfl rfl ?_
          refine z_callVL 811 hB_z hR0 kL_118 dL_law_808 rfl (L4_z (zS := zS) hC.1) rfl (c_X9_back (d_z := 0) hC) (by omega) rfl rfl (Nat.le_of_ble_eq_true rfl) ⟨Nat.le_of_ble_eq_true rfl, Nat.le_of_ble_eq_true rfl⟩ ?_
          rintro _ S1 ⟨rfl, hC1, hk1⟩
          obtain ⟨hN1, hR1⟩ := hBO.c hk1
          refine z_s 812 hB_z dL_law_811 rfl rfl ?_
          refine z_callVL 815 hB_z hR0 kL_121 dL_law_812 rfl (N99 (zS := S1) hN1) rfl (c_X10_back (zS := S1) (d_z := 0) hN1 hR1 hz3) (by omega) rfl rfl (Nat.le_of_ble_eq_true rfl) ⟨Nat.le_of_ble_eq_true rfl, Nat.le_of_ble_eq_true rfl⟩ ?_
          rintro _ _ ⟨rfl, I2_z, rfl, hR2, hf2⟩
          have hB2 := z_BO.d hC1 hN1 hR2 hf2 hO.back
          refine z_b 818 843 hB_z dL_law_815 rfl rfl (by decide) (fun c_815 => ?_) (fun c_815 => ?_)
          ·
            refine z_s 846 hB_z dL_law_843 rfl rfl ?_
            refine z_j 18 hB_z dL_law_846 (by decide) ?_
            exact z_wkn (ih_z (by omega) _ _ hB2) ⟨rfl, rfl, rfl, congrArg (fun q_z => some (Value.int q_z)) (z_n44 t_z), trivial⟩
          ·
            exact absurd rfl c_815
        · refine z_tsw hB_z dL_law_32 820 (by decide) (by decide) ?_
          refine z_s 821 hB_z dL_law_820 rfl rfl ?_
          refine z_s 822 hB_z dL_law_821 rfl rfl ?_
          refine z_s 823 hB_z dL_law_822 rfl rfl ?_
          refine z_s 824 hB_z dL_law_823 rfl rfl ?_
          refine z_s 825 hB_z dL_law_824 rfl rfl ?_
          rw [show nI (4 * t_z) + 1 = nI (4 * t_z + 1) from z_nij t_z 1]
          refine z_sld 826 hB_z hX hbl hbs dL_law_825 rfl (vp_in_nI (show 4 * t_z + 1 < n_z by omega) (by omega)) ?_
          rw [nI_clamp (by omega)]
          refine z_callVL 829 hB_z hR0 kL_122 dL_law_826 rfl (L4_z (zS := zS) hC.1) rfl (c_X9_count (d_z := 0) hC) (by omega) rfl rfl (Nat.le_of_ble_eq_true rfl) ⟨Nat.le_of_ble_eq_true rfl, Nat.le_of_ble_eq_true rfl⟩ ?_
          rintro _ _ ⟨rfl, I1, rfl, hf1⟩
          have hB1 := hBO.q hf1
          obtain ⟨hC1, hN1, hR1, -⟩ := id hB1
          refine z_s 830 hB_z dL_law_829 rfl rfl ?_
          refine z_s 831 hB_z dL_law_830 rfl rfl ?_
          refine z_s 832 hB_z dL_law_831 rfl rfl ?_
          refine z_s 833 hB_z dL_law_832 rfl rfl ?_
          refine z_s 834 hB_z dL_law_833 rfl rfl ?_
          rw [show nI (4 * t_z) + 1 = nI (4 * t_z + 1) from z_nij t_z 1]
          refine z_sld 835 hB_z hX hbl hbs dL_law_834 rfl (vp_in_nI (show 4 * t_z + 1 < n_z by omega) (by omega)) ?_
          rw [nI_clamp (by omega)]
          refine z_callVL 838 hB_z hR0 kL_125 dL_law_835 rfl (N99 (zS := z_up zS I1) hN1) rfl (c_X10_count (zS := z_up zS I1) (d_z := 0) hN1 hR1 hO.1 hO.2.1) (by omega) rfl rfl (Nat.le_of_ble_eq_true rfl) ⟨Nat.le_of_ble_eq_true rfl, Nat.le_of_ble_eq_true rfl⟩ ?_
          rintro _ _ ⟨rfl, I2_z, rfl, hf2⟩
          have hB2 := hB1.m hf2
          refine z_b 841 843 hB_z dL_law_838 rfl rfl (by decide) (fun c_838 => ?_) (fun c_838 => ?_)
          ·
            refine z_s 846 hB_z dL_law_843 rfl rfl ?_
            refine z_j 18 hB_z dL_law_846 (by decide) ?_
            exact z_wkn (ih_z (by omega) _ _ hB2) ⟨rfl, rfl, rfl, congrArg (fun q_z => some (Value.int q_z)) (z_n44 t_z), trivial⟩
          ·
            exact absurd rfl c_838
      · have ho : x_z.toInt < 0 ∨ 26 < x_z.toInt := z_tout (m_z := 26) (by decide) hw
        refine z_tsw hB_z dL_law_32 843 (by rw [if_pos ho]; decide) (fun q1_z q2_z => by rcases ho with h_z | h_z <;> omega) ?_
        refine z_s 846 hB_z dL_law_843 rfl rfl ?_
        refine z_j 18 hB_z dL_law_846 (by decide) ?_
        exact z_wkn (ih_z (by omega) _ _ hBO) ⟨rfl, rfl, rfl, congrArg (fun q_z => some (Value.int q_z)) (z_n44 t_z), trivial⟩)
