/-! the model: an item of the letter h -/
set_option maxHeartbeats 4000000 in
theorem c_X10_isItem_h {g_z : z_U} {d_z : Nat} {zS : z_S} {q_z : (Nat → Int32) × Nat} {D_z : z_Dr} (hN_z : z_LM zS) (hx : z_I zS 99 0 = nI q_z.2) (h200 : q_z.2 ≤ 200) (hq : ∀ k_z, k_z < q_z.2 → z_I zS 100 k_z = q_z.1 k_z) {p_z : Nat} (hp : p_z < q_z.2) (hp2 : z_I zS 99 2 = nI p_z) (hD : z_rMD (z_I zS) D_z) (hn : D_z.1.2.1 ≤ 6) (hm_z : D_z.1.2.2.1 ≤ 10) (hQ : z_OQ D_z.2) (hq6 : z_qn D_z.2 ≤ 6) (hl : z_lt q_z p_z = 104) : z_C g_z (d_z + 3) 0 0 mX10_isItem [.ref 99] zS (z_IMP zS q_z D_z p_z) := by
  refine z_enter [some (.ref 99), none, none, none, none, none] rfl rfl (Nat.le_of_ble_eq_true rfl) rfl (fun zX hM_z => ?_)
  have hB_z : z_B g_z zX RX10 cX10_isItem 6 := hM_z.1
  refine z_s 1 hB_z dX10_isItem_0 rfl rfl ?_
  refine z_s 2 hB_z dX10_isItem_1 rfl rfl ?_
  refine z_getI 5 hB_z fX10_85 (N99 (zS := zS) hN_z) dX10_isItem_2 rfl rfl ?_
  rw [hp2]
  refine z_callV 8 hB_z hM_z.2.1 kX10_88 dX10_isItem_5 rfl (N99 (zS := zS) hN_z) rfl (c_X10_letterAt (d_z := 0) (q_z := q_z) hN_z hx h200 hq (p_z := p_z) (by omega)) (by omega) rfl rfl (Nat.le_of_ble_eq_true rfl) ⟨Nat.le_refl _, Nat.le_refl _⟩ ?_
  rintro _ _ ⟨rfl, rfl⟩
  rw [hl]
  refine z_s 9 hB_z dX10_isItem_8 rfl rfl ?_
  refine z_s 10 hB_z dX10_isItem_9 rfl rfl ?_
  refine z_s 12 hB_z dX10_isItem_10 rfl rfl ?_
  refine z_b 15 21 hB_z dX10_isItem_12 rfl rfl (by decide) (fun c_12 => ?_) (fun c_12 => ?_)
  ·
    exact absurd c_12 (by decide)
  ·
    refine z_s 16 hB_z dX10_isItem_15 rfl rfl ?_
    refine z_s 18 hB_z dX10_isItem_16 rfl rfl ?_
    refine z_b 21 25 hB_z dX10_isItem_18 rfl rfl (by decide) (fun c_18 => ?_) (fun c_18 => ?_)
    ·
      refine z_s 26 hB_z dX10_isItem_25 rfl rfl ?_
      refine z_s 28 hB_z dX10_isItem_26 rfl rfl ?_
      refine z_b 31 35 hB_z dX10_isItem_28 rfl rfl (by decide) (fun c_28 => ?_) (fun c_28 => ?_)
      ·
        refine z_s 36 hB_z dX10_isItem_35 rfl rfl ?_
        refine z_s 38 hB_z dX10_isItem_36 rfl rfl ?_
        refine z_b 41 45 hB_z dX10_isItem_38 rfl rfl (by decide) (fun c_38 => ?_) (fun c_38 => ?_)
        ·
          exact absurd c_38 (by decide)
        ·
          refine z_s 42 hB_z dX10_isItem_41 rfl rfl ?_
          refine z_j 46 hB_z dX10_isItem_42 (by decide) ?_
          refine z_s 47 hB_z dX10_isItem_46 rfl rfl ?_
          refine z_s 48 hB_z dX10_isItem_47 rfl rfl ?_
          refine z_s 50 hB_z dX10_isItem_48 rfl rfl ?_
          refine z_b 53 70 hB_z dX10_isItem_50 rfl rfl (by decide) (fun c_50 => ?_) (fun c_50 => ?_)
          ·
            refine z_s 71 hB_z dX10_isItem_70 rfl rfl ?_
            refine z_s 73 hB_z dX10_isItem_71 rfl rfl ?_
            refine z_b 76 85 hB_z dX10_isItem_73 rfl rfl (by decide) (fun c_73 => ?_) (fun c_73 => ?_)
            ·
              refine z_s 86 hB_z dX10_isItem_85 rfl rfl ?_
              refine z_j 90 hB_z dX10_isItem_86 (by decide) ?_
              refine z_s 91 hB_z dX10_isItem_90 rfl rfl ?_
              refine z_s 92 hB_z dX10_isItem_91 rfl rfl ?_
              refine z_b 95 99 hB_z dX10_isItem_92 rfl rfl (by decide) (fun c_92 => ?_) (fun c_92 => ?_)
              ·
                exact absurd c_92 (by decide)
              ·
                refine z_s 96 hB_z dX10_isItem_95 rfl rfl ?_
                refine z_b 99 101 hB_z dX10_isItem_96 rfl rfl (by decide) (fun c_96 => ?_) (fun c_96 => ?_)
                ·
                  refine z_s 102 hB_z dX10_isItem_101 rfl rfl ?_
                  refine z_s 103 hB_z dX10_isItem_102 rfl rfl ?_
                  refine z_getI 106 hB_z fX10_85 (N99 (zS := zS) hN_z) dX10_isItem_103 rfl rfl ?_
                  rw [hp2]
                  refine z_s 107 hB_z dX10_isItem_106 rfl rfl ?_
                  refine z_s 108 hB_z dX10_isItem_107 rfl rfl ?_
                  rw [z_inc]
                  refine z_putI 111 hB_z fX10_85 (N99 (zS := zS) hN_z) dX10_isItem_108 rfl rfl rfl ?_
                  have hJ0 : z_f2 (z_PIt D_z.1.2.1 D_z.1.2.2.1) (z_I zS) (z_u2 (z_I zS) 99 2 (nI (p_z + 1))) := z_f2.rf.u2 (Or.inl ⟨rfl, Or.inl rfl⟩)
                  obtain ⟨p0_z, hp0⟩ : ∃ x_z, p_z + 1 = x_z := ⟨_, rfl⟩
                  have hz0 : z_I (z_pI zS 99 2 (nI (p_z + 1))) 99 2 = nI p0_z := by rw [← hp0]; exact z_Ieq
                  have hs0 : z_nms q_z 1 (p_z + 1) 0 = some (fun _ => 0, p0_z) := by rw [← hp0]; rfl
                  have hle0 : p0_z ≤ q_z.2 := by omega
                  refine z_s 112 hB_z dX10_isItem_111 rfl rfl ?_
                  refine z_s 114 hB_z dX10_isItem_112 rfl rfl ?_
                  refine z_s 115 hB_z dX10_isItem_114 rfl rfl ?_
                  refine z_s 117 hB_z dX10_isItem_115 rfl rfl ?_
                  refine z_s 119 hB_z dX10_isItem_117 rfl rfl ?_
                  refine z_s 120 hB_z dX10_isItem_119 rfl rfl ?_
                  refine z_b 123 234 hB_z dX10_isItem_120 rfl rfl (by decide) (fun c_120 => ?_) (fun c_120 => ?_)
                  ·
                    exact absurd c_120 (by decide)
                  ·
                    refine z_s 124 hB_z dX10_isItem_123 rfl rfl ?_
                    refine z_s 125 hB_z dX10_isItem_124 rfl rfl ?_
                    refine z_s 126 hB_z dX10_isItem_125 rfl rfl ?_
                    refine z_s 128 hB_z dX10_isItem_126 rfl rfl ?_
                    refine z_callV 131 hB_z hM_z.2.1 kX10_97 dX10_isItem_128 rfl (N99 (zS := zS) hN_z) rfl (c_X10_least (d_z := 0)) (by omega) rfl rfl (Nat.le_of_ble_eq_true rfl) ⟨Nat.le_refl _, Nat.le_refl _⟩ ?_
                    rintro _ _ ⟨rfl, rfl⟩
                    rw [show z_least 104 (0) = 1 from by decide]
                    refine z_s 132 hB_z dX10_isItem_131 rfl rfl ?_
                    refine z_s 133 hB_z dX10_isItem_132 rfl rfl ?_
                    refine z_s 135 hB_z dX10_isItem_133 rfl rfl ?_
                    refine z_callV 138 hB_z hM_z.2.1 kX10_101 dX10_isItem_135 rfl (N99 (zS := zS) hN_z) rfl (c_X10_most (zS := z_pI zS 99 2 (nI (p_z + 1))) (d_z := 0) hN_z (n_z := D_z.1.2.1) ((hJ0 99 4 (by unfold z_PIt; omega)).trans hD.1)) (by omega) rfl rfl (Nat.le_of_ble_eq_true rfl) ⟨Nat.le_refl _, Nat.le_refl _⟩ ?_
                    rintro _ _ ⟨rfl, rfl⟩
                    rw [show z_most D_z.1.2.1 104 (0) = 10 from rfl]
                    refine z_s 140 hB_z dX10_isItem_138 rfl rfl ?_
                    refine z_s 141 hB_z dX10_isItem_140 rfl rfl ?_
                    refine z_s 142 hB_z dX10_isItem_141 rfl rfl ?_
                    refine z_s 143 hB_z dX10_isItem_142 rfl rfl ?_
                    refine z_b 146 151 hB_z dX10_isItem_143 rfl rfl (by decide) (fun c_143 => ?_) (fun c_143 => ?_)
                    ·
                      exact absurd c_143 (by decide)
                    ·
                      refine z_s 148 hB_z dX10_isItem_146 rfl rfl ?_
                      refine z_j 153 hB_z dX10_isItem_148 (by decide) ?_
                      refine z_callV 156 hB_z hM_z.2.1 kX10_104 dX10_isItem_153 rfl (N99 (zS := zS) hN_z) rfl (c_X10_isNumber (zS := z_pI zS 99 2 (nI (p_z + 1))) (d_z := 0) (q_z := q_z) hN_z ((hJ0 99 0 (by unfold z_PIt; omega)).trans hx) h200 (fun k_z hk => (hJ0 100 k_z (by unfold z_PIt; omega)).trans (hq k_z hk)) (p_z := p0_z) hle0 hz0) (by omega) rfl rfl (Nat.le_of_ble_eq_true rfl) ⟨Nat.le_refl _, Nat.le_refl _⟩ ?_
                      rintro _ _ ⟨v0_z, rfl, I0_z, hI0, hg0, hv0⟩
                      subst hI0
                      refine z_b 159 161 hB_z dX10_isItem_156 rfl rfl (by decide) (fun c_156 => ?_) (fun c_156 => ?_)
                      ·
                        obtain ⟨-, ⟨ha0, hb0, hc0⟩, hd0, he0⟩ := hv0.resolve_left (fun z_z => c_156 z_z.1)
                        obtain ⟨y0, hy0⟩ : ∃ x_z, (z_num q_z p0_z).1 = x_z := ⟨_, rfl⟩
                        obtain ⟨p1_z, hpe0⟩ : ∃ x_z, (z_num q_z p0_z).2 + 1 = x_z := ⟨_, rfl⟩
                        have hs1 : z_nms q_z 1 (p_z + 1) (0 + 1) = some (fun k_z => if k_z = 0 then y0 else (fun _ => 0) k_z, p1_z) := by
                          rw [← hy0, ← hpe0]
                          exact z_nms_ok hs0 ha0 hc0
                        have hle1 := (z_nms_le (by omega) _ _ _ hs1).2
                        rw [hy0] at hd0 hb0 ha0
                        rw [hpe0] at he0
                        have hK0 : z_f2 (z_PIt D_z.1.2.1 D_z.1.2.2.1) (z_I zS) I0_z := hJ0.tr (hg0.mono (fun _ _ h_z => Or.inl h_z))
                        have hJ1 : z_f2 (z_PIt D_z.1.2.1 D_z.1.2.2.1) (z_I zS) I0_z := hK0
                        have hz1 : z_I (z_up (z_pI zS 99 2 (nI (p_z + 1))) I0_z) 99 2 = nI p1_z := he0
                        refine z_s 162 hB_z dX10_isItem_161 rfl rfl ?_
                        refine z_s 164 hB_z dX10_isItem_162 rfl rfl ?_
                        refine z_b 167 188 hB_z dX10_isItem_164 rfl rfl (by decide) (fun c_164 => ?_) (fun c_164 => ?_)
                        ·
                          refine z_s 189 hB_z dX10_isItem_188 rfl rfl ?_
                          refine z_s 191 hB_z dX10_isItem_189 rfl rfl ?_
                          refine z_b 194 212 hB_z dX10_isItem_191 rfl rfl (by decide) (fun c_191 => ?_) (fun c_191 => ?_)
                          ·
                            refine z_s 214 hB_z dX10_isItem_212 rfl rfl ?_
                            refine z_b 217 224 hB_z dX10_isItem_214 rfl rfl (by decide) (fun c_214 => ?_) (fun c_214 => ?_)
                            ·
                              exact absurd c_214 (by decide)
                            ·
                              refine z_s 218 hB_z dX10_isItem_217 rfl rfl ?_
                              refine z_getI 221 hB_z fX10_82 (N99 (zS := zS) hN_z) dX10_isItem_218 rfl rfl ?_
                              rw [show z_I (z_up (z_pI zS 99 2 (nI (p_z + 1))) I0_z) 99 3 = y0 from hd0]
                              refine z_j 226 hB_z dX10_isItem_221 (by decide) ?_
                              refine z_s 228 hB_z dX10_isItem_226 rfl rfl ?_
                              refine z_s 231 hB_z dX10_isItem_228 rfl rfl ?_
                              refine z_j 117 hB_z dX10_isItem_231 (by decide) ?_
                              refine z_s 119 hB_z dX10_isItem_117 rfl rfl ?_
                              refine z_s 120 hB_z dX10_isItem_119 rfl rfl ?_
                              refine z_b 123 234 hB_z dX10_isItem_120 rfl rfl (by decide) (fun c_120 => ?_) (fun c_120 => ?_)
                              ·
                                refine z_s 235 hB_z dX10_isItem_234 rfl rfl ?_
                                refine z_s 237 hB_z dX10_isItem_235 rfl rfl ?_
                                refine z_b 240 295 hB_z dX10_isItem_237 rfl rfl (by decide) (fun c_237 => ?_) (fun c_237 => ?_)
                                ·
                                  refine z_s 296 hB_z dX10_isItem_295 rfl rfl ?_
                                  refine z_s 297 hB_z dX10_isItem_296 rfl rfl ?_
                                  refine z_getI 300 hB_z fX10_91 (N99 (zS := zS) hN_z) dX10_isItem_297 rfl rfl ?_
                                  rw [show z_I (z_up (z_pI zS 99 2 (nI (p_z + 1))) I0_z) 99 4 = nI D_z.1.2.1 from (hJ1 99 4 (by unfold z_PIt; omega)).trans hD.1]
                                  refine z_s 301 hB_z dX10_isItem_300 rfl rfl ?_
                                  refine z_s 303 hB_z dX10_isItem_301 rfl rfl ?_
                                  refine z_b 306 310 hB_z dX10_isItem_303 rfl rfl (by decide) (fun c_303 => ?_) (fun c_303 => ?_)
                                  ·
                                    refine z_s 311 hB_z dX10_isItem_310 rfl rfl ?_
                                    refine z_s 312 hB_z dX10_isItem_311 rfl rfl ?_
                                    rw [z_add0]
                                    refine z_putI 315 hB_z fX10_91 (N99 (zS := zS) hN_z) dX10_isItem_312 rfl rfl rfl ?_
                                    refine z_s 316 hB_z dX10_isItem_315 rfl rfl ?_
                                    refine z_s 317 hB_z dX10_isItem_316 rfl rfl ?_
                                    refine z_getI 320 hB_z fX10_94 (N99 (zS := zS) hN_z) dX10_isItem_317 rfl rfl ?_
                                    rw [show z_I (z_pI (z_up (z_pI zS 99 2 (nI (p_z + 1))) I0_z) 99 4 (nI D_z.1.2.1)) 99 5 = nI D_z.1.2.2.1 from (z_Ine (Or.inr (by decide))).trans ((hJ1 99 5 (by unfold z_PIt; omega)).trans hD.2.1)]
                                    refine z_s 321 hB_z dX10_isItem_320 rfl rfl ?_
                                    refine z_s 323 hB_z dX10_isItem_321 rfl rfl ?_
                                    refine z_b 326 330 hB_z dX10_isItem_323 rfl rfl (by decide) (fun c_323 => ?_) (fun c_323 => ?_)
                                    ·
                                      refine z_s 331 hB_z dX10_isItem_330 rfl rfl ?_
                                      refine z_s 332 hB_z dX10_isItem_331 rfl rfl ?_
                                      rw [z_add0]
                                      refine z_putI 335 hB_z fX10_94 (N99 (zS := zS) hN_z) dX10_isItem_332 rfl rfl rfl ?_
                                      refine z_s 336 hB_z dX10_isItem_335 rfl rfl ?_
                                      refine z_s 337 hB_z dX10_isItem_336 rfl rfl ?_
                                      refine z_s 339 hB_z dX10_isItem_337 rfl rfl ?_
                                      refine z_b 342 349 hB_z dX10_isItem_339 rfl rfl (by decide) (fun c_339 => ?_) (fun c_339 => ?_)
                                      ·
                                        exact absurd c_339 (by decide)
                                      ·
                                        refine z_s 343 hB_z dX10_isItem_342 rfl rfl ?_
                                        refine z_getI 346 hB_z fX10_82 (N99 (zS := zS) hN_z) dX10_isItem_343 rfl rfl ?_
                                        rw [show z_I (z_pI (z_pI (z_up (z_pI zS 99 2 (nI (p_z + 1))) I0_z) 99 4 (nI D_z.1.2.1)) 99 5 (nI D_z.1.2.2.1)) 99 3 = y0 from (z_Ine (Or.inr (by decide))).trans ((z_Ine (Or.inr (by decide))).trans hd0)]
                                        refine z_j 353 hB_z dX10_isItem_346 (by decide) ?_
                                        refine z_putI 356 hB_z fX10_115 (N99 (zS := zS) hN_z) dX10_isItem_353 rfl rfl rfl ?_
                                        refine z_s 357 hB_z dX10_isItem_356 rfl rfl ?_
                                        refine z_zret hM_z dX10_isItem_357 rfl (by decide) ?_ rfl rfl
                                        exact ⟨1, rfl, z_u2 (z_u2 (z_u2 (I0_z) 99 4 (nI D_z.1.2.1)) 99 5 (nI D_z.1.2.2.1)) 99 6 y0, rfl, ((((hJ1.mono z_PIt_sc).u2 (by unfold z_scM; omega)).u2 (by unfold z_scM; omega)).u2 (by unfold z_scM; omega)), Or.inr ⟨rfl, _, p1_z, (z_item_h hl).trans (z_itm_so hs1 (if_pos hb0)), hD.h hJ1, (z_u2_ne (Or.inr (by decide))).trans ((z_u2_ne (Or.inr (by decide))).trans ((z_u2_ne (Or.inr (by decide))).trans hz1))⟩⟩
                                    ·
                                      exact absurd c_323 (by decide)
                                  ·
                                    exact absurd c_303 (by decide)
                                ·
                                  exact absurd c_237 (by decide)
                              ·
                                exact absurd c_120 (by decide)
                          ·
                            exact absurd c_191 (by decide)
                        ·
                          exact absurd c_164 (by decide)
                      ·
                        refine z_s 160 hB_z dX10_isItem_159 rfl rfl ?_
                        refine z_zret hM_z dX10_isItem_160 rfl (by decide) ?_ rfl rfl
                        exact ⟨0, rfl, I0_z, rfl, (hJ0.tr (hg0.mono (fun _ _ h_z => Or.inl h_z))).mono z_PIt_sc, Or.inl ⟨rfl, (z_item_h hl).trans (z_it_fail hs0 (by decide) (fun f_z h1 h2 => if_neg (fun z_z => h2 z_z)) (fun z_z => (hv0.resolve_right (fun y_z => absurd (y_z.1.symm.trans c_156) (by decide))).2 z_z))⟩⟩
                ·
                  exact absurd c_96 (by decide)
            ·
              exact absurd c_73 (by decide)
          ·
            exact absurd c_50 (by decide)
      ·
        exact absurd c_28 (by decide)
    ·
      exact absurd c_18 (by decide)
