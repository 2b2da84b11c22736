/-! the model: an item of the letter q -/
set_option maxHeartbeats 4000000 in
theorem c_X10_isItem_q {g_z : z_U} {d_z : Nat} {zS : z_S} {q_z : (Nat → Int32) × Nat} {D_z : z_Dr} (hN_z : z_LM zS) (hx : z_I zS 99 0 = nI q_z.2) (h200 : q_z.2 ≤ 200) (hq : ∀ k_z, k_z < q_z.2 → z_I zS 100 k_z = q_z.1 k_z) {p_z : Nat} (hp : p_z < q_z.2) (hp2 : z_I zS 99 2 = nI p_z) (hD : z_rMD (z_I zS) D_z) (hn : D_z.1.2.1 ≤ 6) (hm_z : D_z.1.2.2.1 ≤ 10) (hQ : z_OQ D_z.2) (hq6 : z_qn D_z.2 ≤ 6) (hl : z_lt q_z p_z = 113) : z_C g_z (d_z + 3) 0 0 mX10_isItem [.ref 99] zS (z_IMP zS q_z D_z p_z) := by
  refine z_enter [some (.ref 99), none, none, none, none, none] rfl rfl (Nat.le_of_ble_eq_true rfl) rfl (fun zX hM_z => ?_)
  have hB_z : z_B g_z zX RX10 cX10_isItem 6 := hM_z.1
  refine z_s 1 hB_z dX10_isItem_0 rfl rfl ?_
  refine z_s 2 hB_z dX10_isItem_1 rfl rfl ?_
  refine z_getI 5 hB_z fX10_85 (N99 (zS := zS) hN_z) dX10_isItem_2 rfl rfl ?_
  rw [hp2]
  refine z_callV 8 hB_z hM_z.2.1 kX10_88 dX10_isItem_5 rfl (N99 (zS := zS) hN_z) rfl (c_X10_letterAt (d_z := 0) (q_z := q_z) hN_z hx h200 hq (p_z := p_z) (by omega)) (by omega) rfl rfl (Nat.le_of_ble_eq_true rfl) ⟨Nat.le_refl _, Nat.le_refl _⟩ ?_
  rintro _ _ ⟨rfl, rfl⟩
  rw [hl]
  refine z_s 9 hB_z dX10_isItem_8 rfl rfl ?_
  refine z_s 10 hB_z dX10_isItem_9 rfl rfl ?_
  refine z_s 12 hB_z dX10_isItem_10 rfl rfl ?_
  refine z_b 15 21 hB_z dX10_isItem_12 rfl rfl (by decide) (fun c_12 => ?_) (fun c_12 => ?_)
  ·
    exact absurd c_12 (by decide)
  ·
    refine z_s 16 hB_z dX10_isItem_15 rfl rfl ?_
    refine z_s 18 hB_z dX10_isItem_16 rfl rfl ?_
    refine z_b 21 25 hB_z dX10_isItem_18 rfl rfl (by decide) (fun c_18 => ?_) (fun c_18 => ?_)
    ·
      refine z_s 26 hB_z dX10_isItem_25 rfl rfl ?_
      refine z_s 28 hB_z dX10_isItem_26 rfl rfl ?_
      refine z_b 31 35 hB_z dX10_isItem_28 rfl rfl (by decide) (fun c_28 => ?_) (fun c_28 => ?_)
      ·
        exact absurd c_28 (by decide)
      ·
        refine z_s 32 hB_z dX10_isItem_31 rfl rfl ?_
        refine z_j 46 hB_z dX10_isItem_32 (by decide) ?_
        refine z_s 47 hB_z dX10_isItem_46 rfl rfl ?_
        refine z_s 48 hB_z dX10_isItem_47 rfl rfl ?_
        refine z_s 50 hB_z dX10_isItem_48 rfl rfl ?_
        refine z_b 53 70 hB_z dX10_isItem_50 rfl rfl (by decide) (fun c_50 => ?_) (fun c_50 => ?_)
        ·
          refine z_s 71 hB_z dX10_isItem_70 rfl rfl ?_
          refine z_s 73 hB_z dX10_isItem_71 rfl rfl ?_
          refine z_b 76 85 hB_z dX10_isItem_73 rfl rfl (by decide) (fun c_73 => ?_) (fun c_73 => ?_)
          ·
            refine z_s 86 hB_z dX10_isItem_85 rfl rfl ?_
            refine z_j 90 hB_z dX10_isItem_86 (by decide) ?_
            refine z_s 91 hB_z dX10_isItem_90 rfl rfl ?_
            refine z_s 92 hB_z dX10_isItem_91 rfl rfl ?_
            refine z_b 95 99 hB_z dX10_isItem_92 rfl rfl (by decide) (fun c_92 => ?_) (fun c_92 => ?_)
            ·
              exact absurd c_92 (by decide)
            ·
              refine z_s 96 hB_z dX10_isItem_95 rfl rfl ?_
              refine z_b 99 101 hB_z dX10_isItem_96 rfl rfl (by decide) (fun c_96 => ?_) (fun c_96 => ?_)
              ·
                refine z_s 102 hB_z dX10_isItem_101 rfl rfl ?_
                refine z_s 103 hB_z dX10_isItem_102 rfl rfl ?_
                refine z_getI 106 hB_z fX10_85 (N99 (zS := zS) hN_z) dX10_isItem_103 rfl rfl ?_
                rw [hp2]
                refine z_s 107 hB_z dX10_isItem_106 rfl rfl ?_
                refine z_s 108 hB_z dX10_isItem_107 rfl rfl ?_
                rw [z_inc]
                refine z_putI 111 hB_z fX10_85 (N99 (zS := zS) hN_z) dX10_isItem_108 rfl rfl rfl ?_
                have hJ0 : z_f2 (z_PIt D_z.1.2.1 D_z.1.2.2.1) (z_I zS) (z_u2 (z_I zS) 99 2 (nI (p_z + 1))) := z_f2.rf.u2 (Or.inl ⟨rfl, Or.inl rfl⟩)
                obtain ⟨p0_z, hp0⟩ : ∃ x_z, p_z + 1 = x_z := ⟨_, rfl⟩
                have hz0 : z_I (z_pI zS 99 2 (nI (p_z + 1))) 99 2 = nI p0_z := by rw [← hp0]; exact z_Ieq
                have hs0 : z_nms q_z 2 (p_z + 1) 0 = some (fun _ => 0, p0_z) := by rw [← hp0]; rfl
                have hle0 : p0_z ≤ q_z.2 := by omega
                refine z_s 112 hB_z dX10_isItem_111 rfl rfl ?_
                refine z_s 114 hB_z dX10_isItem_112 rfl rfl ?_
                refine z_s 115 hB_z dX10_isItem_114 rfl rfl ?_
                refine z_s 117 hB_z dX10_isItem_115 rfl rfl ?_
                refine z_s 119 hB_z dX10_isItem_117 rfl rfl ?_
                refine z_s 120 hB_z dX10_isItem_119 rfl rfl ?_
                refine z_b 123 234 hB_z dX10_isItem_120 rfl rfl (by decide) (fun c_120 => ?_) (fun c_120 => ?_)
                ·
                  exact absurd c_120 (by decide)
                ·
                  refine z_s 124 hB_z dX10_isItem_123 rfl rfl ?_
                  refine z_s 125 hB_z dX10_isItem_124 rfl rfl ?_
                  refine z_s 126 hB_z dX10_isItem_125 rfl rfl ?_
                  refine z_s 128 hB_z dX10_isItem_126 rfl rfl ?_
                  refine z_callV 131 hB_z hM_z.2.1 kX10_97 dX10_isItem_128 rfl (N99 (zS := zS) hN_z) rfl (c_X10_least (d_z := 0)) (by omega) rfl rfl (Nat.le_of_ble_eq_true rfl) ⟨Nat.le_refl _, Nat.le_refl _⟩ ?_
                  rintro _ _ ⟨rfl, rfl⟩
                  rw [show z_least 113 (0) = 0 from by decide]
                  refine z_s 132 hB_z dX10_isItem_131 rfl rfl ?_
                  refine z_s 133 hB_z dX10_isItem_132 rfl rfl ?_
                  refine z_s 135 hB_z dX10_isItem_133 rfl rfl ?_
                  refine z_callV 138 hB_z hM_z.2.1 kX10_101 dX10_isItem_135 rfl (N99 (zS := zS) hN_z) rfl (c_X10_most (zS := z_pI zS 99 2 (nI (p_z + 1))) (d_z := 0) hN_z (n_z := D_z.1.2.1) ((hJ0 99 4 (by unfold z_PIt; omega)).trans hD.1)) (by omega) rfl rfl (Nat.le_of_ble_eq_true rfl) ⟨Nat.le_refl _, Nat.le_refl _⟩ ?_
                  rintro _ _ ⟨rfl, rfl⟩
                  rw [show z_most D_z.1.2.1 113 (0) = nI D_z.1.2.1 - 1 from rfl]
                  refine z_s 140 hB_z dX10_isItem_138 rfl rfl ?_
                  refine z_s 141 hB_z dX10_isItem_140 rfl rfl ?_
                  refine z_s 142 hB_z dX10_isItem_141 rfl rfl ?_
                  refine z_s 143 hB_z dX10_isItem_142 rfl rfl ?_
                  refine z_b 146 151 hB_z dX10_isItem_143 rfl rfl (by decide) (fun c_143 => ?_) (fun c_143 => ?_)
                  ·
                    refine z_s 153 hB_z dX10_isItem_151 rfl rfl ?_
                    refine z_callV 156 hB_z hM_z.2.1 kX10_104 dX10_isItem_153 rfl (N99 (zS := zS) hN_z) rfl (c_X10_isNumber (zS := z_pI zS 99 2 (nI (p_z + 1))) (d_z := 0) (q_z := q_z) hN_z ((hJ0 99 0 (by unfold z_PIt; omega)).trans hx) h200 (fun k_z hk => (hJ0 100 k_z (by unfold z_PIt; omega)).trans (hq k_z hk)) (p_z := p0_z) hle0 hz0) (by omega) rfl rfl (Nat.le_of_ble_eq_true rfl) ⟨Nat.le_refl _, Nat.le_refl _⟩ ?_
                    rintro _ _ ⟨v0_z, rfl, I0_z, hI0, hg0, hv0⟩
                    subst hI0
                    refine z_b 159 161 hB_z dX10_isItem_156 rfl rfl (by decide) (fun c_156 => ?_) (fun c_156 => ?_)
                    ·
                      obtain ⟨-, ⟨ha0, hb0, hc0⟩, hd0, he0⟩ := hv0.resolve_left (fun z_z => c_156 z_z.1)
                      obtain ⟨y0, hy0⟩ : ∃ x_z, (z_num q_z p0_z).1 = x_z := ⟨_, rfl⟩
                      obtain ⟨p1_z, hpe0⟩ : ∃ x_z, (z_num q_z p0_z).2 + 1 = x_z := ⟨_, rfl⟩
                      have hs1 : z_nms q_z 2 (p_z + 1) (0 + 1) = some (fun k_z => if k_z = 0 then y0 else (fun _ => 0) k_z, p1_z) := by
                        rw [← hy0, ← hpe0]
                        exact z_nms_ok hs0 ha0 hc0
                      have hle1 := (z_nms_le (by omega) _ _ _ hs1).2
                      rw [hy0] at hd0 hb0 ha0
                      rw [hpe0] at he0
                      have hK0 : z_f2 (z_PIt D_z.1.2.1 D_z.1.2.2.1) (z_I zS) I0_z := hJ0.tr (hg0.mono (fun _ _ h_z => Or.inl h_z))
                      have hJ1 : z_f2 (z_PIt D_z.1.2.1 D_z.1.2.2.1) (z_I zS) I0_z := hK0
                      have hz1 : z_I (z_up (z_pI zS 99 2 (nI (p_z + 1))) I0_z) 99 2 = nI p1_z := he0
                      refine z_s 162 hB_z dX10_isItem_161 rfl rfl ?_
                      refine z_s 164 hB_z dX10_isItem_162 rfl rfl ?_
                      refine z_b 167 188 hB_z dX10_isItem_164 rfl rfl (by decide) (fun c_164 => ?_) (fun c_164 => ?_)
                      ·
                        refine z_s 189 hB_z dX10_isItem_188 rfl rfl ?_
                        refine z_s 191 hB_z dX10_isItem_189 rfl rfl ?_
                        refine z_b 194 212 hB_z dX10_isItem_191 rfl rfl (by decide) (fun c_191 => ?_) (fun c_191 => ?_)
                        ·
                          refine z_s 214 hB_z dX10_isItem_212 rfl rfl ?_
                          refine z_b 217 224 hB_z dX10_isItem_214 rfl rfl (by decide) (fun c_214 => ?_) (fun c_214 => ?_)
                          ·
                            exact absurd c_214 (by decide)
                          ·
                            refine z_s 218 hB_z dX10_isItem_217 rfl rfl ?_
                            refine z_getI 221 hB_z fX10_82 (N99 (zS := zS) hN_z) dX10_isItem_218 rfl rfl ?_
                            rw [show z_I (z_up (z_pI zS 99 2 (nI (p_z + 1))) I0_z) 99 3 = y0 from hd0]
                            refine z_j 226 hB_z dX10_isItem_221 (by decide) ?_
                            refine z_s 228 hB_z dX10_isItem_226 rfl rfl ?_
                            refine z_s 231 hB_z dX10_isItem_228 rfl rfl ?_
                            refine z_j 117 hB_z dX10_isItem_231 (by decide) ?_
                            refine z_s 119 hB_z dX10_isItem_117 rfl rfl ?_
                            refine z_s 120 hB_z dX10_isItem_119 rfl rfl ?_
                            refine z_b 123 234 hB_z dX10_isItem_120 rfl rfl (by decide) (fun c_120 => ?_) (fun c_120 => ?_)
                            ·
                              exact absurd c_120 (by decide)
                            ·
                              refine z_s 124 hB_z dX10_isItem_123 rfl rfl ?_
                              refine z_s 125 hB_z dX10_isItem_124 rfl rfl ?_
                              refine z_s 126 hB_z dX10_isItem_125 rfl rfl ?_
                              refine z_s 128 hB_z dX10_isItem_126 rfl rfl ?_
                              refine z_callV 131 hB_z hM_z.2.1 kX10_97 dX10_isItem_128 rfl (N99 (zS := zS) hN_z) rfl (c_X10_least (d_z := 0)) (by omega) rfl rfl (Nat.le_of_ble_eq_true rfl) ⟨Nat.le_refl _, Nat.le_refl _⟩ ?_
                              rintro _ _ ⟨rfl, rfl⟩
                              rw [show z_least 113 (0 + 1) = 0 from by decide]
                              refine z_s 132 hB_z dX10_isItem_131 rfl rfl ?_
                              refine z_s 133 hB_z dX10_isItem_132 rfl rfl ?_
                              refine z_s 135 hB_z dX10_isItem_133 rfl rfl ?_
                              refine z_callV 138 hB_z hM_z.2.1 kX10_101 dX10_isItem_135 rfl (N99 (zS := zS) hN_z) rfl (c_X10_most (zS := z_up (z_pI zS 99 2 (nI (p_z + 1))) I0_z) (d_z := 0) hN_z (n_z := D_z.1.2.1) ((hJ1 99 4 (by unfold z_PIt; omega)).trans hD.1)) (by omega) rfl rfl (Nat.le_of_ble_eq_true rfl) ⟨Nat.le_refl _, Nat.le_refl _⟩ ?_
                              rintro _ _ ⟨rfl, rfl⟩
                              rw [show z_most D_z.1.2.1 113 (0 + 1) = nI D_z.1.2.1 - 1 from rfl]
                              refine z_s 140 hB_z dX10_isItem_138 rfl rfl ?_
                              refine z_s 141 hB_z dX10_isItem_140 rfl rfl ?_
                              refine z_s 142 hB_z dX10_isItem_141 rfl rfl ?_
                              refine z_s 143 hB_z dX10_isItem_142 rfl rfl ?_
                              refine z_b 146 151 hB_z dX10_isItem_143 rfl rfl (by decide) (fun c_143 => ?_) (fun c_143 => ?_)
                              ·
                                exact absurd c_143 (by decide)
                              ·
                                refine z_s 148 hB_z dX10_isItem_146 rfl rfl ?_
                                refine z_j 153 hB_z dX10_isItem_148 (by decide) ?_
                                refine z_callV 156 hB_z hM_z.2.1 kX10_104 dX10_isItem_153 rfl (N99 (zS := zS) hN_z) rfl (c_X10_isNumber (zS := z_up (z_pI zS 99 2 (nI (p_z + 1))) I0_z) (d_z := 0) (q_z := q_z) hN_z ((hJ1 99 0 (by unfold z_PIt; omega)).trans hx) h200 (fun k_z hk => (hJ1 100 k_z (by unfold z_PIt; omega)).trans (hq k_z hk)) (p_z := p1_z) hle1 hz1) (by omega) rfl rfl (Nat.le_of_ble_eq_true rfl) ⟨Nat.le_refl _, Nat.le_refl _⟩ ?_
                                rintro _ _ ⟨v1_z, rfl, I1, hI1, hg1, hv1⟩
                                subst hI1
                                refine z_b 159 161 hB_z dX10_isItem_156 rfl rfl (by decide) (fun c_156 => ?_) (fun c_156 => ?_)
                                ·
                                  obtain ⟨-, ⟨ha1, hb1, hc1⟩, hd1, he1⟩ := hv1.resolve_left (fun z_z => c_156 z_z.1)
                                  obtain ⟨y1, hy1⟩ : ∃ x_z, (z_num q_z p1_z).1 = x_z := ⟨_, rfl⟩
                                  obtain ⟨p2_z, hpe1⟩ : ∃ x_z, (z_num q_z p1_z).2 + 1 = x_z := ⟨_, rfl⟩
                                  have hs2 : z_nms q_z 2 (p_z + 1) (1 + 1) = some (fun k_z => if k_z = 1 then y1 else (fun k_z => if k_z = 0 then y0 else (fun _ => 0) k_z) k_z, p2_z) := by
                                    rw [← hy1, ← hpe1]
                                    exact z_nms_ok hs1 ha1 hc1
                                  have hle2 := (z_nms_le (by omega) _ _ _ hs2).2
                                  rw [hy1] at hd1 hb1 ha1
                                  rw [hpe1] at he1
                                  have hK1 : z_f2 (z_PIt D_z.1.2.1 D_z.1.2.2.1) (z_I zS) I1 := hJ1.tr (hg1.mono (fun _ _ h_z => Or.inl h_z))
                                  have hJ2 : z_f2 (z_PIt D_z.1.2.1 D_z.1.2.2.1) (z_I zS) I1 := hK1
                                  have hz2 : z_I (z_up (z_up (z_pI zS 99 2 (nI (p_z + 1))) I0_z) I1) 99 2 = nI p2_z := he1
                                  refine z_s 162 hB_z dX10_isItem_161 rfl rfl ?_
                                  refine z_s 164 hB_z dX10_isItem_162 rfl rfl ?_
                                  refine z_b 167 188 hB_z dX10_isItem_164 rfl rfl (by decide) (fun c_164 => ?_) (fun c_164 => ?_)
                                  ·
                                    refine z_s 189 hB_z dX10_isItem_188 rfl rfl ?_
                                    refine z_s 191 hB_z dX10_isItem_189 rfl rfl ?_
                                    refine z_b 194 212 hB_z dX10_isItem_191 rfl rfl (by decide) (fun c_191 => ?_) (fun c_191 => ?_)
                                    ·
                                      refine z_s 214 hB_z dX10_isItem_212 rfl rfl ?_
                                      refine z_b 217 224 hB_z dX10_isItem_214 rfl rfl (by decide) (fun c_214 => ?_) (fun c_214 => ?_)
                                      ·
                                        refine z_s 226 hB_z dX10_isItem_224 rfl rfl ?_
                                        refine z_s 228 hB_z dX10_isItem_226 rfl rfl ?_
                                        refine z_s 231 hB_z dX10_isItem_228 rfl rfl ?_
                                        refine z_j 117 hB_z dX10_isItem_231 (by decide) ?_
                                        refine z_s 119 hB_z dX10_isItem_117 rfl rfl ?_
                                        refine z_s 120 hB_z dX10_isItem_119 rfl rfl ?_
                                        refine z_b 123 234 hB_z dX10_isItem_120 rfl rfl (by decide) (fun c_120 => ?_) (fun c_120 => ?_)
                                        ·
                                          refine z_s 235 hB_z dX10_isItem_234 rfl rfl ?_
                                          refine z_s 237 hB_z dX10_isItem_235 rfl rfl ?_
                                          refine z_b 240 295 hB_z dX10_isItem_237 rfl rfl (by decide) (fun c_237 => ?_) (fun c_237 => ?_)
                                          ·
                                            exact absurd c_237 (by decide)
                                          ·
                                            refine z_s 242 hB_z dX10_isItem_240 rfl rfl ?_
                                            refine z_s 243 hB_z dX10_isItem_242 rfl rfl ?_
                                            refine z_getI 246 hB_z fX10_82 (N99 (zS := zS) hN_z) dX10_isItem_243 rfl rfl ?_
                                            rw [show z_I (z_up (z_up (z_pI zS 99 2 (nI (p_z + 1))) I0_z) I1) 99 3 = y1 from hd1]
                                            refine z_b 249 279 hB_z dX10_isItem_246 rfl rfl (by decide) (fun c_246 => ?_) (fun c_246 => ?_)
                                            ·
                                              refine z_s 280 hB_z dX10_isItem_279 rfl rfl ?_
                                              refine z_zret hM_z dX10_isItem_280 rfl (by decide) ?_ rfl rfl
                                              exact ⟨0, rfl, I1, rfl, hJ2.mono z_PIt_sc, Or.inl ⟨rfl, (z_item_q hl).trans (z_itm_no2 hs2 (if_neg (fun z_z => z_z.1 c_246)))⟩⟩
                                            ·
                                              obtain ⟨a_z, ha_z, rfl⟩ := (z_lm1 (by omega) hb0).of (by omega)
                                              obtain ⟨b_z, hbn, rfl⟩ := (z_lm1 (by omega) hb1).of (by omega)
                                              have hab : a_z ≠ b_z := fun z_z => c_246 (by rw [z_z])
                                              have hrow : ∀ c_z, c_z < 6 → I1 103 (0 + c_z) = z_qr D_z.2 c_z 6 := fun c_z hc_z => by rw [Nat.zero_add]; exact (hJ2 103 c_z (by unfold z_PIt; omega)).trans (hD.2.2.2.2.2 c_z hc_z)
                                              refine z_s 250 hB_z dX10_isItem_249 rfl rfl ?_
                                              refine z_getR 253 hB_z fX10_19 (N99 (zS := zS) hN_z) dX10_isItem_250 rfl rfl (n99_9 (zS := zS) hN_z) ?_
                                              refine z_s 255 hB_z dX10_isItem_253 rfl rfl ?_
                                              refine z_ald 256 hB_z (N103 (zS := zS) hN_z) dX10_isItem_255 rfl (vp_in_nI (show a_z < 6 by omega) (by decide)) ?_
                                              rw [nI_clamp (by omega), show z_I (z_up (z_up (z_pI zS 99 2 (nI (p_z + 1))) I0_z) I1) 103 a_z = z_qr D_z.2 a_z 6 from (congrArg (I1 103) (Nat.zero_add a_z).symm).trans (hrow a_z (by omega))]
                                              refine z_s 257 hB_z dX10_isItem_256 rfl rfl ?_
                                              refine z_getI 260 hB_z fX10_82 (N99 (zS := zS) hN_z) dX10_isItem_257 rfl rfl ?_
                                              rw [show z_I (z_up (z_up (z_pI zS 99 2 (nI (p_z + 1))) I0_z) I1) 99 3 = nI b_z from hd1]
                                              refine z_callS 263 hB_z hM_z.2.1 kX10_107 dX10_isItem_260 rfl (c_X10_has (d_z := 0)) (by omega) rfl rfl (Nat.le_of_ble_eq_true rfl) ⟨Nat.le_refl _, Nat.le_refl _⟩ ?_
                                              rintro _ _ ⟨rfl, rfl⟩
                                              rw [show (if z_qr D_z.2 a_z 6 >>> (nI b_z &&& 31) &&& 1 = 1 then (1 : Int32) else 0) = if z_hb D_z.2 (z_pr a_z b_z) = true then 1 else 0 from by rw [z_qr_bit _ _ _ (by omega), z_qb_pr hab]; cases z_hb D_z.2 (z_pr a_z b_z) <;> rfl]
                                              refine z_b 266 281 hB_z dX10_isItem_263 rfl rfl (by decide) (fun c_263 => ?_) (fun c_263 => ?_)
                                              ·
                                                have hok := z_tkQ_ok (D_z := D_z) (f_z := fun k_z => if k_z = 1 then nI b_z else (fun k_z => if k_z = 0 then nI a_z else (fun _ => 0) k_z) k_z) rfl rfl ha_z hbn hn hab hQ hq6 (Or.inl (z_if1 c_263))
                                                refine z_s 282 hB_z dX10_isItem_281 rfl rfl ?_
                                                refine z_getR 285 hB_z fX10_19 (N99 (zS := zS) hN_z) dX10_isItem_282 rfl rfl (n99_9 (zS := zS) hN_z) ?_
                                                refine z_s 286 hB_z dX10_isItem_285 rfl rfl ?_
                                                refine z_s 288 hB_z dX10_isItem_286 rfl rfl ?_
                                                refine z_s 289 hB_z dX10_isItem_288 rfl rfl ?_
                                                refine z_getI 292 hB_z fX10_82 (N99 (zS := zS) hN_z) dX10_isItem_289 rfl rfl ?_
                                                rw [show z_I (z_up (z_up (z_pI zS 99 2 (nI (p_z + 1))) I0_z) I1) 99 3 = nI b_z from hd1]
                                                refine z_callS 295 hB_z hM_z.2.1 kX10_54 dX10_isItem_292 rfl (c_X10_turn (zS := z_up (z_up (z_pI zS 99 2 (nI (p_z + 1))) I0_z) I1) (d_z := 0) (f_z := 0) (a_z := a_z) (b_z := b_z) (N103 hN_z) (by omega) (by omega) (by decide)) (by omega) rfl rfl (Nat.le_of_ble_eq_true rfl) ⟨Nat.le_refl _, Nat.le_refl _⟩ ?_
                                                rintro _ _ ⟨rfl, rfl⟩
                                                have t9 : ∀ k_z, z_trn I1 103 0 a_z b_z 99 k_z = I1 99 k_z := fun k_z => (z_u2_ne (Or.inl (by decide))).trans (z_u2_ne (Or.inl (by decide)))
                                                refine z_s 296 hB_z dX10_isItem_295 rfl rfl ?_
                                                refine z_s 297 hB_z dX10_isItem_296 rfl rfl ?_
                                                refine z_getI 300 hB_z fX10_91 (N99 (zS := zS) hN_z) dX10_isItem_297 rfl rfl ?_
                                                rw [show z_I (z_up (z_up (z_up (z_pI zS 99 2 (nI (p_z + 1))) I0_z) I1) (z_trn (z_I (z_up (z_up (z_pI zS 99 2 (nI (p_z + 1))) I0_z) I1)) 103 0 a_z b_z)) 99 4 = nI D_z.1.2.1 from (t9 4).trans ((hJ2 99 4 (by unfold z_PIt; omega)).trans hD.1)]
                                                refine z_s 301 hB_z dX10_isItem_300 rfl rfl ?_
                                                refine z_s 303 hB_z dX10_isItem_301 rfl rfl ?_
                                                refine z_b 306 310 hB_z dX10_isItem_303 rfl rfl (by decide) (fun c_303 => ?_) (fun c_303 => ?_)
                                                ·
                                                  refine z_s 311 hB_z dX10_isItem_310 rfl rfl ?_
                                                  refine z_s 312 hB_z dX10_isItem_311 rfl rfl ?_
                                                  rw [z_add0]
                                                  refine z_putI 315 hB_z fX10_91 (N99 (zS := zS) hN_z) dX10_isItem_312 rfl rfl rfl ?_
                                                  refine z_s 316 hB_z dX10_isItem_315 rfl rfl ?_
                                                  refine z_s 317 hB_z dX10_isItem_316 rfl rfl ?_
                                                  refine z_getI 320 hB_z fX10_94 (N99 (zS := zS) hN_z) dX10_isItem_317 rfl rfl ?_
                                                  rw [show z_I (z_pI (z_up (z_up (z_up (z_pI zS 99 2 (nI (p_z + 1))) I0_z) I1) (z_trn (z_I (z_up (z_up (z_pI zS 99 2 (nI (p_z + 1))) I0_z) I1)) 103 0 a_z b_z)) 99 4 (nI D_z.1.2.1)) 99 5 = nI D_z.1.2.2.1 from (z_Ine (Or.inr (by decide))).trans ((t9 5).trans ((hJ2 99 5 (by unfold z_PIt; omega)).trans hD.2.1))]
                                                  refine z_s 321 hB_z dX10_isItem_320 rfl rfl ?_
                                                  refine z_s 323 hB_z dX10_isItem_321 rfl rfl ?_
                                                  refine z_b 326 330 hB_z dX10_isItem_323 rfl rfl (by decide) (fun c_323 => ?_) (fun c_323 => ?_)
                                                  ·
                                                    refine z_s 331 hB_z dX10_isItem_330 rfl rfl ?_
                                                    refine z_s 332 hB_z dX10_isItem_331 rfl rfl ?_
                                                    rw [z_add0]
                                                    refine z_putI 335 hB_z fX10_94 (N99 (zS := zS) hN_z) dX10_isItem_332 rfl rfl rfl ?_
                                                    refine z_s 336 hB_z dX10_isItem_335 rfl rfl ?_
                                                    refine z_s 337 hB_z dX10_isItem_336 rfl rfl ?_
                                                    refine z_s 339 hB_z dX10_isItem_337 rfl rfl ?_
                                                    refine z_b 342 349 hB_z dX10_isItem_339 rfl rfl (by decide) (fun c_339 => ?_) (fun c_339 => ?_)
                                                    ·
                                                      refine z_s 350 hB_z dX10_isItem_349 rfl rfl ?_
                                                      refine z_getI 353 hB_z fX10_115 (N99 (zS := zS) hN_z) dX10_isItem_350 rfl rfl ?_
                                                      rw [show z_I (z_pI (z_pI (z_up (z_up (z_up (z_pI zS 99 2 (nI (p_z + 1))) I0_z) I1) (z_trn (z_I (z_up (z_up (z_pI zS 99 2 (nI (p_z + 1))) I0_z) I1)) 103 0 a_z b_z)) 99 4 (nI D_z.1.2.1)) 99 5 (nI D_z.1.2.2.1)) 99 6 = D_z.1.2.2.2 from (z_Ine (Or.inr (by decide))).trans ((z_Ine (Or.inr (by decide))).trans ((t9 6).trans ((hJ2 99 6 (by unfold z_PIt; omega)).trans hD.2.2.1)))]
                                                      refine z_putI 356 hB_z fX10_115 (N99 (zS := zS) hN_z) dX10_isItem_353 rfl rfl rfl ?_
                                                      refine z_s 357 hB_z dX10_isItem_356 rfl rfl ?_
                                                      refine z_zret hM_z dX10_isItem_357 rfl (by decide) ?_ rfl rfl
                                                      exact ⟨1, rfl, z_u2 (z_u2 (z_u2 (z_trn I1 103 0 a_z b_z) 99 4 (nI D_z.1.2.1)) 99 5 (nI D_z.1.2.2.1)) 99 6 D_z.1.2.2.2, rfl, ((((by unfold z_trn; refine z_f2.u2 (z_f2.u2 (hJ2.mono z_PIt_sc) ?_) ?_ <;> exact (by unfold z_scM; omega)) : z_f2 z_scM (z_I zS) (z_trn I1 103 0 a_z b_z)).u2 (by unfold z_scM; omega)).u2 (by unfold z_scM; omega)).u2 (by unfold z_scM; omega), Or.inr ⟨rfl, _, p2_z, (z_item_q hl).trans (z_itm_so hs2 hok), hD.q hJ2 (by omega) (by omega) hab, (z_u2_ne (Or.inr (by decide))).trans ((z_u2_ne (Or.inr (by decide))).trans ((z_u2_ne (Or.inr (by decide))).trans ((t9 2).trans hz2)))⟩⟩
                                                    ·
                                                      exact absurd c_339 (by decide)
                                                  ·
                                                    exact absurd c_323 (by decide)
                                                ·
                                                  exact absurd c_303 (by decide)
                                              ·
                                                have hno := z_if0 c_263
                                                refine z_s 267 hB_z dX10_isItem_266 rfl rfl ?_
                                                refine z_getR 270 hB_z fX10_19 (N99 (zS := zS) hN_z) dX10_isItem_267 rfl rfl (n99_9 (zS := zS) hN_z) ?_
                                                refine z_s 271 hB_z dX10_isItem_270 rfl rfl ?_
                                                refine z_callS 274 hB_z hM_z.2.1 kX10_111 dX10_isItem_271 rfl (c_X10_quarrelsIn (zS := z_up (z_up (z_pI zS 99 2 (nI (p_z + 1))) I0_z) I1) (d_z := 0) (f_z := 0) (N103 hN_z) (by decide) (by decide)) (by omega) rfl rfl (Nat.le_of_ble_eq_true rfl) ⟨Nat.le_refl _, Nat.le_refl _⟩ ?_
                                                rintro _ _ ⟨rfl, rfl⟩
                                                rw [z_sb_qr (zI := z_I (z_up (z_up (z_pI zS 99 2 (nI (p_z + 1))) I0_z) I1)) (o := 103) (f_z := 0) (Q_z := D_z.2) hrow]
                                                refine z_s 276 hB_z dX10_isItem_274 rfl rfl ?_
                                                refine z_b 279 281 hB_z dX10_isItem_276 rfl rfl (by decide) (fun c_276 => ?_) (fun c_276 => ?_)
                                                ·
                                                  have hok := z_tkQ_ok (D_z := D_z) (f_z := fun k_z => if k_z = 1 then nI b_z else (fun k_z => if k_z = 0 then nI a_z else (fun _ => 0) k_z) k_z) rfl rfl ha_z hbn hn hab hQ hq6 (Or.inr (fun z_z => c_276 (by rw [z_z]; rfl)))
                                                  refine z_s 282 hB_z dX10_isItem_281 rfl rfl ?_
                                                  refine z_getR 285 hB_z fX10_19 (N99 (zS := zS) hN_z) dX10_isItem_282 rfl rfl (n99_9 (zS := zS) hN_z) ?_
                                                  refine z_s 286 hB_z dX10_isItem_285 rfl rfl ?_
                                                  refine z_s 288 hB_z dX10_isItem_286 rfl rfl ?_
                                                  refine z_s 289 hB_z dX10_isItem_288 rfl rfl ?_
                                                  refine z_getI 292 hB_z fX10_82 (N99 (zS := zS) hN_z) dX10_isItem_289 rfl rfl ?_
                                                  rw [show z_I (z_up (z_up (z_pI zS 99 2 (nI (p_z + 1))) I0_z) I1) 99 3 = nI b_z from hd1]
                                                  refine z_callS 295 hB_z hM_z.2.1 kX10_54 dX10_isItem_292 rfl (c_X10_turn (zS := z_up (z_up (z_pI zS 99 2 (nI (p_z + 1))) I0_z) I1) (d_z := 0) (f_z := 0) (a_z := a_z) (b_z := b_z) (N103 hN_z) (by omega) (by omega) (by decide)) (by omega) rfl rfl (Nat.le_of_ble_eq_true rfl) ⟨Nat.le_refl _, Nat.le_refl _⟩ ?_
                                                  rintro _ _ ⟨rfl, rfl⟩
                                                  have t9 : ∀ k_z, z_trn I1 103 0 a_z b_z 99 k_z = I1 99 k_z := fun k_z => (z_u2_ne (Or.inl (by decide))).trans (z_u2_ne (Or.inl (by decide)))
                                                  refine z_s 296 hB_z dX10_isItem_295 rfl rfl ?_
                                                  refine z_s 297 hB_z dX10_isItem_296 rfl rfl ?_
                                                  refine z_getI 300 hB_z fX10_91 (N99 (zS := zS) hN_z) dX10_isItem_297 rfl rfl ?_
                                                  rw [show z_I (z_up (z_up (z_up (z_pI zS 99 2 (nI (p_z + 1))) I0_z) I1) (z_trn (z_I (z_up (z_up (z_pI zS 99 2 (nI (p_z + 1))) I0_z) I1)) 103 0 a_z b_z)) 99 4 = nI D_z.1.2.1 from (t9 4).trans ((hJ2 99 4 (by unfold z_PIt; omega)).trans hD.1)]
                                                  refine z_s 301 hB_z dX10_isItem_300 rfl rfl ?_
                                                  refine z_s 303 hB_z dX10_isItem_301 rfl rfl ?_
                                                  refine z_b 306 310 hB_z dX10_isItem_303 rfl rfl (by decide) (fun c_303 => ?_) (fun c_303 => ?_)
                                                  ·
                                                    refine z_s 311 hB_z dX10_isItem_310 rfl rfl ?_
                                                    refine z_s 312 hB_z dX10_isItem_311 rfl rfl ?_
                                                    rw [z_add0]
                                                    refine z_putI 315 hB_z fX10_91 (N99 (zS := zS) hN_z) dX10_isItem_312 rfl rfl rfl ?_
                                                    refine z_s 316 hB_z dX10_isItem_315 rfl rfl ?_
                                                    refine z_s 317 hB_z dX10_isItem_316 rfl rfl ?_
                                                    refine z_getI 320 hB_z fX10_94 (N99 (zS := zS) hN_z) dX10_isItem_317 rfl rfl ?_
                                                    rw [show z_I (z_pI (z_up (z_up (z_up (z_pI zS 99 2 (nI (p_z + 1))) I0_z) I1) (z_trn (z_I (z_up (z_up (z_pI zS 99 2 (nI (p_z + 1))) I0_z) I1)) 103 0 a_z b_z)) 99 4 (nI D_z.1.2.1)) 99 5 = nI D_z.1.2.2.1 from (z_Ine (Or.inr (by decide))).trans ((t9 5).trans ((hJ2 99 5 (by unfold z_PIt; omega)).trans hD.2.1))]
                                                    refine z_s 321 hB_z dX10_isItem_320 rfl rfl ?_
                                                    refine z_s 323 hB_z dX10_isItem_321 rfl rfl ?_
                                                    refine z_b 326 330 hB_z dX10_isItem_323 rfl rfl (by decide) (fun c_323 => ?_) (fun c_323 => ?_)
                                                    ·
                                                      refine z_s 331 hB_z dX10_isItem_330 rfl rfl ?_
                                                      refine z_s 332 hB_z dX10_isItem_331 rfl rfl ?_
                                                      rw [z_add0]
                                                      refine z_putI 335 hB_z fX10_94 (N99 (zS := zS) hN_z) dX10_isItem_332 rfl rfl rfl ?_
                                                      refine z_s 336 hB_z dX10_isItem_335 rfl rfl ?_
                                                      refine z_s 337 hB_z dX10_isItem_336 rfl rfl ?_
                                                      refine z_s 339 hB_z dX10_isItem_337 rfl rfl ?_
                                                      refine z_b 342 349 hB_z dX10_isItem_339 rfl rfl (by decide) (fun c_339 => ?_) (fun c_339 => ?_)
                                                      ·
                                                        refine z_s 350 hB_z dX10_isItem_349 rfl rfl ?_
                                                        refine z_getI 353 hB_z fX10_115 (N99 (zS := zS) hN_z) dX10_isItem_350 rfl rfl ?_
                                                        rw [show z_I (z_pI (z_pI (z_up (z_up (z_up (z_pI zS 99 2 (nI (p_z + 1))) I0_z) I1) (z_trn (z_I (z_up (z_up (z_pI zS 99 2 (nI (p_z + 1))) I0_z) I1)) 103 0 a_z b_z)) 99 4 (nI D_z.1.2.1)) 99 5 (nI D_z.1.2.2.1)) 99 6 = D_z.1.2.2.2 from (z_Ine (Or.inr (by decide))).trans ((z_Ine (Or.inr (by decide))).trans ((t9 6).trans ((hJ2 99 6 (by unfold z_PIt; omega)).trans hD.2.2.1)))]
                                                        refine z_putI 356 hB_z fX10_115 (N99 (zS := zS) hN_z) dX10_isItem_353 rfl rfl rfl ?_
                                                        refine z_s 357 hB_z dX10_isItem_356 rfl rfl ?_
                                                        refine z_zret hM_z dX10_isItem_357 rfl (by decide) ?_ rfl rfl
                                                        exact ⟨1, rfl, z_u2 (z_u2 (z_u2 (z_trn I1 103 0 a_z b_z) 99 4 (nI D_z.1.2.1)) 99 5 (nI D_z.1.2.2.1)) 99 6 D_z.1.2.2.2, rfl, ((((by unfold z_trn; refine z_f2.u2 (z_f2.u2 (hJ2.mono z_PIt_sc) ?_) ?_ <;> exact (by unfold z_scM; omega)) : z_f2 z_scM (z_I zS) (z_trn I1 103 0 a_z b_z)).u2 (by unfold z_scM; omega)).u2 (by unfold z_scM; omega)).u2 (by unfold z_scM; omega), Or.inr ⟨rfl, _, p2_z, (z_item_q hl).trans (z_itm_so hs2 hok), hD.q hJ2 (by omega) (by omega) hab, (z_u2_ne (Or.inr (by decide))).trans ((z_u2_ne (Or.inr (by decide))).trans ((z_u2_ne (Or.inr (by decide))).trans ((t9 2).trans hz2)))⟩⟩
                                                      ·
                                                        exact absurd c_339 (by decide)
                                                    ·
                                                      exact absurd c_323 (by decide)
                                                  ·
                                                    exact absurd c_303 (by decide)
                                                ·
                                                  have hok := z_tkQ_no (D_z := D_z) (f_z := fun k_z => if k_z = 1 then nI b_z else (fun k_z => if k_z = 0 then nI a_z else (fun _ => 0) k_z) k_z) rfl rfl ha_z hbn hn hab hQ hno (z_nI_inj (by omega) (by decide) (show nI (z_qn D_z.2) = nI 6 from c_276))
                                                  refine z_s 280 hB_z dX10_isItem_279 rfl rfl ?_
                                                  refine z_zret hM_z dX10_isItem_280 rfl (by decide) ?_ rfl rfl
                                                  exact ⟨0, rfl, I1, rfl, hJ2.mono z_PIt_sc, Or.inl ⟨rfl, (z_item_q hl).trans (z_itm_no2 hs2 hok)⟩⟩
                                        ·
                                          exact absurd c_120 (by decide)
                                      ·
                                        exact absurd c_214 (by decide)
                                    ·
                                      exact absurd c_191 (by decide)
                                  ·
                                    exact absurd c_164 (by decide)
                                ·
                                  refine z_s 160 hB_z dX10_isItem_159 rfl rfl ?_
                                  refine z_zret hM_z dX10_isItem_160 rfl (by decide) ?_ rfl rfl
                                  exact ⟨0, rfl, I1, rfl, (hJ1.tr (hg1.mono (fun _ _ h_z => Or.inl h_z))).mono z_PIt_sc, Or.inl ⟨rfl, (z_item_q hl).trans (z_it_fail hs1 (by decide) (fun f_z h1 h2 => z_tkQ_ge (Or.inr (fun z_z => h2 (z_lm2 (by omega) ⟨z_ge0 h1, z_z⟩)))) (fun z_z => (hv1.resolve_right (fun y_z => absurd (y_z.1.symm.trans c_156) (by decide))).2 z_z))⟩⟩
                        ·
                          exact absurd c_191 (by decide)
                      ·
                        exact absurd c_164 (by decide)
                    ·
                      refine z_s 160 hB_z dX10_isItem_159 rfl rfl ?_
                      refine z_zret hM_z dX10_isItem_160 rfl (by decide) ?_ rfl rfl
                      exact ⟨0, rfl, I0_z, rfl, (hJ0.tr (hg0.mono (fun _ _ h_z => Or.inl h_z))).mono z_PIt_sc, Or.inl ⟨rfl, (z_item_q hl).trans (z_it_fail hs0 (by decide) (fun f_z h1 h2 => z_tkQ_ge (Or.inl (fun z_z => h2 (z_lm2 (by omega) ⟨z_ge0 h1, z_z⟩)))) (fun z_z => (hv0.resolve_right (fun y_z => absurd (y_z.1.symm.trans c_156) (by decide))).2 z_z))⟩⟩
                  ·
                    exact absurd c_143 (by decide)
              ·
                exact absurd c_96 (by decide)
          ·
            exact absurd c_73 (by decide)
        ·
          exact absurd c_50 (by decide)
    ·
      exact absurd c_18 (by decide)
