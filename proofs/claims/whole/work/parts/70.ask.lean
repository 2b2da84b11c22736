/-! the model: law, ask, year -/
theorem z_al0 {q_z : z_Q4} {s_z e_z o : Int32} {k_z : Nat} (h_z : ¬ z_alw q_z s_z e_z o k_z = true) : (0 : Int32) = if z_alw q_z s_z e_z o (k_z + 1) = true then 1 else 0 := z_bie (fun z_z => h_z (Bool.and_eq_true_iff.mp z_z).1)
theorem z_al1 {q_z : z_Q4} {s_z e_z o : Int32} {k_z : Nat} (h_z : z_alw q_z s_z e_z o k_z = true) (hb_z : z_bad1 q_z s_z e_z o k_z = false) : (1 : Int32) = if z_alw q_z s_z e_z o (k_z + 1) = true then 1 else 0 := z_bif (Bool.and_eq_true_iff.mpr ⟨h_z, by rw [hb_z]; rfl⟩)
theorem z_al2 {q_z : z_Q4} {s_z e_z o : Int32} {k_z : Nat} (hb_z : z_bad1 q_z s_z e_z o k_z = true) : (0 : Int32) = if z_alw q_z s_z e_z o (k_z + 1) = true then 1 else 0 := z_bie (fun z_z => by
  have h2 := (Bool.and_eq_true_iff.mp z_z).2
  rw [hb_z] at h2
  cases h2)
theorem z_bd {q_z : z_Q4} {s_z e_z o : Int32} {k_z : Nat} (he : 1 ≤ e_z) (hs : q_z.1 k_z = s_z) {a_z b_z : Bool} (h1 : decide (q_z.2.1 k_z - q_z.2.1 k_z / e_z * e_z = o) = a_z) (h2 : decide (q_z.2.2.1 k_z = 1) = b_z) : z_bad1 q_z s_z e_z o k_z = (a_z != b_z) := by
  unfold z_bad1
  rw [z_mod1 he, h1, h2, decide_eq_true hs]
  rfl
theorem z_bd0 {q_z : z_Q4} {s_z e_z o : Int32} {k_z : Nat} (hs : ¬ q_z.1 k_z = s_z) : z_bad1 q_z s_z e_z o k_z = false := by
  unfold z_bad1
  rw [decide_eq_false hs]
  rfl
set_option maxHeartbeats 2000000 in
theorem c_X10_law {g_z : z_U} {d_z : Nat} {zS : z_S} {A_z : z_Ab} (hN_z : z_LM zS) (hR : z_RM (z_I zS) A_z) (hn6 : (z_AV A_z).2.1 ≤ 6) (h8 : (z_AS A_z).2.2.2 ≤ 8) {s_z what : Int32} : z_C g_z (d_z + 2) 0 0 mX10_law [.ref 99, .int s_z, .int what] zS (z_MQ zS (z_ansLaw A_z s_z what)) := by
  refine z_enter [some (.ref 99), some (.int s_z), some (.int what), none, none, none, none, none, none] rfl rfl (Nat.le_of_ble_eq_true rfl) rfl (fun zX hM_z => ?_)
  have hB_z : z_B g_z zX RX10 cX10_law 9 := hM_z.1
  have loop := fun (hw : (0 ≤ s_z ∧ s_z < nI (z_AV A_z).2.1) ∧ 0 ≤ what ∧ what ≤ 1) => z_loop (fun e_z => z_W g_z zX 28 [some (.ref 99), some (.int s_z), some (.int what), some (.int (z_lwo (z_AS A_z) s_z e_z).1), some (.int (z_lwo (z_AS A_z) s_z e_z).2), some (.int (nI (e_z + 1))), none, none, none] [] 0 0 zS) 10 (fun e_z he ihe => by
    refine z_s 30 hB_z dX10_law_28 rfl rfl ?_
    refine z_s 32 hB_z dX10_law_30 rfl rfl ?_
    refine z_b 35 187 hB_z dX10_law_32 rfl rfl (by decide) (fun c_32 => ?_) (fun c_32 => ?_)
    ·
      have hje : e_z = 10 := by
        have := (nI_ltI (by omega) (by omega)).mp (show nI 10 < nI (e_z + 1) from c_32)
        omega
      subst hje
      refine z_s 188 hB_z dX10_law_187 rfl rfl ?_
      refine z_b 191 195 hB_z dX10_law_188 rfl rfl (by decide) (fun c_188 => ?_) (fun c_188 => ?_)
      ·
        refine z_s 197 hB_z dX10_law_195 rfl rfl ?_
        refine z_iret hM_z dX10_law_197 rfl ?_ rfl rfl
        exact z_MQ.rf (by unfold z_ansLaw; rw [if_pos hw, if_neg c_188])
      ·
        refine z_s 192 hB_z dX10_law_191 rfl rfl ?_
        refine z_j 197 hB_z dX10_law_192 (by decide) ?_
        refine z_iret hM_z dX10_law_197 rfl ?_ rfl rfl
        exact z_MQ.rf (by unfold z_ansLaw; rw [if_pos hw, if_pos c_188])
    ·
      have hje : e_z < 10 := by
        have := (nI_leI (by omega) (by omega)).mp (show nI (e_z + 1) ≤ nI 10 from c_32)
        omega
      have he1 : 1 ≤ nI (e_z + 1) := (nI_leI (show 1 < 2 ^ 31 by decide) (by omega)).mpr (by omega)
      refine z_s 36 hB_z dX10_law_35 rfl rfl ?_
      refine z_s 38 hB_z dX10_law_36 rfl rfl ?_
      exact z_wkn (z_loop (fun f_z => z_W g_z zX 38 [some (.ref 99), some (.int s_z), some (.int what), some (.int (z_lwi (z_AS A_z) s_z (e_z + 1) (z_lwo (z_AS A_z) s_z e_z) f_z).1), some (.int (z_lwi (z_AS A_z) s_z (e_z + 1) (z_lwo (z_AS A_z) s_z e_z) f_z).2), some (.int (nI (e_z + 1))), some (.int (nI f_z)), none, none] [] 0 0 zS) (e_z + 1) (fun f_z hf ihf => by
            refine z_s 40 hB_z dX10_law_38 rfl rfl ?_
            refine z_s 42 hB_z dX10_law_40 rfl rfl ?_
            refine z_b 45 181 hB_z dX10_law_42 rfl rfl (by decide) (fun c_42 => ?_) (fun c_42 => ?_)
            ·
              have hof : f_z = e_z + 1 := by
                have := (nI_leI (by omega) (by omega)).mp (show nI (e_z + 1) ≤ nI f_z from c_42)
                omega
              subst hof
              refine z_s 184 hB_z dX10_law_181 rfl rfl ?_
              refine z_j 28 hB_z dX10_law_184 (by decide) ?_
              exact z_wkn (ihe hje) ⟨rfl, rfl, rfl, rfl, rfl, congrArg (fun q_z => some (Value.int q_z)) (z_inc (e_z + 1)), trivial⟩
            ·
              have hof : f_z < e_z + 1 := (nI_ltI (by omega) (by omega)).mp (show nI f_z < nI (e_z + 1) from c_42)
              have t138 : z_W g_z zX 138 [some (.ref 99), some (.int s_z), some (.int what), some (.int (z_lwi (z_AS A_z) s_z (e_z + 1) (z_lwo (z_AS A_z) s_z e_z) f_z).1), some (.int (z_lwi (z_AS A_z) s_z (e_z + 1) (z_lwo (z_AS A_z) s_z e_z) f_z).2), some (.int (nI (e_z + 1))), some (.int (nI f_z)), some (.int (if z_alw (z_AS A_z) s_z (nI (e_z + 1)) (nI f_z) (z_AS A_z).2.2.2 = true then 1 else 0)), none] [] 0 0 zS := by
                refine z_s 140 hB_z dX10_law_138 rfl rfl ?_
                refine z_b 143 158 hB_z dX10_law_140 rfl rfl (by decide) (fun c_140 => ?_) (fun c_140 => ?_)
                ·
                  refine z_s 160 hB_z dX10_law_158 rfl rfl ?_
                  refine z_s 162 hB_z dX10_law_160 rfl rfl ?_
                  refine z_s 163 hB_z dX10_law_162 rfl rfl ?_
                  refine z_s 165 hB_z dX10_law_163 rfl rfl ?_
                  refine z_b 168 172 hB_z dX10_law_165 rfl rfl (by decide) (fun c_165 => ?_) (fun c_165 => ?_)
                  ·
                    refine z_s 173 hB_z dX10_law_172 rfl rfl ?_
                    refine z_s 174 hB_z dX10_law_173 rfl rfl ?_
                    rw [z_add0]
                    refine z_s 175 hB_z dX10_law_174 rfl rfl ?_
                    refine z_s 178 hB_z dX10_law_175 rfl rfl ?_
                    refine z_j 38 hB_z dX10_law_178 (by decide) ?_
                    have e1_z : z_lwi (z_AS A_z) s_z (e_z + 1) (z_lwo (z_AS A_z) s_z e_z) (f_z + 1) = ((z_lwi (z_AS A_z) s_z (e_z + 1) (z_lwo (z_AS A_z) s_z e_z) f_z).1, (z_lwi (z_AS A_z) s_z (e_z + 1) (z_lwo (z_AS A_z) s_z e_z) f_z).2) := (if_neg (fun z_z => by rw [z_z] at c_140; exact absurd c_140 (by decide)))
                    have ih2 := ihf hof
                    rw [e1_z] at ih2
                    exact z_wkn ih2 ⟨rfl, rfl, rfl, rfl, rfl, rfl, congrArg (fun q_z => some (Value.int q_z)) (z_inc f_z), trivial⟩
                  ·
                    exact absurd c_140 c_165
                ·
                  refine z_s 144 hB_z dX10_law_143 rfl rfl ?_
                  refine z_b 147 158 hB_z dX10_law_144 rfl rfl (by decide) (fun c_144 => ?_) (fun c_144 => ?_)
                  ·
                    refine z_s 160 hB_z dX10_law_158 rfl rfl ?_
                    refine z_s 162 hB_z dX10_law_160 rfl rfl ?_
                    refine z_s 163 hB_z dX10_law_162 rfl rfl ?_
                    refine z_s 165 hB_z dX10_law_163 rfl rfl ?_
                    refine z_b 168 172 hB_z dX10_law_165 rfl rfl (by decide) (fun c_165 => ?_) (fun c_165 => ?_)
                    ·
                      exact absurd c_165 c_140
                    ·
                      refine z_s 169 hB_z dX10_law_168 rfl rfl ?_
                      refine z_j 173 hB_z dX10_law_169 (by decide) ?_
                      refine z_s 174 hB_z dX10_law_173 rfl rfl ?_
                      refine z_s 175 hB_z dX10_law_174 rfl rfl ?_
                      refine z_s 178 hB_z dX10_law_175 rfl rfl ?_
                      refine z_j 38 hB_z dX10_law_178 (by decide) ?_
                      have e1_z : z_lwi (z_AS A_z) s_z (e_z + 1) (z_lwo (z_AS A_z) s_z e_z) (f_z + 1) = ((z_lwi (z_AS A_z) s_z (e_z + 1) (z_lwo (z_AS A_z) s_z e_z) f_z).1 + 1, (z_lwi (z_AS A_z) s_z (e_z + 1) (z_lwo (z_AS A_z) s_z e_z) f_z).2) := (if_pos (z_if1 c_140)).trans (by rw [if_neg c_144])
                      have ih2 := ihf hof
                      rw [e1_z] at ih2
                      exact z_wkn ih2 ⟨rfl, rfl, rfl, rfl, rfl, rfl, congrArg (fun q_z => some (Value.int q_z)) (z_inc f_z), trivial⟩
                  ·
                    refine z_s 149 hB_z dX10_law_147 rfl rfl ?_
                    refine z_s 151 hB_z dX10_law_149 rfl rfl ?_
                    refine z_s 152 hB_z dX10_law_151 rfl rfl ?_
                    refine z_s 154 hB_z dX10_law_152 rfl rfl ?_
                    refine z_s 155 hB_z dX10_law_154 rfl rfl ?_
                    refine z_j 160 hB_z dX10_law_155 (by decide) ?_
                    refine z_s 162 hB_z dX10_law_160 rfl rfl ?_
                    refine z_s 163 hB_z dX10_law_162 rfl rfl ?_
                    refine z_s 165 hB_z dX10_law_163 rfl rfl ?_
                    refine z_b 168 172 hB_z dX10_law_165 rfl rfl (by decide) (fun c_165 => ?_) (fun c_165 => ?_)
                    ·
                      exact absurd c_165 c_140
                    ·
                      refine z_s 169 hB_z dX10_law_168 rfl rfl ?_
                      refine z_j 173 hB_z dX10_law_169 (by decide) ?_
                      refine z_s 174 hB_z dX10_law_173 rfl rfl ?_
                      refine z_s 175 hB_z dX10_law_174 rfl rfl ?_
                      refine z_s 178 hB_z dX10_law_175 rfl rfl ?_
                      refine z_j 38 hB_z dX10_law_178 (by decide) ?_
                      have e1_z : z_lwi (z_AS A_z) s_z (e_z + 1) (z_lwo (z_AS A_z) s_z e_z) (f_z + 1) = ((z_lwi (z_AS A_z) s_z (e_z + 1) (z_lwo (z_AS A_z) s_z e_z) f_z).1 + 1, 10 * nI (e_z + 1) + nI f_z) := (if_pos (z_if1 c_140)).trans (by rw [if_pos c_144])
                      have ih2 := ihf hof
                      rw [e1_z] at ih2
                      exact z_wkn ih2 ⟨rfl, rfl, rfl, rfl, rfl, rfl, congrArg (fun q_z => some (Value.int q_z)) (z_inc f_z), trivial⟩
              have inner := z_loop (fun k_z => z_W g_z zX 51 [some (.ref 99), some (.int s_z), some (.int what), some (.int (z_lwi (z_AS A_z) s_z (e_z + 1) (z_lwo (z_AS A_z) s_z e_z) f_z).1), some (.int (z_lwi (z_AS A_z) s_z (e_z + 1) (z_lwo (z_AS A_z) s_z e_z) f_z).2), some (.int (nI (e_z + 1))), some (.int (nI f_z)), some (.int (if z_alw (z_AS A_z) s_z (nI (e_z + 1)) (nI f_z) k_z = true then 1 else 0)), some (.int (nI k_z))] [] 0 0 zS) (z_AS A_z).2.2.2 (fun k_z hk ihk => by
                refine z_s 53 hB_z dX10_law_51 rfl rfl ?_
                refine z_s 54 hB_z dX10_law_53 rfl rfl ?_
                refine z_getI 57 hB_z fX10_130 (N99 (zS := zS) hN_z) dX10_law_54 rfl rfl ?_
                rw [hR.el]
                refine z_b 60 138 hB_z dX10_law_57 rfl rfl (by decide) (fun c_57 => ?_) (fun c_57 => ?_)
                ·
                  have hks : k_z = (z_AS A_z).2.2.2 := by
                    have := (nI_leI (by omega) (by omega)).mp c_57
                    omega
                  subst hks
                  exact z_wkn (t138) ⟨rfl, rfl, rfl, rfl, rfl, rfl, rfl, rfl, trivial⟩
                ·
                  have hks : k_z < (z_AS A_z).2.2.2 := (nI_ltI (by omega) (by omega)).mp c_57
                  refine z_s 62 hB_z dX10_law_60 rfl rfl ?_
                  refine z_b 65 129 hB_z dX10_law_62 rfl rfl (by decide) (fun c_62 => ?_) (fun c_62 => ?_)
                  ·
                    have hal := (fun z_z => by rw [z_z] at c_62; exact absurd c_62 (by decide) : ¬ z_alw (z_AS A_z) s_z (nI (e_z + 1)) (nI f_z) k_z = true)
                    refine z_s 130 hB_z dX10_law_129 rfl rfl ?_
                    refine z_s 132 hB_z dX10_law_130 rfl rfl ?_
                    refine z_s 135 hB_z dX10_law_132 rfl rfl ?_
                    refine z_j 51 hB_z dX10_law_135 (by decide) ?_
                    exact z_wkn (ihk hks) ⟨rfl, rfl, rfl, rfl, rfl, rfl, rfl, congrArg (fun q_z => some (Value.int q_z)) (show (0 : Int32) = (if z_alw (z_AS A_z) s_z (nI (e_z + 1)) (nI f_z) (k_z + 1) = true then 1 else 0) from z_al0 hal), congrArg (fun q_z => some (Value.int q_z)) (z_inc k_z), trivial⟩
                  ·
                    have hal := z_if1 c_62
                    refine z_s 66 hB_z dX10_law_65 rfl rfl ?_
                    refine z_getR 69 hB_z fX10_40 (N99 (zS := zS) hN_z) dX10_law_66 rfl rfl (n99_22 (zS := zS) hN_z) ?_
                    refine z_s 70 hB_z dX10_law_69 rfl rfl ?_
                    refine z_s 72 hB_z dX10_law_70 rfl rfl ?_
                    refine z_s 73 hB_z dX10_law_72 rfl rfl ?_
                    rw [z_n3 _ (by omega)]
                    refine z_ald 74 hB_z (N110 (zS := zS) hN_z) dX10_law_73 rfl (vp_in_nI (show 3 * k_z + 0 < 24 by omega) (by decide)) ?_
                    rw [nI_clamp (by omega), show z_I zS 110 (3 * k_z) = (z_AS A_z).1 k_z from (hR.es k_z hks).1]
                    refine z_s 75 hB_z dX10_law_74 rfl rfl ?_
                    refine z_b 78 125 hB_z dX10_law_75 rfl rfl (by decide) (fun c_75 => ?_) (fun c_75 => ?_)
                    ·
                      refine z_s 126 hB_z dX10_law_125 rfl rfl ?_
                      refine z_j 130 hB_z dX10_law_126 (by decide) ?_
                      refine z_s 132 hB_z dX10_law_130 rfl rfl ?_
                      refine z_s 135 hB_z dX10_law_132 rfl rfl ?_
                      refine z_j 51 hB_z dX10_law_135 (by decide) ?_
                      exact z_wkn (ihk hks) ⟨rfl, rfl, rfl, rfl, rfl, rfl, rfl, congrArg (fun q_z => some (Value.int q_z)) (show (1 : Int32) = (if z_alw (z_AS A_z) s_z (nI (e_z + 1)) (nI f_z) (k_z + 1) = true then 1 else 0) from z_al1 hal (z_bd0 c_75)), congrArg (fun q_z => some (Value.int q_z)) (z_inc k_z), trivial⟩
                    ·
                      refine z_s 79 hB_z dX10_law_78 rfl rfl ?_
                      refine z_getR 82 hB_z fX10_40 (N99 (zS := zS) hN_z) dX10_law_79 rfl rfl (n99_22 (zS := zS) hN_z) ?_
                      refine z_s 83 hB_z dX10_law_82 rfl rfl ?_
                      refine z_s 85 hB_z dX10_law_83 rfl rfl ?_
                      refine z_s 86 hB_z dX10_law_85 rfl rfl ?_
                      refine z_s 87 hB_z dX10_law_86 rfl rfl ?_
                      refine z_s 88 hB_z dX10_law_87 rfl rfl ?_
                      rw [z_n3 _ (by omega), show nI (3 * k_z) + 1 = nI (3 * k_z + 1) from z_n3b _ 1]
                      refine z_ald 89 hB_z (N110 (zS := zS) hN_z) dX10_law_88 rfl (vp_in_nI (show 3 * k_z + 1 < 24 by omega) (by decide)) ?_
                      rw [nI_clamp (by omega), show z_I zS 110 (3 * k_z + 1) = (z_AS A_z).2.1 k_z from (hR.es k_z hks).2.1]
                      refine z_s 91 hB_z dX10_law_89 rfl rfl ?_
                      refine z_irem 92 hB_z dX10_law_91 rfl (z_ne1 he1) ?_
                      refine z_s 94 hB_z dX10_law_92 rfl rfl ?_
                      refine z_b 97 101 hB_z dX10_law_94 rfl rfl (by decide) (fun c_94 => ?_) (fun c_94 => ?_)
                      ·
                        refine z_s 102 hB_z dX10_law_101 rfl rfl ?_
                        refine z_s 103 hB_z dX10_law_102 rfl rfl ?_
                        refine z_getR 106 hB_z fX10_40 (N99 (zS := zS) hN_z) dX10_law_103 rfl rfl (n99_22 (zS := zS) hN_z) ?_
                        refine z_s 107 hB_z dX10_law_106 rfl rfl ?_
                        refine z_s 109 hB_z dX10_law_107 rfl rfl ?_
                        refine z_s 110 hB_z dX10_law_109 rfl rfl ?_
                        refine z_s 111 hB_z dX10_law_110 rfl rfl ?_
                        refine z_s 112 hB_z dX10_law_111 rfl rfl ?_
                        rw [z_n3 _ (by omega), show nI (3 * k_z) + 2 = nI (3 * k_z + 2) from z_n3b _ 2]
                        refine z_ald 113 hB_z (N110 (zS := zS) hN_z) dX10_law_112 rfl (vp_in_nI (show 3 * k_z + 2 < 24 by omega) (by decide)) ?_
                        rw [nI_clamp (by omega), show z_I zS 110 (3 * k_z + 2) = (z_AS A_z).2.2.1 k_z from (hR.es k_z hks).2.2]
                        refine z_s 114 hB_z dX10_law_113 rfl rfl ?_
                        refine z_b 117 121 hB_z dX10_law_114 rfl rfl (by decide) (fun c_114 => ?_) (fun c_114 => ?_)
                        ·
                          refine z_s 122 hB_z dX10_law_121 rfl rfl ?_
                          refine z_b 125 129 hB_z dX10_law_122 rfl rfl (by decide) (fun c_122 => ?_) (fun c_122 => ?_)
                          ·
                            exact absurd rfl c_122
                          ·
                            refine z_s 126 hB_z dX10_law_125 rfl rfl ?_
                            refine z_j 130 hB_z dX10_law_126 (by decide) ?_
                            refine z_s 132 hB_z dX10_law_130 rfl rfl ?_
                            refine z_s 135 hB_z dX10_law_132 rfl rfl ?_
                            refine z_j 51 hB_z dX10_law_135 (by decide) ?_
                            exact z_wkn (ihk hks) ⟨rfl, rfl, rfl, rfl, rfl, rfl, rfl, congrArg (fun q_z => some (Value.int q_z)) (show (1 : Int32) = (if z_alw (z_AS A_z) s_z (nI (e_z + 1)) (nI f_z) (k_z + 1) = true then 1 else 0) from z_al1 hal (z_bd he1 c_75 (decide_eq_false c_94) (decide_eq_false c_114))), congrArg (fun q_z => some (Value.int q_z)) (z_inc k_z), trivial⟩
                        ·
                          refine z_s 118 hB_z dX10_law_117 rfl rfl ?_
                          refine z_j 122 hB_z dX10_law_118 (by decide) ?_
                          refine z_b 125 129 hB_z dX10_law_122 rfl rfl (by decide) (fun c_122 => ?_) (fun c_122 => ?_)
                          ·
                            refine z_s 130 hB_z dX10_law_129 rfl rfl ?_
                            refine z_s 132 hB_z dX10_law_130 rfl rfl ?_
                            refine z_s 135 hB_z dX10_law_132 rfl rfl ?_
                            refine z_j 51 hB_z dX10_law_135 (by decide) ?_
                            exact z_wkn (ihk hks) ⟨rfl, rfl, rfl, rfl, rfl, rfl, rfl, congrArg (fun q_z => some (Value.int q_z)) (show (0 : Int32) = (if z_alw (z_AS A_z) s_z (nI (e_z + 1)) (nI f_z) (k_z + 1) = true then 1 else 0) from z_al2 (z_bd he1 c_75 (decide_eq_false c_94) (decide_eq_true c_114))), congrArg (fun q_z => some (Value.int q_z)) (z_inc k_z), trivial⟩
                          ·
                            exact absurd c_122 (by decide)
                      ·
                        refine z_s 98 hB_z dX10_law_97 rfl rfl ?_
                        refine z_j 102 hB_z dX10_law_98 (by decide) ?_
                        refine z_s 103 hB_z dX10_law_102 rfl rfl ?_
                        refine z_getR 106 hB_z fX10_40 (N99 (zS := zS) hN_z) dX10_law_103 rfl rfl (n99_22 (zS := zS) hN_z) ?_
                        refine z_s 107 hB_z dX10_law_106 rfl rfl ?_
                        refine z_s 109 hB_z dX10_law_107 rfl rfl ?_
                        refine z_s 110 hB_z dX10_law_109 rfl rfl ?_
                        refine z_s 111 hB_z dX10_law_110 rfl rfl ?_
                        refine z_s 112 hB_z dX10_law_111 rfl rfl ?_
                        rw [z_n3 _ (by omega), show nI (3 * k_z) + 2 = nI (3 * k_z + 2) from z_n3b _ 2]
                        refine z_ald 113 hB_z (N110 (zS := zS) hN_z) dX10_law_112 rfl (vp_in_nI (show 3 * k_z + 2 < 24 by omega) (by decide)) ?_
                        rw [nI_clamp (by omega), show z_I zS 110 (3 * k_z + 2) = (z_AS A_z).2.2.1 k_z from (hR.es k_z hks).2.2]
                        refine z_s 114 hB_z dX10_law_113 rfl rfl ?_
                        refine z_b 117 121 hB_z dX10_law_114 rfl rfl (by decide) (fun c_114 => ?_) (fun c_114 => ?_)
                        ·
                          refine z_s 122 hB_z dX10_law_121 rfl rfl ?_
                          refine z_b 125 129 hB_z dX10_law_122 rfl rfl (by decide) (fun c_122 => ?_) (fun c_122 => ?_)
                          ·
                            refine z_s 130 hB_z dX10_law_129 rfl rfl ?_
                            refine z_s 132 hB_z dX10_law_130 rfl rfl ?_
                            refine z_s 135 hB_z dX10_law_132 rfl rfl ?_
                            refine z_j 51 hB_z dX10_law_135 (by decide) ?_
                            exact z_wkn (ihk hks) ⟨rfl, rfl, rfl, rfl, rfl, rfl, rfl, congrArg (fun q_z => some (Value.int q_z)) (show (0 : Int32) = (if z_alw (z_AS A_z) s_z (nI (e_z + 1)) (nI f_z) (k_z + 1) = true then 1 else 0) from z_al2 (z_bd he1 c_75 (decide_eq_true c_94) (decide_eq_false c_114))), congrArg (fun q_z => some (Value.int q_z)) (z_inc k_z), trivial⟩
                          ·
                            exact absurd c_122 (by decide)
                        ·
                          refine z_s 118 hB_z dX10_law_117 rfl rfl ?_
                          refine z_j 122 hB_z dX10_law_118 (by decide) ?_
                          refine z_b 125 129 hB_z dX10_law_122 rfl rfl (by decide) (fun c_122 => ?_) (fun c_122 => ?_)
                          ·
                            exact absurd rfl c_122
                          ·
                            refine z_s 126 hB_z dX10_law_125 rfl rfl ?_
                            refine z_j 130 hB_z dX10_law_126 (by decide) ?_
                            refine z_s 132 hB_z dX10_law_130 rfl rfl ?_
                            refine z_s 135 hB_z dX10_law_132 rfl rfl ?_
                            refine z_j 51 hB_z dX10_law_135 (by decide) ?_
                            exact z_wkn (ihk hks) ⟨rfl, rfl, rfl, rfl, rfl, rfl, rfl, congrArg (fun q_z => some (Value.int q_z)) (show (1 : Int32) = (if z_alw (z_AS A_z) s_z (nI (e_z + 1)) (nI f_z) (k_z + 1) = true then 1 else 0) from z_al1 hal (z_bd he1 c_75 (decide_eq_true c_94) (decide_eq_true c_114))), congrArg (fun q_z => some (Value.int q_z)) (z_inc k_z), trivial⟩) 0 (Nat.zero_le _)
              refine z_s 46 hB_z dX10_law_45 rfl rfl ?_
              refine z_s 48 hB_z dX10_law_46 rfl rfl ?_
              refine z_s 49 hB_z dX10_law_48 rfl rfl ?_
              refine z_s 51 hB_z dX10_law_49 rfl rfl ?_
              exact z_wkn inner ⟨rfl, rfl, rfl, rfl, rfl, rfl, rfl, rfl, rfl, trivial⟩) 0 (Nat.zero_le _)) ⟨rfl, rfl, rfl, rfl, rfl, rfl, rfl, trivial⟩) 0 (Nat.zero_le _)
  refine z_s 1 hB_z dX10_law_0 rfl rfl ?_
  refine z_s 2 hB_z dX10_law_1 rfl rfl ?_
  refine z_callV 5 hB_z hM_z.2.1 kX10_71 dX10_law_2 rfl (N99 (zS := zS) hN_z) rfl (c_X10_isOne (d_z := 0) hN_z hR.sn (by omega)) (by omega) rfl rfl (Nat.le_of_ble_eq_true rfl) ⟨Nat.le_refl _, Nat.le_refl _⟩ ?_
  rintro _ _ ⟨rfl, w_z, rfl, hw⟩
  refine z_b 8 17 hB_z dX10_law_5 rfl rfl (by decide) (fun c_5 => ?_) (fun c_5 => ?_)
  ·
    have hs : ¬ z_in s_z (z_AV A_z).2.1 := hw.elim (fun z_z => z_z.2) (fun z_z => absurd (z_z.1.symm.trans c_5) (by decide))
    refine z_s 18 hB_z dX10_law_17 rfl rfl ?_
    refine z_iret hM_z dX10_law_18 rfl ?_ rfl rfl
    exact z_MQ.rf (if_neg (fun q_z => hs q_z.1)).symm
  ·
    have hs : z_in s_z (z_AV A_z).2.1 := hw.elim (fun z_z => absurd z_z.1 c_5) (fun z_z => z_z.2)
    refine z_s 9 hB_z dX10_law_8 rfl rfl ?_
    refine z_s 10 hB_z dX10_law_9 rfl rfl ?_
    refine z_s 11 hB_z dX10_law_10 rfl rfl ?_
    refine z_callS 14 hB_z hM_z.2.1 kX10_67 dX10_law_11 rfl (c_X10_in (d_z := 0)) (by omega) rfl rfl (Nat.le_of_ble_eq_true rfl) ⟨Nat.le_refl _, Nat.le_refl _⟩ ?_
    rintro _ _ ⟨rfl, rfl⟩
    refine z_b 17 19 hB_z dX10_law_14 rfl rfl (by decide) (fun c_14 => ?_) (fun c_14 => ?_)
    ·
      refine z_s 20 hB_z dX10_law_19 rfl rfl ?_
      refine z_s 21 hB_z dX10_law_20 rfl rfl ?_
      refine z_s 23 hB_z dX10_law_21 rfl rfl ?_
      refine z_s 25 hB_z dX10_law_23 rfl rfl ?_
      refine z_s 26 hB_z dX10_law_25 rfl rfl ?_
      refine z_s 28 hB_z dX10_law_26 rfl rfl ?_
      exact z_wkn (loop ⟨hs, z_of1 c_14⟩) ⟨rfl, rfl, rfl, rfl, rfl, rfl, trivial⟩
    ·
      refine z_s 18 hB_z dX10_law_17 rfl rfl ?_
      refine z_iret hM_z dX10_law_18 rfl ?_ rfl rfl
      exact z_MQ.rf (if_neg (fun q_z => z_of0 c_14 q_z.2)).symm

theorem z_scan_up {w_z srv : Int32} {wk_z : Nat → Bool} {i_z : Nat} (hi_z : i_z < 32) : ∀ (m_z s_z : Nat) (K_z : Int32), z_hb K_z i_z = true → z_hb (z_scan w_z srv wk_z m_z s_z K_z).1 i_z = true
  | 0, s_z, K_z, h_z => h_z
  | m_z + 1, s_z, K_z, h_z => by
    unfold z_scan
    split
    · split
      · exact z_scan_up hi_z m_z (s_z + 1) _ (by rw [z_hb_or _ _ i_z hi_z, h_z]; rfl)
      · exact h_z
    · exact z_scan_up hi_z m_z (s_z + 1) K_z h_z
/-- the first that is ready, and what comes of her -/
theorem z_scan_ff {w_z srv K_z : Int32} {wk_z : Nat → Bool} : ∀ (m_z s_z : Nat), s_z + m_z ≤ 30 → (z_ff (fun i_z => z_hb (w_z &&& (K_z ^^^ -1) &&& srv) i_z) m_z s_z = -4 ∧ z_scan w_z srv wk_z m_z s_z K_z = (K_z, none)) ∨ ∃ a_z, a_z < s_z + m_z ∧ z_ff (fun i_z => z_hb (w_z &&& (K_z ^^^ -1) &&& srv) i_z) m_z s_z = nI a_z ∧ z_hb (w_z &&& (K_z ^^^ -1) &&& srv) a_z = true ∧ ∃ m_z', z_scan w_z srv wk_z m_z s_z K_z = if wk_z a_z then z_scan w_z srv wk_z m_z' (a_z + 1) (K_z ||| (1 <<< (nI a_z &&& 31))) else (K_z, some a_z)
  | 0, s_z, _ => Or.inl ⟨rfl, rfl⟩
  | m_z + 1, s_z, h_z => by
    cases q_z : z_hb (w_z &&& (K_z ^^^ -1) &&& srv) s_z with
    | true =>
      refine Or.inr ⟨s_z, by omega, ?_, q_z, m_z, ?_⟩
      · show (if z_hb (w_z &&& (K_z ^^^ -1) &&& srv) s_z then nI s_z else _) = nI s_z
        rw [q_z]; rfl
      · show (if z_hb (w_z &&& (K_z ^^^ -1) &&& srv) s_z then _ else _) = _
        rw [q_z]; rfl
    | false =>
      have e1_z : z_ff (fun i_z => z_hb (w_z &&& (K_z ^^^ -1) &&& srv) i_z) (m_z + 1) s_z = z_ff (fun i_z => z_hb (w_z &&& (K_z ^^^ -1) &&& srv) i_z) m_z (s_z + 1) := by
        show (if z_hb (w_z &&& (K_z ^^^ -1) &&& srv) s_z then _ else _) = _
        rw [q_z]; rfl
      have e2_z : z_scan w_z srv wk_z (m_z + 1) s_z K_z = z_scan w_z srv wk_z m_z (s_z + 1) K_z := by
        show (if z_hb (w_z &&& (K_z ^^^ -1) &&& srv) s_z then _ else _) = _
        rw [q_z]; rfl
      rw [e1_z, e2_z]
      rcases z_scan_ff m_z (s_z + 1) (by omega) with h1 | ⟨a_z, ha_z, h2⟩
      · exact Or.inl h1
      · exact Or.inr ⟨a_z, by omega, h2⟩
theorem z_hb_m1 : ∀ i_z, i_z < 32 → z_hb (-1) i_z = true := by decide +kernel
theorem z_hb_xr (x_z y_z : Int32) (i_z : Nat) (hi_z : i_z < 32) : z_hb (x_z ^^^ y_z) i_z = (z_hb x_z i_z ^^ z_hb y_z i_z) := by
  rw [z_hb_bit _ i_z hi_z, z_hb_bit _ i_z hi_z, z_hb_bit _ i_z hi_z]
  exact BitVec.getLsbD_xor
theorem z_rdy {w_z srv K_z : Int32} {a_z : Nat} (ha_z : a_z < 32) (h_z : z_hb (w_z &&& (K_z ^^^ -1) &&& srv) a_z = true) : z_hb K_z a_z = false := by
  rw [z_hb_and _ _ a_z ha_z, z_hb_and _ _ a_z ha_z, z_hb_xr _ _ a_z ha_z, z_hb_m1 a_z ha_z] at h_z
  cases q_z : z_hb K_z a_z with
  | false => rfl
  | true => rw [q_z] at h_z; simp at h_z
/-- he is served with nobody woken just if there is a first, and he does not wake her -/
theorem z_scan_one {w_z srv K_z : Int32} {wk_z : Nat → Bool} {n_z : Nat} (hn : n_z ≤ 6) : (¬ (z_scan w_z srv wk_z n_z 0 K_z).2 = none ∧ (z_scan w_z srv wk_z n_z 0 K_z).1 = K_z) ↔ ∃ a_z, a_z < n_z ∧ z_ff (fun i_z => z_hb (w_z &&& (K_z ^^^ -1) &&& srv) i_z) n_z 0 = nI a_z ∧ wk_z a_z = false := by
  have neg_z : ∀ a_z : Nat, a_z < 30 → ¬ nI a_z = -4 := fun a_z ha_z q_z => by
    have h2 : 0 ≤ nI a_z := nI_pos' (by omega)
    rw [q_z] at h2
    exact absurd h2 (by decide)
  rcases z_scan_ff (w_z := w_z) (srv := srv) (K_z := K_z) (wk_z := wk_z) n_z 0 (by omega) with ⟨h1, h2⟩ | ⟨a_z, ha_z, h1, h2, m_z', h3⟩
  · rw [h2, h1]
    exact ⟨fun q_z => absurd rfl q_z.1, fun ⟨a_z, ha_z, q_z, _⟩ => absurd q_z.symm (neg_z a_z (by omega))⟩
  · rw [h3, h1]
    cases q_z : wk_z a_z with
    | false => exact ⟨fun _ => ⟨a_z, by omega, rfl, q_z⟩, fun _ => ⟨fun z_z => (by cases z_z), rfl⟩⟩
    | true =>
      constructor
      · rintro ⟨-, e_z⟩
        exfalso
        have h4 := z_scan_up (w_z := w_z) (srv := srv) (wk_z := wk_z) (i_z := a_z) (by omega) m_z' (a_z + 1) (K_z ||| (1 <<< (nI a_z &&& 31))) (by rw [z_hb_or _ _ a_z (by omega), z_hb_one a_z (by omega) a_z (by omega), decide_eq_true (show a_z = a_z from rfl), Bool.or_true])
        have e2_z : (z_scan w_z srv wk_z m_z' (a_z + 1) (K_z ||| (1 <<< (nI a_z &&& 31)))).1 = K_z := e_z
        rw [e2_z, z_rdy (by omega) h2] at h4
        cases h4
      · rintro ⟨b_z, hb_z, e_z, e2_z⟩
        exfalso
        have e3_z : a_z = b_z := z_nI_inj (by omega) (by omega) e_z
        rw [← e3_z, q_z] at e2_z
        cases e2_z
/-- asked after customer j in a way -/
theorem z_mn_at (zV : z_V) (t_z w_z way_z : Int32) (j_z : Nat) (hj : j_z < 10) : ∀ c_z, c_z ≤ 10 → (c_z ≤ j_z → (z_mn zV t_z w_z (nI j_z) way_z c_z).1 = (z_day zV t_z w_z c_z).1 ∧ (z_mn zV t_z w_z (nI j_z) way_z c_z).2.2.2.1 = 0) ∧ (j_z < c_z → (z_mn zV t_z w_z (nI j_z) way_z c_z).2.2.2.1 = if ¬ (z_mr zV t_z w_z way_z j_z (z_day zV t_z w_z j_z).1).2 = none ∧ (z_mr zV t_z w_z way_z j_z (z_day zV t_z w_z j_z).1).1 = (z_day zV t_z w_z j_z).1 then 1 else 0)
  | 0, _ => ⟨fun _ => ⟨rfl, rfl⟩, fun q_z => absurd q_z (Nat.not_lt_zero j_z)⟩
  | c_z + 1, hc_z => by
    obtain ⟨i1_z, i2_z⟩ := z_mn_at zV t_z w_z way_z j_z hj c_z (by omega)
    have e0_z : z_mn zV t_z w_z (nI j_z) way_z (c_z + 1) = z_m1 zV t_z w_z (nI j_z) way_z (z_mn zV t_z w_z (nI j_z) way_z c_z) c_z := rfl
    have ne_z : ∀ b_z : Nat, b_z ≤ 10 → b_z ≠ j_z → ¬ nI b_z = nI j_z := fun b_z hb_z h_z q_z => h_z (z_nI_inj (by omega) (by omega) q_z)
    refine ⟨fun h_z => ?_, fun h_z => ?_⟩
    · obtain ⟨a1_z, a2⟩ := i1_z (by omega)
      have hw : z_mw zV (nI j_z) way_z c_z = zV.1 6 c_z := if_neg (ne_z c_z (by omega) (by omega))
      rw [e0_z]
      refine ⟨?_, ?_⟩
      · show (z_mr zV t_z w_z (z_mw zV (nI j_z) way_z c_z) c_z (z_mn zV t_z w_z (nI j_z) way_z c_z).1).1 = _
        rw [hw, a1_z, (z_day_nx zV t_z w_z c_z).1]; rfl
      · show (if nI c_z = nI j_z ∧ _ then (1 : Int32) else (z_mn zV t_z w_z (nI j_z) way_z c_z).2.2.2.1) = 0
        rw [if_neg (fun z_z => ne_z c_z (by omega) (by omega) z_z.1)]; exact a2
    · rw [e0_z]
      by_cases e_z : c_z = j_z
      · subst e_z
        obtain ⟨a1_z, a2⟩ := i1_z (by omega)
        have hw : z_mw zV (nI c_z) way_z c_z = way_z := if_pos rfl
        show (if nI c_z = nI c_z ∧ ¬ (z_mr zV t_z w_z (z_mw zV (nI c_z) way_z c_z) c_z (z_mn zV t_z w_z (nI c_z) way_z c_z).1).2 = none ∧ (z_mr zV t_z w_z (z_mw zV (nI c_z) way_z c_z) c_z (z_mn zV t_z w_z (nI c_z) way_z c_z).1).1 = (z_mn zV t_z w_z (nI c_z) way_z c_z).1 then (1 : Int32) else (z_mn zV t_z w_z (nI c_z) way_z c_z).2.2.2.1) = _
        rw [hw, a1_z, a2]
        by_cases z_z : ¬ (z_mr zV t_z w_z way_z c_z (z_day zV t_z w_z c_z).1).2 = none ∧ (z_mr zV t_z w_z way_z c_z (z_day zV t_z w_z c_z).1).1 = (z_day zV t_z w_z c_z).1
        · rw [if_pos ⟨rfl, z_z⟩, if_pos z_z]
        · rw [if_neg (fun y_z => z_z y_z.2), if_neg z_z]
      · show (if nI c_z = nI j_z ∧ _ then (1 : Int32) else (z_mn zV t_z w_z (nI j_z) way_z c_z).2.2.2.1) = _
        rw [if_neg (fun z_z => ne_z c_z (by omega) e_z z_z.1)]
        exact i2_z (by omega)
/-- the answer, ways from i on -/
def z_askf (zV : z_V) (zT : Nat → Int32) (j_z i_z : Nat) : Int32 := if z_comes zV (zT 0) j_z = true ∧ ¬ z_first zV zT j_z = -4 then z_wf (zV.1 7 j_z) (z_rd zV.1 0 6 (z_first zV zT j_z)) (4 - i_z) i_z else -4
theorem z_ask0 {A_z : z_Ab} {j_z : Nat} (hj : j_z < 10) (hs : z_in (nI j_z) (z_AV A_z).2.2.1) : z_ansAsk A_z (nI j_z) = z_askf (z_AV A_z) (z_AT A_z) j_z 0 := by
  unfold z_ansAsk z_askf
  rw [nI_clamp (by omega)]
  refine (if_pos hs).trans ?_
  by_cases h1 : z_comes (z_AV A_z) (z_AT A_z 0) j_z = true
  · rw [if_pos h1]
    by_cases h2 : z_first (z_AV A_z) (z_AT A_z) j_z = -4
    · rw [if_pos h2, if_neg (fun z_z => z_z.2 h2)]
    · rw [if_neg h2, if_pos ⟨h1, h2⟩]
  · rw [if_neg h1, if_neg (fun z_z => h1 z_z.1)]
theorem z_askf4 {zV : z_V} {zT : Nat → Int32} {j_z : Nat} : z_askf zV zT j_z 4 = -4 := by
  unfold z_askf
  split <;> rfl
theorem z_askf_s {zV : z_V} {zT : Nat → Int32} {j_z i_z : Nat} (hn : zV.2.1 ≤ 6) (hi_z : i_z < 4) : z_askf zV zT j_z i_z = if (¬ (z_mr zV (zT 0) (z_wlk zV zT (z_hasDog zV (zT 0))) (nI i_z) j_z (z_day zV (zT 0) (z_wlk zV zT (z_hasDog zV (zT 0))) j_z).1).2 = none ∧ (z_mr zV (zT 0) (z_wlk zV zT (z_hasDog zV (zT 0))) (nI i_z) j_z (z_day zV (zT 0) (z_wlk zV zT (z_hasDog zV (zT 0))) j_z).1).1 = (z_day zV (zT 0) (z_wlk zV zT (z_hasDog zV (zT 0))) j_z).1) then nI i_z else z_askf zV zT j_z (i_z + 1) := by
  obtain ⟨K_z, hK_z⟩ : ∃ K_z, (z_day zV (zT 0) (z_wlk zV zT (z_hasDog zV (zT 0))) j_z).1 = K_z := ⟨_, rfl⟩
  have hff : z_first zV zT j_z = z_ff (fun s_z => z_hb (z_wlk zV zT (z_hasDog zV (zT 0)) &&& (K_z ^^^ -1) &&& z_rd zV.1 8 6 (zV.1 5 j_z)) s_z) zV.2.1 0 := by rw [← hK_z]; rfl
  rw [hK_z]
  unfold z_askf
  unfold z_mr
  have neg_z : ∀ a_z : Nat, a_z < 30 → ¬ nI a_z = -4 := fun a_z ha_z q_z => by
    have h2 : 0 ≤ nI a_z := nI_pos' (by omega)
    rw [q_z] at h2
    exact absurd h2 (by decide)
  cases hc_z : z_comes zV (zT 0) j_z with
  | false =>
    rw [if_neg (fun z_z => Bool.noConfusion z_z.1), if_neg Bool.false_ne_true, if_neg (fun z_z => z_z.1 rfl), if_neg (fun z_z => Bool.noConfusion z_z.1)]
  | true =>
    rw [if_pos (show true = true from rfl)]
    have h1 : (¬ (z_ms zV (z_wlk zV zT (z_hasDog zV (zT 0))) K_z (nI i_z) j_z).2 = none ∧ (z_ms zV (z_wlk zV zT (z_hasDog zV (zT 0))) K_z (nI i_z) j_z).1 = K_z) ↔ ∃ a_z, a_z < zV.2.1 ∧ z_first zV zT j_z = nI a_z ∧ decide (z_wakes (nI i_z) (zV.1 7 j_z) (zV.1 0 a_z) = 1) = false := by
      rw [hff]
      exact z_scan_one (wk_z := fun s_z => decide (z_wakes (nI i_z) (zV.1 7 j_z) (zV.1 0 s_z) = 1)) hn
    have hwf : ∀ p_z k_z, z_wf p_z k_z (4 - i_z) i_z = if z_wakes (nI i_z) p_z k_z = 0 then nI i_z else z_wf p_z k_z (4 - (i_z + 1)) (i_z + 1) := fun p_z k_z => by
      rw [show 4 - i_z = (4 - (i_z + 1)) + 1 by omega]; rfl
    by_cases z_z : z_first zV zT j_z = -4
    · have nz : ¬ (true = true ∧ ¬ z_first zV zT j_z = -4) := fun y_z => y_z.2 z_z
      have np : ¬ (¬ (z_ms zV (z_wlk zV zT (z_hasDog zV (zT 0))) K_z (nI i_z) j_z).2 = none ∧ (z_ms zV (z_wlk zV zT (z_hasDog zV (zT 0))) K_z (nI i_z) j_z).1 = K_z) := fun y_z => by
        obtain ⟨a_z, ha_z, q_z, _⟩ := h1.mp y_z
        exact neg_z a_z (by omega) (q_z.symm.trans z_z)
      exact (if_neg nz).trans ((if_neg np).trans (if_neg nz)).symm
    · have nz : true = true ∧ ¬ z_first zV zT j_z = -4 := ⟨rfl, z_z⟩
      refine (if_pos nz).trans ((hwf _ _).trans ?_)
      rcases z_scan_ff (w_z := z_wlk zV zT (z_hasDog zV (zT 0))) (srv := z_rd zV.1 8 6 (zV.1 5 j_z)) (K_z := K_z) (wk_z := fun _ => false) zV.2.1 0 (by omega) with ⟨y_z, -⟩ | ⟨a_z, ha_z, y_z, -, -⟩
      · rw [← hff] at y_z; exact absurd y_z z_z
      · rw [← hff] at y_z
        have hrd : z_rd zV.1 0 6 (z_first zV zT j_z) = zV.1 0 a_z := by
          rw [y_z]
          unfold z_rd
          rw [if_pos ⟨nI_pos' (by omega), (nI_ltI (by omega) (by decide)).mpr (by omega)⟩, nI_clamp (by omega)]
        rw [hrd]
        by_cases x_z : z_wakes (nI i_z) (zV.1 7 j_z) (zV.1 0 a_z) = 0
        · refine (if_pos x_z).trans (if_pos ?_).symm
          exact h1.mpr ⟨a_z, by omega, y_z, decide_eq_false (fun q_z => by rw [x_z] at q_z; exact absurd q_z (by decide))⟩
        · refine (if_neg x_z).trans ((if_neg ?_).trans (if_pos nz)).symm
          intro q_z
          obtain ⟨b_z, hb_z, q1_z, q2_z⟩ := h1.mp q_z
          have e3_z : a_z = b_z := z_nI_inj (by omega) (by omega) (y_z.symm.trans q1_z)
          rw [← e3_z] at q2_z
          exact of_decide_eq_false q2_z ((z_wakes01 _ _ _).resolve_left x_z)
set_option maxHeartbeats 2000000 in
theorem c_X10_ask {g_z : z_U} {d_z : Nat} {zS : z_S} {A_z : z_Ab} (hN_z : z_LM zS) (hR : z_RM (z_I zS) A_z) (hO : z_OV (z_AV A_z)) {s_z : Int32} : z_C g_z (d_z + 3) 0 0 mX10_ask [.ref 99, .int s_z] zS (z_MQ zS (z_ansAsk A_z s_z)) := by
  refine z_enter [some (.ref 99), some (.int s_z), none] rfl rfl (Nat.le_of_ble_eq_true rfl) rfl (fun zX hM_z => ?_)
  have hB_z : z_B g_z zX RX10 cX10_ask 3 := hM_z.1
  have hn6 := hO.2.1
  have hm10 := hO.2.2.1
  have loop := fun (j_z : Nat) (hj : j_z < (z_AV A_z).2.2.1) (hM_z : z_BM g_z zX (d_z + 3) 0 0 mX10_ask (z_MQ zS (z_ansAsk A_z (nI j_z)))) => z_loop (fun i_z => ∀ I1, z_f2 z_scM (z_I zS) I1 → I1 99 25 = -4 → z_ansAsk A_z (nI j_z) = z_askf (z_AV A_z) (z_AT A_z) j_z i_z → z_W g_z zX 18 [some (.ref 99), some (.int (nI j_z)), some (.int (nI i_z))] [] 0 0 (z_up zS I1)) 4 (fun i_z hi_z ih_z I1 hf h25 he => by
    refine z_s 19 hB_z dX10_ask_18 rfl rfl ?_
    refine z_s 20 hB_z dX10_ask_19 rfl rfl ?_
    refine z_b 23 49 hB_z dX10_ask_20 rfl rfl (by decide) (fun c_20 => ?_) (fun c_20 => ?_)
    ·
      have hi4 : i_z = 4 := by
        have := (nI_leI (by decide) (by omega)).mp (show nI 4 ≤ nI i_z from c_20)
        omega
      subst hi4
      refine z_s 51 hB_z dX10_ask_49 rfl rfl ?_
      refine z_iret hM_z dX10_ask_51 rfl ?_ rfl rfl
      exact z_MQ.ok (he.trans z_askf4).symm hf
    ·
      have hi4 : i_z < 4 := (nI_ltI (by omega) (by decide)).mp (show nI i_z < nI 4 from c_20)
      refine z_s 24 hB_z dX10_ask_23 rfl rfl ?_
      refine z_s 25 hB_z dX10_ask_24 rfl rfl ?_
      refine z_getR 28 hB_z fX10_28 (N99 (zS := zS) hN_z) dX10_ask_25 rfl rfl (n99_15 (zS := zS) hN_z) ?_
      refine z_s 29 hB_z dX10_ask_28 rfl rfl ?_
      refine z_s 30 hB_z dX10_ask_29 rfl rfl ?_
      refine z_callV 33 hB_z hM_z.2.1 kX10_170 dX10_ask_30 rfl (N99 (zS := zS) hN_z) rfl (c_X10_layNight (zS := z_up zS I1) (d_z := 0) hN_z hO (hR.scr hf).mv (db := -4) h25 (N106 hN_z) (Or.inl rfl) (hR.scr hf).nw (dog := z_hasDog (z_AV A_z) (z_AT A_z 0)) (if_pos rfl)) (by omega) rfl rfl (Nat.le_of_ble_eq_true rfl) ⟨Nat.le_refl _, Nat.le_refl _⟩ ?_
      rintro _ _ ⟨rfl, I3, rfl, hf3, hw3, hD3⟩
      have hwo := hD3.2.2.2.1.trans ((z_mn_at (z_AV A_z) (z_AT A_z 0) (z_wkd (z_AV A_z) (z_AT A_z) (z_hasDog (z_AV A_z) (z_AT A_z 0)) (z_AV A_z).2.1) (nI i_z) j_z (by omega) (z_AV A_z).2.2.1 hm10).2 hj)
      rw [z_askf_s hn6 hi4] at he
      refine z_s 34 hB_z dX10_ask_33 rfl rfl ?_
      refine z_getI 37 hB_z fX10_161 (N99 (zS := zS) hN_z) dX10_ask_34 rfl rfl ?_
      rw [show z_I (z_up (z_up zS I1) I3) 99 28 = _ from hwo]
      refine z_s 38 hB_z dX10_ask_37 rfl rfl ?_
      refine z_b 41 43 hB_z dX10_ask_38 rfl rfl (by decide) (fun c_38 => ?_) (fun c_38 => ?_)
      ·
        refine z_s 46 hB_z dX10_ask_43 rfl rfl ?_
        refine z_j 18 hB_z dX10_ask_46 (by decide) ?_
        exact z_wkn (ih_z hi4 I3 (hf.tr (hf3.mono z_PLN_sc)) ((hf3 99 25 (by unfold z_PLN; omega)).trans h25) (he.trans (if_neg (fun z_z => c_38 (if_pos z_z))))) ⟨rfl, rfl, congrArg (fun q_z => some (Value.int q_z)) (z_inc i_z), trivial⟩
      ·
        refine z_s 42 hB_z dX10_ask_41 rfl rfl ?_
        refine z_iret hM_z dX10_ask_42 rfl ?_ rfl rfl
        exact z_MQ.ok (he.trans (if_pos (z_of1 (fun z_z => absurd (c_38.symm.trans z_z) (by decide))))).symm (hf.tr (hf3.mono z_PLN_sc))) 0 (Nat.zero_le _)
  refine z_s 1 hB_z dX10_ask_0 rfl rfl ?_
  refine z_s 2 hB_z dX10_ask_1 rfl rfl ?_
  refine z_callV 5 hB_z hM_z.2.1 kX10_177 dX10_ask_2 rfl (N99 (zS := zS) hN_z) rfl (c_X10_isGuest (d_z := 0) hN_z hR.sm (by omega)) (by omega) rfl rfl (Nat.le_of_ble_eq_true rfl) ⟨Nat.le_refl _, Nat.le_refl _⟩ ?_
  rintro _ _ ⟨rfl, w_z, rfl, hw⟩
  refine z_b 8 10 hB_z dX10_ask_5 rfl rfl (by decide) (fun c_5 => ?_) (fun c_5 => ?_)
  ·
    have hs : z_in s_z (z_AV A_z).2.2.1 := hw.elim (fun z_z => absurd z_z.1 c_5) (fun z_z => z_z.2)
    obtain ⟨j_z, hj, rfl⟩ := hs.of (by omega)
    refine z_s 11 hB_z dX10_ask_10 rfl rfl ?_
    refine z_s 13 hB_z dX10_ask_11 rfl rfl ?_
    refine z_putI 16 hB_z fX10_139 (N99 (zS := zS) hN_z) dX10_ask_13 rfl rfl rfl ?_
    refine z_s 17 hB_z dX10_ask_16 rfl rfl ?_
    refine z_s 18 hB_z dX10_ask_17 rfl rfl ?_
    exact z_eqS (z_wkn (loop j_z hj hM_z (z_u2 (z_I zS) 99 25 (-4)) z_u25 (z_u2_same _ _ _ _) (z_ask0 (by omega) hs)) ⟨rfl, rfl, rfl, trivial⟩) rfl
  ·
    have hs : ¬ z_in s_z (z_AV A_z).2.2.1 := hw.elim (fun z_z => z_z.2) (fun z_z => absurd (z_z.1.symm.trans c_5) (by decide))
    refine z_s 9 hB_z dX10_ask_8 rfl rfl ?_
    refine z_iret hM_z dX10_ask_9 rfl ?_ rfl rfl
    exact z_MQ.rf (if_neg hs).symm

