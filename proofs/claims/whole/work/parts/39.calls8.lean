/-! law, year -/
/-- laws of one, counted by E, then O: how many, the first -/
def z_lwi (q_z : z_Q4) (s_z : Int32) (e_z : Nat) (p_z : Int32 × Int32) : Nat → Int32 × Int32
  | 0 => p_z
  | o + 1 => if z_alw q_z s_z (nI e_z) (nI o) q_z.2.2.2 = true then ((z_lwi q_z s_z e_z p_z o).1 + 1, if (z_lwi q_z s_z e_z p_z o).1 = 0 then 10 * nI e_z + nI o else (z_lwi q_z s_z e_z p_z o).2) else z_lwi q_z s_z e_z p_z o
def z_lwo (q_z : z_Q4) (s_z : Int32) : Nat → Int32 × Int32
  | 0 => (0, -4)
  | e_z + 1 => z_lwi q_z s_z (e_z + 1) (z_lwo q_z s_z e_z) (e_z + 1)
def z_ansLaw (A_z : z_Ab) (s_z what : Int32) : Int32 := if (0 ≤ s_z ∧ s_z < nI (z_AV A_z).2.1) ∧ 0 ≤ what ∧ what ≤ 1 then (if what = 0 then (z_lwo (z_AS A_z) s_z 10).1 else (z_lwo (z_AS A_z) s_z 10).2) else -1
set_option maxHeartbeats 2000000 in
theorem c_X9_law {g_z : z_U} {d_z : Nat} {zS : z_S} {A_z : z_Ab} (hC : z_RC zS A_z) {s_z what : Int32} : z_C g_z (d_z + 2) 0 0 mX9_law [.ref 4, .int s_z, .int what] zS (z_QP zS (z_ansLaw A_z s_z what)) := by
  refine z_enter [some (.ref 4), some (.int s_z), some (.int what), none, none, none, none] rfl rfl (Nat.le_of_ble_eq_true rfl) rfl (fun zX hM_z => ?_)
  have hB_z : z_B g_z zX RX9 cX9_law 7 := hM_z.1
  obtain ⟨hL, hV, hT_z, hU, hK_z, hS_z, hX⟩ := id hC
  have hn : z_I zS 7 9 = nI (z_AV A_z).2.1 := hV.2.1
  have hm_z : z_I zS 7 10 = nI (z_AV A_z).2.2.1 := hV.2.2.1
  have hn6 := hV.2.2.2.2.1
  have hm10 := hV.2.2.2.2.2
  have loop := fun (hw : (0 ≤ s_z ∧ s_z < nI (z_AV A_z).2.1) ∧ 0 ≤ what ∧ what ≤ 1) => z_loop (fun e_z => z_W g_z zX 28 [some (.ref 4), some (.int s_z), some (.int what), some (.int (z_lwo (z_AS A_z) s_z e_z).1), some (.int (z_lwo (z_AS A_z) s_z e_z).2), some (.int (nI (e_z + 1))), none] [] 0 0 zS) 10 (fun e_z he ihe => by
    refine z_s 30 hB_z dX9_law_28 rfl rfl ?_
    refine z_s 32 hB_z dX9_law_30 rfl rfl ?_
    refine z_b 35 94 hB_z dX9_law_32 rfl rfl (by decide) (fun c_32 => ?_) (fun c_32 => ?_)
    ·
      have hje : e_z = 10 := by
        have := (nI_ltI (by omega) (by omega)).mp (show nI 10 < nI (e_z + 1) from c_32)
        omega
      rw [hje]
      refine z_s 95 hB_z dX9_law_94 rfl rfl ?_
      refine z_b 98 102 hB_z dX9_law_95 rfl rfl (by decide) (fun c_95 => ?_) (fun c_95 => ?_)
      ·
        refine z_s 104 hB_z dX9_law_102 rfl rfl ?_
        refine z_iret hM_z dX9_law_104 rfl ?_ rfl rfl
        exact z_QP.rf (by unfold z_ansLaw; rw [if_pos hw, if_neg c_95])
      ·
        refine z_s 99 hB_z dX9_law_98 rfl rfl ?_
        refine z_j 104 hB_z dX9_law_99 (by decide) ?_
        refine z_iret hM_z dX9_law_104 rfl ?_ rfl rfl
        exact z_QP.rf (by unfold z_ansLaw; rw [if_pos hw, if_pos c_95])
    ·
      have hje : e_z < 10 := by
        have := (nI_leI (by omega) (by omega)).mp (show nI (e_z + 1) ≤ nI 10 from c_32)
        omega
      refine z_s 36 hB_z dX9_law_35 rfl rfl ?_
      refine z_s 38 hB_z dX9_law_36 rfl rfl ?_
      exact z_eq (z_loop (fun f_z => z_W g_z zX 38 [some (.ref 4), some (.int s_z), some (.int what), some (.int (z_lwi (z_AS A_z) s_z (e_z + 1) (z_lwo (z_AS A_z) s_z e_z) f_z).1), some (.int (z_lwi (z_AS A_z) s_z (e_z + 1) (z_lwo (z_AS A_z) s_z e_z) f_z).2), some (.int (nI (e_z + 1))), some (.int (nI f_z))] [] 0 0 zS) (e_z + 1) (fun f_z hf ihf => by
            refine z_s 40 hB_z dX9_law_38 rfl rfl ?_
            refine z_s 42 hB_z dX9_law_40 rfl rfl ?_
            refine z_b 45 88 hB_z dX9_law_42 rfl rfl (by decide) (fun c_42 => ?_) (fun c_42 => ?_)
            ·
              have hof : f_z = e_z + 1 := by
                have := (nI_leI (by omega) (by omega)).mp (show nI (e_z + 1) ≤ nI f_z from c_42)
                omega
              rw [hof]
              refine z_s 91 hB_z dX9_law_88 rfl rfl ?_
              refine z_j 28 hB_z dX9_law_91 (by decide) ?_
              exact z_wkn (ihe hje) ⟨rfl, rfl, rfl, rfl, rfl, congrArg (fun q_z => some (Value.int q_z)) (z_inc (e_z + 1)), trivial⟩
            ·
              have hof : f_z < e_z + 1 := (nI_ltI (by omega) (by omega)).mp (show nI f_z < nI (e_z + 1) from c_42)
              refine z_s 46 hB_z dX9_law_45 rfl rfl ?_
              refine z_getR 49 hB_z fX9_69 (L4_z (zS := zS) hL) dX9_law_46 rfl rfl (r4_9 (zS := zS) hL) ?_
              refine z_s 50 hB_z dX9_law_49 rfl rfl ?_
              refine z_s 52 hB_z dX9_law_50 rfl rfl ?_
              refine z_s 54 hB_z dX9_law_52 rfl rfl ?_
              refine z_callV 57 hB_z hM_z.2.1 kX9_261 dX9_law_54 rfl (L91 (zS := zS) hL) rfl (c_X6_allow (d_z := 0) hL hS_z) (by omega) rfl rfl (Nat.le_of_ble_eq_true rfl) ⟨Nat.le_refl _, Nat.le_refl _⟩ ?_
              rintro _ _ ⟨rfl, rfl⟩
              refine z_b 60 82 hB_z dX9_law_57 rfl rfl (by decide) (fun c_57 => ?_) (fun c_57 => ?_)
              ·
                refine z_s 85 hB_z dX9_law_82 rfl rfl ?_
                refine z_j 38 hB_z dX9_law_85 (by decide) ?_
                exact z_eq (ihf hof) (by rw [← z_inc f_z, show z_lwi (z_AS A_z) s_z (e_z + 1) (z_lwo (z_AS A_z) s_z e_z) (f_z + 1) = z_lwi (z_AS A_z) s_z (e_z + 1) (z_lwo (z_AS A_z) s_z e_z) f_z from if_neg (by rw [z_if0 c_57]; exact Bool.false_ne_true)]; rfl) rfl rfl
              ·
                refine z_s 61 hB_z dX9_law_60 rfl rfl ?_
                refine z_b 64 75 hB_z dX9_law_61 rfl rfl (by decide) (fun c_61 => ?_) (fun c_61 => ?_)
                ·
                  refine z_s 77 hB_z dX9_law_75 rfl rfl ?_
                  refine z_s 79 hB_z dX9_law_77 rfl rfl ?_
                  refine z_s 82 hB_z dX9_law_79 rfl rfl ?_
                  refine z_s 85 hB_z dX9_law_82 rfl rfl ?_
                  refine z_j 38 hB_z dX9_law_85 (by decide) ?_
                  exact z_eq (ihf hof) (by rw [← z_inc f_z, show z_lwi (z_AS A_z) s_z (e_z + 1) (z_lwo (z_AS A_z) s_z e_z) (f_z + 1) = ((z_lwi (z_AS A_z) s_z (e_z + 1) (z_lwo (z_AS A_z) s_z e_z) f_z).1 + 1, (z_lwi (z_AS A_z) s_z (e_z + 1) (z_lwo (z_AS A_z) s_z e_z) f_z).2) from (if_pos (z_if1 c_57)).trans (by rw [if_neg c_61])]; rfl) rfl rfl
                ·
                  refine z_s 66 hB_z dX9_law_64 rfl rfl ?_
                  refine z_s 68 hB_z dX9_law_66 rfl rfl ?_
                  refine z_s 69 hB_z dX9_law_68 rfl rfl ?_
                  refine z_s 71 hB_z dX9_law_69 rfl rfl ?_
                  refine z_s 72 hB_z dX9_law_71 rfl rfl ?_
                  refine z_j 77 hB_z dX9_law_72 (by decide) ?_
                  refine z_s 79 hB_z dX9_law_77 rfl rfl ?_
                  refine z_s 82 hB_z dX9_law_79 rfl rfl ?_
                  refine z_s 85 hB_z dX9_law_82 rfl rfl ?_
                  refine z_j 38 hB_z dX9_law_85 (by decide) ?_
                  exact z_eq (ihf hof) (by rw [← z_inc f_z, show z_lwi (z_AS A_z) s_z (e_z + 1) (z_lwo (z_AS A_z) s_z e_z) (f_z + 1) = ((z_lwi (z_AS A_z) s_z (e_z + 1) (z_lwo (z_AS A_z) s_z e_z) f_z).1 + 1, 10 * nI (e_z + 1) + nI f_z) from (if_pos (z_if1 c_57)).trans (by rw [if_pos c_61])]; rfl) rfl rfl) 0 (Nat.zero_le _)) rfl rfl rfl) 0 (Nat.zero_le _)
  refine z_s 1 hB_z dX9_law_0 rfl rfl ?_
  refine z_s 2 hB_z dX9_law_1 rfl rfl ?_
  refine z_callV 5 hB_z hM_z.2.1 kX9_110 dX9_law_2 rfl (L4_z (zS := zS) hL) rfl (c_X9_isStaff (d_z := 0) hL hn) (by omega) rfl rfl (Nat.le_of_ble_eq_true rfl) ⟨Nat.le_refl _, Nat.le_refl _⟩ ?_
  rintro _ _ ⟨rfl, v1_z, rfl, hv1⟩
  refine z_b 8 17 hB_z dX9_law_5 rfl rfl (by decide) (fun c_5 => ?_) (fun c_5 => ?_)
  ·
    refine z_s 18 hB_z dX9_law_17 rfl rfl ?_
    refine z_iret hM_z dX9_law_18 rfl ?_ rfl rfl
    rcases hv1 with ⟨_, w1_z⟩ | ⟨w0_z, _⟩
    · exact z_QP.rf (by unfold z_ansLaw; rw [if_neg (fun q_z => w1_z q_z.1)])
    · rw [w0_z] at c_5; exact absurd c_5 (by decide)
  ·
    rcases hv1 with ⟨w0_z, _⟩ | ⟨_, w1_z⟩
    · exact absurd w0_z c_5
    refine z_s 9 hB_z dX9_law_8 rfl rfl ?_
    refine z_b 12 17 hB_z dX9_law_9 rfl rfl (by decide) (fun c_9 => ?_) (fun c_9 => ?_)
    ·
      refine z_s 18 hB_z dX9_law_17 rfl rfl ?_
      refine z_iret hM_z dX9_law_18 rfl ?_ rfl rfl
      exact z_QP.rf (by unfold z_ansLaw; rw [if_neg (fun q_z => z_nlt0 q_z.2.1 c_9)])
    ·
      refine z_s 13 hB_z dX9_law_12 rfl rfl ?_
      refine z_s 14 hB_z dX9_law_13 rfl rfl ?_
      refine z_b 17 19 hB_z dX9_law_14 rfl rfl (by decide) (fun c_14 => ?_) (fun c_14 => ?_)
      ·
        refine z_s 20 hB_z dX9_law_19 rfl rfl ?_
        refine z_s 21 hB_z dX9_law_20 rfl rfl ?_
        refine z_s 23 hB_z dX9_law_21 rfl rfl ?_
        refine z_s 25 hB_z dX9_law_23 rfl rfl ?_
        refine z_s 26 hB_z dX9_law_25 rfl rfl ?_
        refine z_s 28 hB_z dX9_law_26 rfl rfl ?_
        exact z_eq (loop ⟨w1_z, c_9, c_14⟩) rfl rfl rfl
      ·
        refine z_s 18 hB_z dX9_law_17 rfl rfl ?_
        refine z_iret hM_z dX9_law_18 rfl ?_ rfl rfl
        exact z_QP.rf (by unfold z_ansLaw; rw [if_neg (fun q_z => z_nle0 c_14 q_z.2.2)])

def z_yrT (zV : z_V) (z_z : Int32) (zT : Nat → Int32) (k_z : Nat) : Nat → Int32 := if z_draw z_z (nI k_z) / 8 - z_draw z_z (nI k_z) / 8 / 3 * 3 = 0 then z_putT zT 5 (zT 5 ||| (1 <<< (z_mod (z_draw z_z (nI k_z)) (nI zV.2.1) &&& 31))) else zT
def z_yr (zV : z_V) (z_z : Int32) (zT : Nat → Int32) : Nat → (Nat → Int32)
  | 0 => zT
  | k_z + 1 => z_nx1 zV (z_yrT zV z_z (z_yr zV z_z zT k_z) k_z) (z_hasDog zV (z_yrT zV z_z (z_yr zV z_z zT k_z) k_z 0))
def z_ansYear (A_z : z_Ab) (z_z n_z what : Int32) : Int32 := if (0 ≤ z_z ∧ z_z ≤ 9999) ∧ (1 ≤ n_z ∧ n_z ≤ 40) ∧ 0 ≤ what ∧ what ≤ 1 then (if what = 0 then z_yr (z_AV A_z) z_z (z_AT A_z) n_z.toNatClampNeg 1 else z_yr (z_AV A_z) z_z (z_AT A_z) n_z.toNatClampNeg 3 - z_AT A_z 3) else -1
set_option maxHeartbeats 2000000 in
theorem c_X9_year {g_z : z_U} {d_z : Nat} {zS : z_S} {A_z : z_Ab} (hC : z_RC zS A_z) {z_z n_z what : Int32} : z_C g_z (d_z + 5) 0 0 mX9_year [.ref 4, .int z_z, .int n_z, .int what] zS (z_QP zS (z_ansYear A_z z_z n_z what)) := by
  refine z_enter [some (.ref 4), some (.int z_z), some (.int n_z), some (.int what), none, none] rfl rfl (Nat.le_of_ble_eq_true rfl) rfl (fun zX hM_z => ?_)
  have hB_z : z_B g_z zX RX9 cX9_year 6 := hM_z.1
  obtain ⟨hL, hV, hT_z, hU, hK_z, hS_z, hX⟩ := id hC
  have hn : z_I zS 7 9 = nI (z_AV A_z).2.1 := hV.2.1
  have hm_z : z_I zS 7 10 = nI (z_AV A_z).2.2.1 := hV.2.2.1
  have hn6 := hV.2.2.2.2.1
  have hm10 := hV.2.2.2.2.2
  have loop := fun (j_z : Nat) (hj40 : j_z ≤ 40) (hM_z : z_BM g_z zX (d_z + 5) 0 0 mX9_year (z_QP zS (z_ansYear A_z z_z (nI j_z) what))) (hw : (0 ≤ z_z ∧ z_z ≤ 9999) ∧ (1 ≤ nI j_z ∧ nI j_z ≤ 40) ∧ 0 ≤ what ∧ what ≤ 1) => z_loop (fun k_z => ∀ I1, z_fr z_scr (z_I zS) I1 → z_rT I1 54 (z_yr (z_AV A_z) z_z (z_AT A_z) k_z) → z_W g_z zX 47 [some (.ref 4), some (.int z_z), some (.int (nI j_z)), some (.int what), some (.int (nI k_z)), none] [] 0 0 (z_up zS I1)) j_z (fun k_z hk ih_z I1 hf hT1 => by
    refine z_s 49 hB_z dX9_year_47 rfl rfl ?_
    refine z_s 50 hB_z dX9_year_49 rfl rfl ?_
    refine z_b 53 112 hB_z dX9_year_50 rfl rfl (by decide) (fun c_50 => ?_) (fun c_50 => ?_)
    ·
      have hjk : k_z = j_z := by
        have := (nI_leI (by omega) (by omega)).mp (show nI j_z ≤ nI k_z from c_50)
        omega
      rw [hjk] at hT1
      refine z_s 113 hB_z dX9_year_112 rfl rfl ?_
      refine z_b 116 126 hB_z dX9_year_113 rfl rfl (by decide) (fun c_113 => ?_) (fun c_113 => ?_)
      ·
        refine z_s 127 hB_z dX9_year_126 rfl rfl ?_
        refine z_getR 130 hB_z fX9_51 (L4_z (zS := zS) hL) dX9_year_127 rfl rfl (r4_6 (zS := zS) hL) ?_
        refine z_getI 133 hB_z fX9_219 (L54 (zS := zS) hL) dX9_year_130 rfl rfl ?_
        refine z_s 134 hB_z dX9_year_133 rfl rfl ?_
        refine z_getR 137 hB_z fX9_47 (L4_z (zS := zS) hL) dX9_year_134 rfl rfl (r4_5 (zS := zS) hL) ?_
        refine z_getI 140 hB_z fX9_219 (L51 (zS := zS) hL) dX9_year_137 rfl rfl ?_
        refine z_s 141 hB_z dX9_year_140 rfl rfl ?_
        refine z_iret hM_z dX9_year_141 rfl ?_ rfl rfl
        have a3 : z_I (z_up zS I1) 54 3 = _ := hT1.1 3 (by decide)
        have b3 : z_I (z_up zS I1) 51 3 = z_AT A_z 3 := (hf 51 3 (by unfold z_scr; omega)).trans (hT_z.1 3 (by decide))
        exact ⟨by unfold z_ansYear; rw [if_pos hw, nI_clamp (by omega), if_neg c_113, a3, b3], I1, rfl, hf⟩
      ·
        refine z_s 117 hB_z dX9_year_116 rfl rfl ?_
        refine z_getR 120 hB_z fX9_51 (L4_z (zS := zS) hL) dX9_year_117 rfl rfl (r4_6 (zS := zS) hL) ?_
        refine z_getI 123 hB_z fX9_213 (L54 (zS := zS) hL) dX9_year_120 rfl rfl ?_
        refine z_j 141 hB_z dX9_year_123 (by decide) ?_
        refine z_iret hM_z dX9_year_141 rfl ?_ rfl rfl
        have a1_z : z_I (z_up zS I1) 54 1 = _ := hT1.1 1 (by decide)
        exact ⟨by unfold z_ansYear; rw [if_pos hw, nI_clamp (by omega), if_pos c_113, a1_z], I1, rfl, hf⟩
    ·
      have hjk : k_z < j_z := (nI_ltI (by omega) (by omega)).mp (show nI k_z < nI j_z from c_50)
      have hV1 : z_rV (z_I (z_up zS I1)) 7 (z_AV A_z) := hV.fr hf z_scr7
      refine z_s 54 hB_z dX9_year_53 rfl rfl ?_
      refine z_s 56 hB_z dX9_year_54 rfl rfl ?_
      refine z_callS 59 hB_z hM_z.2.1 kX9_283 dX9_year_56 rfl (c_X9_draw (d_z := 0)) (by omega) rfl rfl (Nat.le_of_ble_eq_true rfl) ⟨Nat.le_refl _, Nat.le_refl _⟩ ?_
      rintro _ _ ⟨rfl, rfl⟩
      refine z_s 61 hB_z dX9_year_59 rfl rfl ?_
      refine z_s 63 hB_z dX9_year_61 rfl rfl ?_
      refine z_s 65 hB_z dX9_year_63 rfl rfl ?_
      refine z_idiv 66 hB_z dX9_year_65 rfl (by decide) ?_
      refine z_s 67 hB_z dX9_year_66 rfl rfl ?_
      refine z_irem 68 hB_z dX9_year_67 rfl (by decide) ?_
      refine z_b 71 97 hB_z dX9_year_68 rfl rfl (by decide) (fun c_68 => ?_) (fun c_68 => ?_)
      ·
        have eT : z_yrT (z_AV A_z) z_z (z_yr (z_AV A_z) z_z (z_AT A_z) k_z) k_z = z_yr (z_AV A_z) z_z (z_AT A_z) k_z := if_neg c_68
        refine z_s 98 hB_z dX9_year_97 rfl rfl ?_
        refine z_s 99 hB_z dX9_year_98 rfl rfl ?_
        refine z_getR 102 hB_z fX9_51 (L4_z (zS := zS) hL) dX9_year_99 rfl rfl (r4_6 (zS := zS) hL) ?_
        refine z_s 103 hB_z dX9_year_102 rfl rfl ?_
        refine z_callV 106 hB_z hM_z.2.1 kX9_189 dX9_year_103 rfl (L4_z (zS := zS) hL) rfl (c_X9_goBy (zS := z_up zS I1) (d_z := 0) hL hV1 (by decide) (s54 hL) (eT ▸ hT1) (n_z := 1) (by decide)) (by omega) rfl rfl (Nat.le_of_ble_eq_true rfl) ⟨Nat.le_refl _, Nat.le_refl _⟩ ?_
        rintro _ _ ⟨rfl, I3, rfl, hf3, hT3, _⟩
        refine z_s 109 hB_z dX9_year_106 rfl rfl ?_
        refine z_j 47 hB_z dX9_year_109 (by decide) ?_
        exact z_wkn (ih_z hjk I3 (hf.tr (hf3.mono z_scrG)) hT3) ⟨rfl, rfl, rfl, rfl, congrArg (fun q_z => some (Value.int q_z)) (z_inc k_z), trivial⟩
      ·
        have e5_z : z_I (z_up zS I1) 54 5 = z_yr (z_AV A_z) z_z (z_AT A_z) k_z 5 := hT1.1 5 (by decide)
        have e7_z : z_I (z_up zS I1) 7 9 = nI (z_AV A_z).2.1 := hV1.2.1
        refine z_s 72 hB_z dX9_year_71 rfl rfl ?_
        refine z_getR 75 hB_z fX9_51 (L4_z (zS := zS) hL) dX9_year_72 rfl rfl (r4_6 (zS := zS) hL) ?_
        refine z_s 76 hB_z dX9_year_75 rfl rfl ?_
        refine z_getI 79 hB_z fX9_143 (L54 (zS := zS) hL) dX9_year_76 rfl rfl ?_
        refine z_s 80 hB_z dX9_year_79 rfl rfl ?_
        refine z_s 82 hB_z dX9_year_80 rfl rfl ?_
        refine z_s 83 hB_z dX9_year_82 rfl rfl ?_
        refine z_getR 86 hB_z fX9_19 (L4_z (zS := zS) hL) dX9_year_83 rfl rfl (r4_1 (zS := zS) hL) ?_
        refine z_getI 89 hB_z fX9_107 (L7 (zS := zS) hL) dX9_year_86 rfl rfl ?_
        rw [e7_z]
        refine z_callS 92 hB_z hM_z.2.1 kX9_286 dX9_year_89 rfl (c_X9_mod (d_z := 0)) (by omega) rfl rfl (Nat.le_of_ble_eq_true rfl) ⟨Nat.le_refl _, Nat.le_refl _⟩ ?_
        rintro _ _ ⟨rfl, rfl⟩
        refine z_s 93 hB_z dX9_year_92 rfl rfl ?_
        refine z_s 94 hB_z dX9_year_93 rfl rfl ?_
        rw [e5_z]
        refine z_putI 97 hB_z fX9_143 (L54 (zS := zS) hL) dX9_year_94 rfl rfl rfl ?_
        have hT2 : z_rT (z_u2 I1 54 5 (z_yr (z_AV A_z) z_z (z_AT A_z) k_z 5 ||| (1 <<< (z_mod (z_draw z_z (nI k_z)) (nI (z_AV A_z).2.1) &&& 31)))) 54 (z_yrT (z_AV A_z) z_z (z_yr (z_AV A_z) z_z (z_AT A_z) k_z) k_z) := by
          unfold z_yrT
          rw [if_pos c_68]
          exact hT1.put5 (by decide)
        have hf2 : z_fr z_scr (z_I zS) (z_u2 I1 54 5 (z_yr (z_AV A_z) z_z (z_AT A_z) k_z 5 ||| (1 <<< (z_mod (z_draw z_z (nI k_z)) (nI (z_AV A_z).2.1) &&& 31)))) := hf.u2 (by unfold z_scr; omega)
        have hV2 := hV.fr hf2 z_scr7
        refine z_s 98 hB_z dX9_year_97 rfl rfl ?_
        refine z_s 99 hB_z dX9_year_98 rfl rfl ?_
        refine z_getR 102 hB_z fX9_51 (L4_z (zS := zS) hL) dX9_year_99 rfl rfl (r4_6 (zS := zS) hL) ?_
        refine z_s 103 hB_z dX9_year_102 rfl rfl ?_
        refine z_callV 106 hB_z hM_z.2.1 kX9_189 dX9_year_103 rfl (L4_z (zS := zS) hL) rfl (c_X9_goBy (zS := z_up zS (z_u2 I1 54 5 (z_yr (z_AV A_z) z_z (z_AT A_z) k_z 5 ||| (1 <<< (z_mod (z_draw z_z (nI k_z)) (nI (z_AV A_z).2.1) &&& 31))))) (d_z := 0) hL hV2 (by decide) (s54 hL) hT2 (n_z := 1) (by decide)) (by omega) rfl rfl (Nat.le_of_ble_eq_true rfl) ⟨Nat.le_refl _, Nat.le_refl _⟩ ?_
        rintro _ _ ⟨rfl, I3, rfl, hf3, hT3, _⟩
        refine z_s 109 hB_z dX9_year_106 rfl rfl ?_
        refine z_j 47 hB_z dX9_year_109 (by decide) ?_
        exact z_wkn (ih_z hjk I3 (hf2.tr (hf3.mono z_scrG)) hT3) ⟨rfl, rfl, rfl, rfl, congrArg (fun q_z => some (Value.int q_z)) (z_inc k_z), trivial⟩) 0 (Nat.zero_le _)
  refine z_s 1 hB_z dX9_year_0 rfl rfl ?_
  refine z_b 4 31 hB_z dX9_year_1 rfl rfl (by decide) (fun c_1 => ?_) (fun c_1 => ?_)
  ·
    refine z_s 32 hB_z dX9_year_31 rfl rfl ?_
    refine z_iret hM_z dX9_year_32 rfl ?_ rfl rfl
    exact z_QP.rf (by unfold z_ansYear; rw [if_neg (fun q_z => z_nlt0 q_z.1.1 c_1)])
  ·
    refine z_s 5 hB_z dX9_year_4 rfl rfl ?_
    refine z_s 8 hB_z dX9_year_5 rfl rfl ?_
    refine z_b 11 31 hB_z dX9_year_8 rfl rfl (by decide) (fun c_8 => ?_) (fun c_8 => ?_)
    ·
      refine z_s 32 hB_z dX9_year_31 rfl rfl ?_
      refine z_iret hM_z dX9_year_32 rfl ?_ rfl rfl
      exact z_QP.rf (by unfold z_ansYear; rw [if_neg (fun q_z => z_nle0 c_8 q_z.1.2)])
    ·
      refine z_s 12 hB_z dX9_year_11 rfl rfl ?_
      refine z_s 13 hB_z dX9_year_12 rfl rfl ?_
      refine z_b 16 31 hB_z dX9_year_13 rfl rfl (by decide) (fun c_13 => ?_) (fun c_13 => ?_)
      ·
        refine z_s 32 hB_z dX9_year_31 rfl rfl ?_
        refine z_iret hM_z dX9_year_32 rfl ?_ rfl rfl
        exact z_QP.rf (by unfold z_ansYear; rw [if_neg (fun q_z => z_nlt0 q_z.2.1.1 c_13)])
      ·
        refine z_s 17 hB_z dX9_year_16 rfl rfl ?_
        refine z_s 19 hB_z dX9_year_17 rfl rfl ?_
        refine z_b 22 31 hB_z dX9_year_19 rfl rfl (by decide) (fun c_19 => ?_) (fun c_19 => ?_)
        ·
          refine z_s 32 hB_z dX9_year_31 rfl rfl ?_
          refine z_iret hM_z dX9_year_32 rfl ?_ rfl rfl
          exact z_QP.rf (by unfold z_ansYear; rw [if_neg (fun q_z => z_nle0 c_19 q_z.2.1.2)])
        ·
          refine z_s 23 hB_z dX9_year_22 rfl rfl ?_
          refine z_b 26 31 hB_z dX9_year_23 rfl rfl (by decide) (fun c_23 => ?_) (fun c_23 => ?_)
          ·
            refine z_s 32 hB_z dX9_year_31 rfl rfl ?_
            refine z_iret hM_z dX9_year_32 rfl ?_ rfl rfl
            exact z_QP.rf (by unfold z_ansYear; rw [if_neg (fun q_z => z_nlt0 q_z.2.2.1 c_23)])
          ·
            refine z_s 27 hB_z dX9_year_26 rfl rfl ?_
            refine z_s 28 hB_z dX9_year_27 rfl rfl ?_
            refine z_b 31 33 hB_z dX9_year_28 rfl rfl (by decide) (fun c_28 => ?_) (fun c_28 => ?_)
            ·
              obtain ⟨j_z, hj, rfl⟩ := z_le28 (Int32.le_trans (by decide) c_13) (m_z := 40) (by decide) c_19
              refine z_s 34 hB_z dX9_year_33 rfl rfl ?_
              refine z_getR 37 hB_z fX9_51 (L4_z (zS := zS) hL) dX9_year_34 rfl rfl (r4_6 (zS := zS) hL) ?_
              refine z_s 38 hB_z dX9_year_37 rfl rfl ?_
              refine z_getR 41 hB_z fX9_47 (L4_z (zS := zS) hL) dX9_year_38 rfl rfl (r4_5 (zS := zS) hL) ?_
              refine z_callV 44 hB_z hM_z.2.1 kX9_210 dX9_year_41 rfl (L54 (zS := zS) hL) rfl (c_X7_copy (d_z := 0) (s54 hL) (s51 hL) (by decide) (by decide)) (by omega) rfl rfl (Nat.le_of_ble_eq_true rfl) ⟨Nat.le_refl _, Nat.le_refl _⟩ ?_
              rintro _ _ ⟨rfl, I2_z, rfl, hf2, hT2⟩
              refine z_s 45 hB_z dX9_year_44 rfl rfl ?_
              refine z_s 47 hB_z dX9_year_45 rfl rfl ?_
              exact z_eq (loop j_z hj hM_z ⟨⟨c_1, c_8⟩, ⟨c_13, c_19⟩, c_23, c_28⟩ I2_z (hf2.mono z_scrT) (hT2 _ hT_z)) rfl rfl rfl
            ·
              refine z_s 32 hB_z dX9_year_31 rfl rfl ?_
              refine z_iret hM_z dX9_year_32 rfl ?_ rfl rfl
              exact z_QP.rf (by unfold z_ansYear; rw [if_neg (fun q_z => z_nle0 c_28 q_z.2.2.2)])

