/-! the model: year, dogs -/
theorem z_OA.yrT {zV : z_V} {z_z : Int32} {zT : Nat → Int32} (h_z : z_OA zT) (k_z : Nat) : z_OA (z_yrT zV z_z zT k_z) := by
  unfold z_yrT
  split
  · exact h_z.put (by decide)
  · exact h_z
theorem z_OA.yr {zV : z_V} {z_z : Int32} {zT : Nat → Int32} (h_z : z_OA zT) : ∀ k_z, z_OA (z_yr zV z_z zT k_z)
  | 0 => h_z
  | k_z + 1 => ((z_OA.yr h_z k_z).yrT k_z).nx
set_option maxHeartbeats 4000000 in
theorem c_X10_year {g_z : z_U} {d_z : Nat} {zS : z_S} {A_z : z_Ab} (hN_z : z_LM zS) (hR : z_RM (z_I zS) A_z) (hO : z_OV (z_AV A_z)) (hT_z : z_OA (z_AT A_z)) {z_z n_z what : Int32} : z_C g_z (d_z + 4) 0 0 mX10_year [.ref 99, .int z_z, .int n_z, .int what] zS (z_MQ zS (z_ansYear A_z z_z n_z what)) := by
  refine z_enter [some (.ref 99), some (.int z_z), some (.int n_z), some (.int what), none, none, none, none] rfl rfl (Nat.le_of_ble_eq_true rfl) rfl (fun zX hM_z => ?_)
  have hB_z : z_B g_z zX RX10 cX10_year 8 := hM_z.1
  have hn6 := hO.2.1
  have hn1 : 1 ≤ nI (z_AV A_z).2.1 := (nI_leI (show 1 < 2 ^ 31 by decide) (by omega)).mpr hO.1
  have loop := fun (j_z : Nat) (hj40 : j_z ≤ 40) (hM_z : z_BM g_z zX (d_z + 4) 0 0 mX10_year (z_MQ zS (z_ansYear A_z z_z (nI j_z) what))) (hw : (0 ≤ z_z ∧ z_z ≤ 9999) ∧ (1 ≤ nI j_z ∧ nI j_z ≤ 40) ∧ 0 ≤ what ∧ what ≤ 1) => z_loop (fun k_z => ∀ I1, z_f2 z_scM (z_I zS) I1 → z_rW I1 107 0 (z_yr (z_AV A_z) z_z (z_AT A_z) k_z) → I1 99 25 = -4 → z_W g_z zX 39 [some (.ref 99), some (.int z_z), some (.int (nI j_z)), some (.int what), some (.int (nI k_z)), none, none, none] [] 0 0 (z_up zS I1)) j_z (fun k_z hk ih_z I1 hf hW h25 => by
    refine z_s 41 hB_z dX10_year_39 rfl rfl ?_
    refine z_s 42 hB_z dX10_year_41 rfl rfl ?_
    refine z_b 45 126 hB_z dX10_year_42 rfl rfl (by decide) (fun c_42 => ?_) (fun c_42 => ?_)
    ·
      have hjk : k_z = j_z := by
        have := (nI_leI (by omega) (by omega)).mp (show nI j_z ≤ nI k_z from c_42)
        omega
      subst hjk
      refine z_s 127 hB_z dX10_year_126 rfl rfl ?_
      refine z_b 130 139 hB_z dX10_year_127 rfl rfl (by decide) (fun c_127 => ?_) (fun c_127 => ?_)
      ·
        refine z_s 140 hB_z dX10_year_139 rfl rfl ?_
        refine z_getR 143 hB_z fX10_31 (N99 (zS := zS) hN_z) dX10_year_140 rfl rfl (n99_16 (zS := zS) hN_z) ?_
        refine z_s 144 hB_z dX10_year_143 rfl rfl ?_
        refine z_ald 145 hB_z (N107 (zS := zS) hN_z) dX10_year_144 rfl (vp_in_nI (show 3 < 17 by decide) (by decide)) ?_
        rw [z_c3, show z_I (z_up zS I1) 107 3 = z_yr (z_AV A_z) z_z (z_AT A_z) k_z 3 from hW.a3]
        refine z_s 146 hB_z dX10_year_145 rfl rfl ?_
        refine z_getR 149 hB_z fX10_28 (N99 (zS := zS) hN_z) dX10_year_146 rfl rfl (n99_15 (zS := zS) hN_z) ?_
        refine z_s 150 hB_z dX10_year_149 rfl rfl ?_
        refine z_ald 151 hB_z (N106 (zS := zS) hN_z) dX10_year_150 rfl (vp_in_nI (show 3 < 17 by decide) (by decide)) ?_
        rw [z_c3, show z_I (z_up zS I1) 106 3 = z_AT A_z 3 from (hR.scr hf).nw.a3]
        refine z_s 152 hB_z dX10_year_151 rfl rfl ?_
        refine z_iret hM_z dX10_year_152 rfl ?_ rfl rfl
        exact z_MQ.ok (by unfold z_ansYear; rw [if_pos hw, nI_clamp (by omega), if_neg c_127]) hf
      ·
        refine z_s 131 hB_z dX10_year_130 rfl rfl ?_
        refine z_getR 134 hB_z fX10_31 (N99 (zS := zS) hN_z) dX10_year_131 rfl rfl (n99_16 (zS := zS) hN_z) ?_
        refine z_s 135 hB_z dX10_year_134 rfl rfl ?_
        refine z_ald 136 hB_z (N107 (zS := zS) hN_z) dX10_year_135 rfl (vp_in_nI (show 1 < 17 by decide) (by decide)) ?_
        rw [z_c1, show z_I (z_up zS I1) 107 1 = z_yr (z_AV A_z) z_z (z_AT A_z) k_z 1 from hW.a1]
        refine z_j 152 hB_z dX10_year_136 (by decide) ?_
        refine z_iret hM_z dX10_year_152 rfl ?_ rfl rfl
        exact z_MQ.ok (by unfold z_ansYear; rw [if_pos hw, nI_clamp (by omega), if_pos c_127]) hf
    ·
      have hjk : k_z < j_z := (nI_ltI (by omega) (by omega)).mp (show nI k_z < nI j_z from c_42)
      refine z_ldc2 48 hB_z vX10_197 dX10_year_45 rfl ?_
      refine z_s 49 hB_z dX10_year_48 rfl rfl ?_
      refine z_s 50 hB_z dX10_year_49 rfl rfl ?_
      refine z_s 51 hB_z dX10_year_50 rfl rfl ?_
      refine z_ldc2 54 hB_z vX10_199 dX10_year_51 rfl ?_
      refine z_s 56 hB_z dX10_year_54 rfl rfl ?_
      refine z_s 57 hB_z dX10_year_56 rfl rfl ?_
      refine z_s 58 hB_z dX10_year_57 rfl rfl ?_
      refine z_s 59 hB_z dX10_year_58 rfl rfl ?_
      refine z_s 60 hB_z dX10_year_59 rfl rfl ?_
      refine z_s 61 hB_z dX10_year_60 rfl rfl ?_
      refine z_s 63 hB_z dX10_year_61 rfl rfl ?_
      refine z_s 65 hB_z dX10_year_63 rfl rfl ?_
      refine z_s 67 hB_z dX10_year_65 rfl rfl ?_
      refine z_s 68 hB_z dX10_year_67 rfl rfl ?_
      refine z_ldc2 71 hB_z vX10_201 dX10_year_68 rfl ?_
      refine z_lrem 72 hB_z dX10_year_71 rfl (by decide) ?_
      refine z_ldc2 75 hB_z vX10_203 dX10_year_72 rfl ?_
      refine z_ldiv 76 hB_z dX10_year_75 rfl (by decide) ?_
      refine z_s 77 hB_z dX10_year_76 rfl rfl ?_
      refine z_xs (y_z := z_draw z_z (nI k_z)) ?_ rfl
      refine z_s 79 hB_z dX10_year_77 rfl rfl ?_
      refine z_s 81 hB_z dX10_year_79 rfl rfl ?_
      refine z_s 83 hB_z dX10_year_81 rfl rfl ?_
      refine z_idiv 84 hB_z dX10_year_83 rfl (by decide) ?_
      refine z_s 85 hB_z dX10_year_84 rfl rfl ?_
      refine z_irem 86 hB_z dX10_year_85 rfl (by decide) ?_
      refine z_b 89 111 hB_z dX10_year_86 rfl rfl (by decide) (fun c_86 => ?_) (fun c_86 => ?_)
      ·
        have eT : z_yrT (z_AV A_z) z_z (z_yr (z_AV A_z) z_z (z_AT A_z) k_z) k_z = z_yr (z_AV A_z) z_z (z_AT A_z) k_z := if_neg c_86
        have hWe : z_rW I1 107 0 (z_yrT (z_AV A_z) z_z (z_yr (z_AV A_z) z_z (z_AT A_z) k_z) k_z) := by rw [eT]; exact hW
        refine z_s 112 hB_z dX10_year_111 rfl rfl ?_
        refine z_s 113 hB_z dX10_year_112 rfl rfl ?_
        refine z_getR 116 hB_z fX10_31 (N99 (zS := zS) hN_z) dX10_year_113 rfl rfl (n99_16 (zS := zS) hN_z) ?_
        refine z_callV 119 hB_z hM_z.2.1 kX10_186 dX10_year_116 rfl (N99 (zS := zS) hN_z) rfl (c_X10_goBy (zS := z_up zS I1) (d_z := 0) hN_z hO (hR.scr hf).mv (db := -4) h25 (N107 hN_z) (Or.inr rfl) hWe (((hT_z.yr k_z).yrT k_z).to hO.2.1) (dog := z_hasDog (z_AV A_z) (z_yrT (z_AV A_z) z_z (z_yr (z_AV A_z) z_z (z_AT A_z) k_z) k_z 0)) (if_pos rfl)) (by omega) rfl rfl (Nat.le_of_ble_eq_true rfl) ⟨Nat.le_refl _, Nat.le_refl _⟩ ?_
        rintro _ _ ⟨rfl, I3, rfl, hf3, hW3, -, -⟩
        refine z_s 120 hB_z dX10_year_119 rfl rfl ?_
        refine z_s 123 hB_z dX10_year_120 rfl rfl ?_
        refine z_j 39 hB_z dX10_year_123 (by decide) ?_
        exact z_wkn (ih_z hjk I3 (hf.tr (hf3.mono z_PGM_sc)) hW3 ((hf3 99 25 (by unfold z_PGM z_PLN; omega)).trans h25)) ⟨rfl, rfl, rfl, rfl, congrArg (fun q_z => some (Value.int q_z)) (z_inc k_z), trivial⟩
      ·
        have hWe : z_rW (z_u2 I1 107 4 (z_yr (z_AV A_z) z_z (z_AT A_z) k_z 5 ||| (1 <<< ((z_draw z_z (nI k_z) - z_draw z_z (nI k_z) / nI (z_AV A_z).2.1 * nI (z_AV A_z).2.1) &&& 31)))) 107 0 (z_yrT (z_AV A_z) z_z (z_yr (z_AV A_z) z_z (z_AT A_z) k_z) k_z) := by
          have e1_z : z_yrT (z_AV A_z) z_z (z_yr (z_AV A_z) z_z (z_AT A_z) k_z) k_z = z_putT (z_yr (z_AV A_z) z_z (z_AT A_z) k_z) 5 (z_yr (z_AV A_z) z_z (z_AT A_z) k_z 5 ||| (1 <<< ((z_draw z_z (nI k_z) - z_draw z_z (nI k_z) / nI (z_AV A_z).2.1 * nI (z_AV A_z).2.1) &&& 31))) := by
            unfold z_yrT
            rw [if_pos c_86, z_mod1 hn1]
          rw [e1_z]
          exact hW.p4
        have hfe : z_f2 z_scM (z_I zS) (z_u2 I1 107 4 (z_yr (z_AV A_z) z_z (z_AT A_z) k_z 5 ||| (1 <<< ((z_draw z_z (nI k_z) - z_draw z_z (nI k_z) / nI (z_AV A_z).2.1 * nI (z_AV A_z).2.1) &&& 31)))) := hf.u2 (by unfold z_scM; omega)
        refine z_s 90 hB_z dX10_year_89 rfl rfl ?_
        refine z_getR 93 hB_z fX10_31 (N99 (zS := zS) hN_z) dX10_year_90 rfl rfl (n99_16 (zS := zS) hN_z) ?_
        refine z_s 94 hB_z dX10_year_93 rfl rfl ?_
        refine z_s 95 hB_z dX10_year_94 rfl rfl ?_
        refine z_getR 98 hB_z fX10_31 (N99 (zS := zS) hN_z) dX10_year_95 rfl rfl (n99_16 (zS := zS) hN_z) ?_
        refine z_s 99 hB_z dX10_year_98 rfl rfl ?_
        refine z_ald 100 hB_z (N107 (zS := zS) hN_z) dX10_year_99 rfl (vp_in_nI (show 4 < 17 by decide) (by decide)) ?_
        rw [z_c4, show z_I (z_up zS I1) 107 4 = z_yr (z_AV A_z) z_z (z_AT A_z) k_z 5 from hW.a4]
        refine z_s 101 hB_z dX10_year_100 rfl rfl ?_
        refine z_s 103 hB_z dX10_year_101 rfl rfl ?_
        refine z_s 104 hB_z dX10_year_103 rfl rfl ?_
        refine z_getI 107 hB_z fX10_50 (N99 (zS := zS) hN_z) dX10_year_104 rfl rfl ?_
        rw [show z_I (z_up zS I1) 99 10 = nI (z_AV A_z).2.1 from (hR.scr hf).sn]
        refine z_irem 108 hB_z dX10_year_107 rfl (z_ne1 hn1) ?_
        refine z_s 109 hB_z dX10_year_108 rfl rfl ?_
        refine z_s 110 hB_z dX10_year_109 rfl rfl ?_
        refine z_ast 111 hB_z (N107 (zS := zS) hN_z) dX10_year_110 rfl (vp_in_nI (show 4 < 17 by decide) (by decide)) ?_
        rw [z_c4]
        refine z_s 112 hB_z dX10_year_111 rfl rfl ?_
        refine z_s 113 hB_z dX10_year_112 rfl rfl ?_
        refine z_getR 116 hB_z fX10_31 (N99 (zS := zS) hN_z) dX10_year_113 rfl rfl (n99_16 (zS := zS) hN_z) ?_
        refine z_callV 119 hB_z hM_z.2.1 kX10_186 dX10_year_116 rfl (N99 (zS := zS) hN_z) rfl (c_X10_goBy (zS := z_pI (z_up zS I1) 107 4 (z_yr (z_AV A_z) z_z (z_AT A_z) k_z 5 ||| (1 <<< ((z_draw z_z (nI k_z) - z_draw z_z (nI k_z) / nI (z_AV A_z).2.1 * nI (z_AV A_z).2.1) &&& 31)))) (d_z := 0) hN_z hO (hR.scr hfe).mv (db := -4) ((z_Ine (Or.inl (by decide))).trans h25) (N107 hN_z) (Or.inr rfl) hWe (((hT_z.yr k_z).yrT k_z).to hO.2.1) (dog := z_hasDog (z_AV A_z) (z_yrT (z_AV A_z) z_z (z_yr (z_AV A_z) z_z (z_AT A_z) k_z) k_z 0)) (if_pos rfl)) (by omega) rfl rfl (Nat.le_of_ble_eq_true rfl) ⟨Nat.le_refl _, Nat.le_refl _⟩ ?_
        rintro _ _ ⟨rfl, I3, hI3, hf3, hW3, -, -⟩
        subst hI3
        refine z_s 120 hB_z dX10_year_119 rfl rfl ?_
        refine z_s 123 hB_z dX10_year_120 rfl rfl ?_
        refine z_j 39 hB_z dX10_year_123 (by decide) ?_
        exact z_wkn (ih_z hjk I3 (hfe.tr (hf3.mono z_PGM_sc)) hW3 ((hf3 99 25 (by unfold z_PGM z_PLN; omega)).trans ((z_Ine (Or.inl (by decide))).trans h25))) ⟨rfl, rfl, rfl, rfl, congrArg (fun q_z => some (Value.int q_z)) (z_inc k_z), trivial⟩) 0 (Nat.zero_le _)
  refine z_s 1 hB_z dX10_year_0 rfl rfl ?_
  refine z_s 2 hB_z dX10_year_1 rfl rfl ?_
  refine z_s 5 hB_z dX10_year_2 rfl rfl ?_
  refine z_callS 8 hB_z hM_z.2.1 kX10_67 dX10_year_5 rfl (c_X10_in (d_z := 0)) (by omega) rfl rfl (Nat.le_of_ble_eq_true rfl) ⟨Nat.le_refl _, Nat.le_refl _⟩ ?_
  rintro _ _ ⟨rfl, rfl⟩
  refine z_b 11 30 hB_z dX10_year_8 rfl rfl (by decide) (fun c_8 => ?_) (fun c_8 => ?_)
  ·
    refine z_s 31 hB_z dX10_year_30 rfl rfl ?_
    refine z_iret hM_z dX10_year_31 rfl ?_ rfl rfl
    exact z_MQ.rf (if_neg (fun q_z => z_of0 c_8 q_z.1)).symm
  ·
    refine z_s 12 hB_z dX10_year_11 rfl rfl ?_
    refine z_s 13 hB_z dX10_year_12 rfl rfl ?_
    refine z_s 15 hB_z dX10_year_13 rfl rfl ?_
    refine z_callS 18 hB_z hM_z.2.1 kX10_67 dX10_year_15 rfl (c_X10_in (d_z := 0)) (by omega) rfl rfl (Nat.le_of_ble_eq_true rfl) ⟨Nat.le_refl _, Nat.le_refl _⟩ ?_
    rintro _ _ ⟨rfl, rfl⟩
    refine z_b 21 30 hB_z dX10_year_18 rfl rfl (by decide) (fun c_18 => ?_) (fun c_18 => ?_)
    ·
      refine z_s 31 hB_z dX10_year_30 rfl rfl ?_
      refine z_iret hM_z dX10_year_31 rfl ?_ rfl rfl
      exact z_MQ.rf (if_neg (fun q_z => z_of0 c_18 q_z.2.1)).symm
    ·
      refine z_s 22 hB_z dX10_year_21 rfl rfl ?_
      refine z_s 23 hB_z dX10_year_22 rfl rfl ?_
      refine z_s 24 hB_z dX10_year_23 rfl rfl ?_
      refine z_callS 27 hB_z hM_z.2.1 kX10_67 dX10_year_24 rfl (c_X10_in (d_z := 0)) (by omega) rfl rfl (Nat.le_of_ble_eq_true rfl) ⟨Nat.le_refl _, Nat.le_refl _⟩ ?_
      rintro _ _ ⟨rfl, rfl⟩
      refine z_b 30 32 hB_z dX10_year_27 rfl rfl (by decide) (fun c_27 => ?_) (fun c_27 => ?_)
      ·
        have h3 := z_of1 c_27
        have h2 := z_of1 c_18
        obtain ⟨j_z, hj, rfl⟩ := z_le28 (Int32.le_trans (by decide) h2.1) (m_z := 40) (by decide) h2.2
        refine z_s 33 hB_z dX10_year_32 rfl rfl ?_
        refine z_callV 36 hB_z hM_z.2.1 kX10_190 dX10_year_33 rfl (N99 (zS := zS) hN_z) rfl (c_X10_begin (d_z := 0) hN_z hR) (by omega) rfl rfl (Nat.le_of_ble_eq_true rfl) ⟨Nat.le_refl _, Nat.le_refl _⟩ ?_
        rintro _ _ ⟨rfl, I1, rfl, hf1, hW1, h25⟩
        refine z_s 37 hB_z dX10_year_36 rfl rfl ?_
        refine z_s 39 hB_z dX10_year_37 rfl rfl ?_
        exact z_wkn (loop j_z hj hM_z ⟨z_of1 c_8, h2, h3⟩ I1 hf1 hW1 h25) ⟨rfl, rfl, rfl, rfl, rfl, trivial⟩
      ·
        refine z_s 31 hB_z dX10_year_30 rfl rfl ?_
        refine z_iret hM_z dX10_year_31 rfl ?_ rfl rfl
        exact z_MQ.rf (if_neg (fun q_z => z_of0 c_27 q_z.2.2)).symm

theorem z_wt_n {p_z : Nat} (hp : p_z ≤ 10) (set_z : Int32) : ∀ i_z, ∃ W_z, W_z ≤ 10 ^ i_z ∧ z_wt (nI p_z) set_z i_z = nI W_z
  | 0 => ⟨1, by decide, rfl⟩
  | i_z + 1 => by
    obtain ⟨W_z, hW, e_z⟩ := z_wt_n hp set_z i_z
    unfold z_wt
    have e3_z : (10 : Int32) - nI p_z = nI (10 - p_z) := show nI 10 - nI p_z = _ from pk_sub hp
    rw [e_z, e3_z]
    rw [Nat.pow_succ]
    split
    · exact ⟨W_z * p_z, Nat.mul_le_mul hW hp, pk_mul _ _⟩
    · exact ⟨W_z * (10 - p_z), Nat.mul_le_mul hW (by omega), pk_mul _ _⟩
theorem z_ten_n : ∀ i_z, z_ten i_z = nI (10 ^ i_z)
  | 0 => rfl
  | i_z + 1 => by
    unfold z_ten
    rw [z_ten_n i_z, Nat.pow_succ]
    exact pk_mul _ 10
theorem z_abv_n {zV : z_V} {zT : Nat → Int32} {p_z : Nat} (hp : p_z ≤ 10) (n_z : Nat) : ∀ j_z, ∃ u_z, u_z ≤ j_z * 10 ^ n_z ∧ z_abv zV zT (nI p_z) n_z j_z = nI u_z
  | 0 => ⟨0, Nat.zero_le _, rfl⟩
  | j_z + 1 => by
    obtain ⟨u_z, hu, e_z⟩ := z_abv_n (zV := zV) (zT := zT) hp n_z j_z
    obtain ⟨W_z, hW, e2_z⟩ := z_wt_n hp (nI j_z) n_z
    unfold z_abv
    rw [e_z, e2_z, Nat.succ_mul]
    split
    · exact ⟨u_z + W_z, by omega, nI_add _ _⟩
    · exact ⟨u_z, by omega, rfl⟩
theorem z_dv1 {b_z : Nat} (hb_z : ∀ z_z, z_z ∣ b_z → z_z = 1 ∨ z_z = b_z) : ∀ (n_z d_z : Nat), d_z ∣ b_z ^ n_z → ∃ i_z, i_z ≤ n_z ∧ d_z = b_z ^ i_z
  | 0, d_z, h_z => ⟨0, Nat.le_refl 0, Nat.dvd_one.mp h_z⟩
  | n_z + 1, d_z, h_z => by
    rw [Nat.pow_succ] at h_z
    obtain ⟨y_z, z_z, hy, hz, e_z⟩ := Nat.dvd_mul.mp h_z
    obtain ⟨i_z, hi_z, e1_z⟩ := z_dv1 hb_z n_z y_z hy
    rcases hb_z z_z hz with e2_z | e2_z
    · exact ⟨i_z, by omega, by rw [← e_z, e1_z, e2_z, Nat.mul_one]⟩
    · exact ⟨i_z + 1, by omega, by rw [← e_z, e1_z, e2_z, Nat.pow_succ]⟩
theorem z_p2 : ∀ z_z, z_z ∣ 2 → z_z = 1 ∨ z_z = 2 := fun z_z h_z => by
  have h1 := Nat.le_of_dvd (by decide) h_z
  rcases (show z_z = 0 ∨ z_z = 1 ∨ z_z = 2 by omega) with rfl | rfl | rfl
  · exact absurd h_z (by decide)
  · exact Or.inl rfl
  · exact Or.inr rfl
theorem z_p5 : ∀ z_z, z_z ∣ 5 → z_z = 1 ∨ z_z = 5 := fun z_z h_z => by
  have h1 := Nat.le_of_dvd (by decide) h_z
  rcases (show z_z = 0 ∨ z_z = 1 ∨ z_z = 2 ∨ z_z = 3 ∨ z_z = 4 ∨ z_z = 5 by omega) with rfl | rfl | rfl | rfl | rfl | rfl
  · exact absurd h_z (by decide)
  · exact Or.inl rfl
  · exact absurd h_z (by decide)
  · exact absurd h_z (by decide)
  · exact absurd h_z (by decide)
  · exact Or.inr rfl
theorem z_dv10 {n_z d_z : Nat} (h_z : d_z ∣ 10 ^ n_z) : ∃ i_z j_z, i_z ≤ n_z ∧ j_z ≤ n_z ∧ d_z = 2 ^ i_z * 5 ^ j_z := by
  rw [show 10 = 2 * 5 from rfl, Nat.mul_pow] at h_z
  obtain ⟨y_z, z_z, hy, hz, e_z⟩ := Nat.dvd_mul.mp h_z
  obtain ⟨i_z, hi_z, e1_z⟩ := z_dv1 z_p2 n_z y_z hy
  obtain ⟨j_z, hj, e2_z⟩ := z_dv1 z_p5 n_z z_z hz
  exact ⟨i_z, j_z, hi_z, hj, by rw [← e_z, e1_z, e2_z]⟩
/-- the shared divisor, by whole numbers -/
def z_sdA (m_z g_z t_z : Nat) : Nat := if m_z * t_z ∣ g_z then t_z * m_z else t_z * 1
def z_sdN (g_z : Nat) : Nat → Nat
  | 0 => 1
  | i_z + 1 => z_sdA 5 g_z (z_sdA 2 g_z (z_sdN g_z i_z))
theorem z_sdN_g : ∀ n_z, n_z < 7 → ∀ i_z, i_z < 7 → ∀ j_z, j_z < 7 → i_z ≤ n_z → j_z ≤ n_z → z_sdN (2 ^ i_z * 5 ^ j_z) n_z = 2 ^ i_z * 5 ^ j_z := by decide +kernel
theorem z_sdA_b {m_z g_z t_z B_z : Nat} (hm_z : 1 ≤ m_z) (h_z : 1 ≤ t_z ∧ t_z ≤ B_z) : 1 ≤ z_sdA m_z g_z t_z ∧ z_sdA m_z g_z t_z ≤ B_z * m_z := by
  unfold z_sdA
  split
  · exact ⟨Nat.mul_le_mul h_z.1 hm_z, Nat.mul_le_mul_right m_z h_z.2⟩
  · exact ⟨by omega, Nat.mul_le_mul h_z.2 hm_z⟩
theorem z_sdN_b (g_z : Nat) : ∀ i_z, 1 ≤ z_sdN g_z i_z ∧ z_sdN g_z i_z ≤ 10 ^ i_z
  | 0 => ⟨Nat.le_refl 1, Nat.le_refl 1⟩
  | i_z + 1 => by
    have h2 := z_sdA_b (m_z := 5) (g_z := g_z) (by decide) (z_sdA_b (m_z := 2) (g_z := g_z) (by decide) (z_sdN_b g_z i_z))
    refine ⟨h2.1, Nat.le_trans h2.2 (by rw [Nat.mul_assoc, Nat.pow_succ]; exact Nat.le_refl _)⟩
theorem z_dv0 {u_z k_z : Nat} (hu : u_z < 2 ^ 31) (h0 : 0 < k_z) (hk : k_z < 2 ^ 31) : nI u_z - nI u_z / nI k_z * nI k_z = 0 ↔ k_z ∣ u_z := by
  rw [pk_rem hu h0 hk, Nat.dvd_iff_mod_eq_zero]
  exact (show nI (u_z % k_z) = nI 0 ↔ u_z % k_z = 0 from nI_eq (Nat.lt_of_lt_of_le (Nat.mod_lt u_z h0) (by omega)) (by decide))
theorem z_sdS {u_z D_z m_z t_z : Nat} (hu : u_z < 2 ^ 31) (hD : D_z < 2 ^ 31) (ht : 1 ≤ t_z) (hm_z : 1 ≤ m_z) (hb_z : m_z * t_z < 2 ^ 31) : (0 < nI m_z * nI t_z ∧ nI u_z - nI u_z / (nI m_z * nI t_z) * (nI m_z * nI t_z) = 0 ∧ nI D_z - nI D_z / (nI m_z * nI t_z) * (nI m_z * nI t_z) = 0) ↔ m_z * t_z ∣ Nat.gcd u_z D_z := by
  have h0 : 0 < m_z * t_z := Nat.mul_pos (by omega) (by omega)
  rw [pk_mul, z_dv0 hu h0 hb_z, z_dv0 hD h0 hb_z, Nat.dvd_gcd_iff]
  exact ⟨fun q_z => q_z.2, fun q_z => ⟨(nI_ltI (by decide) hb_z).mpr h0, q_z⟩⟩
theorem z_sd_n {u_z D_z : Nat} (hu : u_z < 2 ^ 31) (hD : D_z < 2 ^ 31) : ∀ i_z, i_z ≤ 6 → z_sd (nI u_z) (nI D_z) i_z = nI (z_sdN (Nat.gcd u_z D_z) i_z)
  | 0, _ => rfl
  | i_z + 1, hi_z => by
    obtain ⟨h1, h2⟩ := z_sdN_b (Nat.gcd u_z D_z) i_z
    have hp : 10 ^ i_z ≤ 10 ^ 5 := Nat.pow_le_pow_right (by decide) (by omega)
    have h3 := z_sdA_b (m_z := 2) (g_z := Nat.gcd u_z D_z) (by decide) (z_sdN_b (Nat.gcd u_z D_z) i_z)
    have e1_z : z_sd1 (nI u_z) (nI D_z) (nI (z_sdN (Nat.gcd u_z D_z) i_z)) = nI (z_sdA 2 (Nat.gcd u_z D_z) (z_sdN (Nat.gcd u_z D_z) i_z)) := by
      unfold z_sd1 z_sdA
      by_cases q_z : 2 * z_sdN (Nat.gcd u_z D_z) i_z ∣ Nat.gcd u_z D_z
      · rw [if_pos q_z]
        refine (if_pos ((z_sdS (m_z := 2) hu hD h1 (by decide) (by omega)).mpr q_z)).trans (pk_mul _ 2)
      · rw [if_neg q_z]
        refine (if_neg (fun z_z => q_z ((z_sdS (m_z := 2) hu hD h1 (by decide) (by omega)).mp z_z))).trans (pk_mul _ 1)
    show z_sd2 (nI u_z) (nI D_z) (z_sd1 (nI u_z) (nI D_z) (z_sd (nI u_z) (nI D_z) i_z)) = nI (z_sdA 5 (Nat.gcd u_z D_z) (z_sdA 2 (Nat.gcd u_z D_z) (z_sdN (Nat.gcd u_z D_z) i_z)))
    rw [z_sd_n hu hD i_z (by omega), e1_z]
    unfold z_sd2
    generalize z_sdA 2 (Nat.gcd u_z D_z) (z_sdN (Nat.gcd u_z D_z) i_z) = t_z at h3
    unfold z_sdA
    by_cases q_z : 5 * t_z ∣ Nat.gcd u_z D_z
    · rw [if_pos q_z]
      refine (if_pos ((z_sdS (m_z := 5) hu hD h3.1 (by decide) (by omega)).mpr q_z)).trans (pk_mul _ 5)
    · rw [if_neg q_z]
      refine (if_neg (fun z_z => q_z ((z_sdS (m_z := 5) hu hD h3.1 (by decide) (by omega)).mp z_z))).trans (pk_mul _ 1)
theorem z_sd_gcd {u_z n_z : Nat} (hu : u_z < 2 ^ 31) (hn : n_z ≤ 6) : z_sd (nI u_z) (nI (10 ^ n_z)) n_z = nI (Nat.gcd u_z (10 ^ n_z)) ∧ 1 ≤ Nat.gcd u_z (10 ^ n_z) ∧ Nat.gcd u_z (10 ^ n_z) < 2 ^ 31 := by
  have hp : 10 ^ n_z ≤ 10 ^ 6 := Nat.pow_le_pow_right (by decide) hn
  have h0 : 0 < 10 ^ n_z := Nat.pow_pos (by decide)
  obtain ⟨i_z, j_z, hi_z, hj, e_z⟩ := z_dv10 (Nat.gcd_dvd_right u_z (10 ^ n_z))
  have hg := Nat.le_of_dvd h0 (Nat.gcd_dvd_right u_z (10 ^ n_z))
  have hg0 : 0 < Nat.gcd u_z (10 ^ n_z) := Nat.gcd_pos_of_pos_right u_z h0
  refine ⟨?_, hg0, by omega⟩
  rw [z_sd_n hu (by omega) n_z hn, e_z]
  exact congrArg nI (z_sdN_g n_z (by omega) i_z (by omega) j_z (by omega) hi_z hj)
/-- hams of i nights with dogs by a set -/
def z_hs (zV : z_V) (set_z : Int32) (zT : Nat → Int32) : Nat → Int32
  | 0 => 0
  | i_z + 1 => z_hs zV set_z zT i_z + (z_dayO zV (z_dgT zV set_z zT i_z) (z_hb set_z i_z)).2.2.1
theorem z_hs_ok {zV : z_V} (hm_z : zV.2.2.1 ≤ 10) (set_z : Int32) (zT : Nat → Int32) : ∀ i_z, ∃ H_z, H_z ≤ 10 * i_z ∧ z_hs zV set_z zT i_z = nI H_z ∧ z_dgok zV set_z zT i_z = decide (H_z = 0)
  | 0 => ⟨0, Nat.le_refl _, rfl, rfl⟩
  | i_z + 1 => by
    obtain ⟨H_z, h1, h2, h3⟩ := z_hs_ok hm_z set_z zT i_z
    obtain ⟨-, -, -, -, -, -, h_z, g1, g2, -, -⟩ := z_mn_day zV (z_dgT zV set_z zT i_z 0) (z_wlk zV (z_dgT zV set_z zT i_z) (z_hb set_z i_z)) 0 zV.2.2.1 hm_z
    have g3_z : (z_dayO zV (z_dgT zV set_z zT i_z) (z_hb set_z i_z)).2.2.1 = nI h_z := g2
    refine ⟨H_z + h_z, by omega, ?_, ?_⟩
    · show z_hs zV set_z zT i_z + _ = _
      rw [h2, g3_z]; exact nI_add _ _
    · show (z_dgok zV set_z zT i_z && !decide (0 < (z_dayO zV (z_dgT zV set_z zT i_z) (z_hb set_z i_z)).2.2.1)) = _
      rw [h3, g3_z]
      by_cases q_z : h_z = 0
      · subst q_z
        rw [decide_eq_false (show ¬ 0 < nI 0 by decide)]
        simp
      · have : 0 < nI h_z := (nI_ltI (show 0 < 2 ^ 31 by decide) (by omega)).mpr (by omega)
        rw [decide_eq_true this]
        simp only [Bool.not_true, Bool.and_false]
        exact (decide_eq_false (by omega)).symm
theorem z_OA.dgT {zV : z_V} {set_z : Int32} {zT : Nat → Int32} (h_z : z_OA zT) : ∀ i_z, z_OA (z_dgT zV set_z zT i_z)
  | 0 => h_z
  | i_z + 1 => (z_OA.dgT h_z i_z).nx
theorem z_mdg01 {zV : z_V} {b_z : Bool} {t_z : Int32} : z_mdg zV (if b_z = true then 1 else 0) t_z = b_z := by
  unfold z_mdg
  cases b_z
  · rw [if_neg (by decide)]; rfl
  · rw [if_neg (by decide)]; rfl
set_option maxHeartbeats 4000000 in
theorem c_X10_dogs {g_z : z_U} {d_z : Nat} {zS : z_S} {A_z : z_Ab} (hN_z : z_LM zS) (hR : z_RM (z_I zS) A_z) (hO : z_OV (z_AV A_z)) (hT_z : z_OA (z_AT A_z)) {n_z x_z part : Int32} : z_C g_z (d_z + 4) 0 0 mX10_dogs [.ref 99, .int n_z, .int x_z, .int part] zS (z_MQ zS (z_ansDogs A_z n_z x_z part)) := by
  refine z_enter [some (.ref 99), some (.int n_z), some (.int x_z), some (.int part), none, none, none, none, none, none] rfl rfl (Nat.le_of_ble_eq_true rfl) rfl (fun zX hM_z => ?_)
  have hB_z : z_B g_z zX RX10 cX10_dogs 10 := hM_z.1
  have hn6 := hO.2.1
  have hm10 := hO.2.2.1
  have loopB := fun (m_z p_z : Nat) (hm6 : m_z ≤ 6) (hp : p_z ≤ 10) (hin : (0 ≤ nI m_z ∧ nI m_z ≤ 6) ∧ (0 ≤ nI p_z ∧ nI p_z ≤ 10) ∧ 0 ≤ part ∧ part ≤ 1) (h64 : 2 ^ m_z ≤ 64) (hM_z : z_BM g_z zX (d_z + 4) 0 0 mX10_dogs (z_MQ zS (z_ansDogs A_z (nI m_z) (nI p_z) part))) => z_loop (fun j_z => ∀ I1, z_f2 z_scM (z_I zS) I1 → z_W g_z zX 62 [some (.ref 99), some (.int (nI m_z)), some (.int (nI p_z)), some (.int part), some (.int (z_abv (z_AV A_z) (z_AT A_z) (nI p_z) m_z j_z)), some (.int (z_ten m_z)), some (.int (nI j_z)), none, none, none] [] 0 0 (z_up zS I1)) (2 ^ m_z) (fun j_z hj ih_z I1 hf => by
    refine z_s 64 hB_z dX10_dogs_62 rfl rfl ?_
    refine z_s 65 hB_z dX10_dogs_64 rfl rfl ?_
    refine z_s 66 hB_z dX10_dogs_65 rfl rfl ?_
    refine z_s 67 hB_z dX10_dogs_66 rfl rfl ?_
    rw [z_shl _ (by omega)]
    refine z_b 70 162 hB_z dX10_dogs_67 rfl rfl (by decide) (fun c_67 => ?_) (fun c_67 => ?_)
    ·
      have hjs : j_z = 2 ^ m_z := by
        have := (nI_leI (by omega) (by omega)).mp (show nI (2 ^ m_z) ≤ nI j_z from c_67)
        omega
      subst hjs
      obtain ⟨u_z, hu, hue⟩ := z_abv_n (zV := z_AV A_z) (zT := z_AT A_z) hp m_z (2 ^ m_z)
      have hu31 : u_z < 2 ^ 31 := by
        have h1 : 2 ^ m_z ≤ 2 ^ 6 := Nat.pow_le_pow_right (by decide) hm6
        have h2 : 10 ^ m_z ≤ 10 ^ 6 := Nat.pow_le_pow_right (by decide) hm6
        have h3 : 2 ^ m_z * 10 ^ m_z ≤ 2 ^ 6 * 10 ^ 6 := Nat.mul_le_mul h1 h2
        omega
      have h10 : 10 ^ m_z < 2 ^ 31 := by
        have h2 : 10 ^ m_z ≤ 10 ^ 6 := Nat.pow_le_pow_right (by decide) hm6
        omega
      obtain ⟨hsd, hg1, hg2⟩ := z_sd_gcd hu31 hm6
      have hans : z_ansDogs A_z (nI m_z) (nI p_z) part = z_quo (if part = 0 then nI u_z else nI (10 ^ m_z)) (nI (Nat.gcd u_z (10 ^ m_z))) := by
        unfold z_ansDogs
        rw [if_pos hin, nI_clamp (by omega), hue, z_ten_n, hsd]
      obtain ⟨G_z, hG⟩ : ∃ G_z, Nat.gcd u_z (10 ^ m_z) = G_z := ⟨_, rfl⟩
      rw [hG] at hsd hg1 hg2 hans
      have hfi := hf
      have euclid : ∀ b_z a_z : Nat, a_z < 2 ^ 31 → b_z < 2 ^ 31 → Nat.gcd a_z b_z = G_z → z_W g_z zX 170 [some (.ref 99), some (.int (nI m_z)), some (.int (nI p_z)), some (.int part), some (.int (nI u_z)), some (.int (nI (10 ^ m_z))), some (.int (nI a_z)), some (.int (nI b_z)), none, none] [] 0 0 (z_up zS I1) := by
        intro b_z
        induction b_z using Nat.strongRecOn with
        | _ b_z ihb =>
          intro a_z ha_z hb_z hg
          refine z_s 172 hB_z dX10_dogs_170 rfl rfl ?_
          refine z_b 175 193 hB_z dX10_dogs_172 rfl rfl (by decide) (fun c_172 => ?_) (fun c_172 => ?_)
          ·
            have hb0 : b_z = 0 := by
              have := (nI_leI (by omega) (show 0 < 2 ^ 31 by decide)).mp (show nI b_z ≤ nI 0 from c_172)
              omega
            subst hb0
            rw [Nat.gcd_zero_right] at hg
            refine z_s 194 hB_z dX10_dogs_193 rfl rfl ?_
            refine z_b 197 202 hB_z dX10_dogs_194 rfl rfl (by decide) (fun c_194 => ?_) (fun c_194 => ?_)
            ·
              refine z_s 204 hB_z dX10_dogs_202 rfl rfl ?_
              refine z_s 206 hB_z dX10_dogs_204 rfl rfl ?_
              refine z_idiv 207 hB_z dX10_dogs_206 rfl (by rw [hg]; exact nI_ne0 hg1 hg2) ?_
              refine z_iret hM_z dX10_dogs_207 rfl ?_ rfl rfl
              exact z_MQ.ok (by rw [hg, hans, if_neg c_194]; unfold z_quo; rw [if_pos (show (0 : Int32) < nI G_z from (nI_ltI (show 0 < 2 ^ 31 by decide) hg2).mpr hg1)]) hfi
            ·
              refine z_s 199 hB_z dX10_dogs_197 rfl rfl ?_
              refine z_j 204 hB_z dX10_dogs_199 (by decide) ?_
              refine z_s 206 hB_z dX10_dogs_204 rfl rfl ?_
              refine z_idiv 207 hB_z dX10_dogs_206 rfl (by rw [hg]; exact nI_ne0 hg1 hg2) ?_
              refine z_iret hM_z dX10_dogs_207 rfl ?_ rfl rfl
              exact z_MQ.ok (by rw [hg, hans, if_pos c_194]; unfold z_quo; rw [if_pos (show (0 : Int32) < nI G_z from (nI_ltI (show 0 < 2 ^ 31 by decide) hg2).mpr hg1)]) hfi
          ·
            have hb0 : 0 < b_z := (nI_ltI (show 0 < 2 ^ 31 by decide) (by omega)).mp (show nI 0 < nI b_z from c_172)
            refine z_s 177 hB_z dX10_dogs_175 rfl rfl ?_
            refine z_s 179 hB_z dX10_dogs_177 rfl rfl ?_
            refine z_irem 180 hB_z dX10_dogs_179 rfl (nI_ne0 hb0 (by omega)) ?_
            rw [pk_rem (by omega) hb0 (by omega)]
            refine z_s 182 hB_z dX10_dogs_180 rfl rfl ?_
            refine z_s 184 hB_z dX10_dogs_182 rfl rfl ?_
            refine z_s 186 hB_z dX10_dogs_184 rfl rfl ?_
            refine z_s 188 hB_z dX10_dogs_186 rfl rfl ?_
            refine z_s 190 hB_z dX10_dogs_188 rfl rfl ?_
            refine z_j 170 hB_z dX10_dogs_190 (by decide) ?_
            exact z_wkn (ihb (a_z % b_z) (Nat.mod_lt a_z hb0) b_z (by omega) (by have := Nat.mod_lt a_z hb0; omega) (by rw [Nat.gcd_comm, ← Nat.gcd_rec, Nat.gcd_comm]; exact hg)) ⟨rfl, rfl, rfl, rfl, rfl, rfl, rfl, rfl, trivial⟩
      refine z_s 164 hB_z dX10_dogs_162 rfl rfl ?_
      refine z_s 166 hB_z dX10_dogs_164 rfl rfl ?_
      refine z_s 168 hB_z dX10_dogs_166 rfl rfl ?_
      refine z_s 170 hB_z dX10_dogs_168 rfl rfl ?_
      exact z_wkn (euclid (10 ^ m_z) u_z hu31 h10 hG) ⟨rfl, rfl, rfl, rfl, congrArg (fun q_z => some (Value.int q_z)) hue, congrArg (fun q_z => some (Value.int q_z)) (z_ten_n m_z), congrArg (fun q_z => some (Value.int q_z)) hue, congrArg (fun q_z => some (Value.int q_z)) (z_ten_n m_z), trivial⟩
    ·
      have hjs : j_z < 2 ^ m_z := (nI_ltI (by omega) (by omega)).mp (show nI j_z < nI (2 ^ m_z) from c_67)
      refine z_s 71 hB_z dX10_dogs_70 rfl rfl ?_
      refine z_callV 74 hB_z hM_z.2.1 kX10_190 dX10_dogs_71 rfl (N99 (zS := zS) hN_z) rfl (c_X10_begin (zS := z_up zS I1) (d_z := 0) hN_z (hR.scr hf)) (by omega) rfl rfl (Nat.le_of_ble_eq_true rfl) ⟨Nat.le_refl _, Nat.le_refl _⟩ ?_
      rintro _ _ ⟨rfl, I2_z, rfl, hf2, hW2, h25⟩
      have inner := z_loop (fun i_z => ∀ I2_z, z_f2 z_scM (z_I zS) I2_z → z_rW I2_z 107 0 (z_dgT (z_AV A_z) (nI j_z) (z_AT A_z) i_z) → z_W g_z zX 83 [some (.ref 99), some (.int (nI m_z)), some (.int (nI p_z)), some (.int part), some (.int (z_abv (z_AV A_z) (z_AT A_z) (nI p_z) m_z j_z)), some (.int (z_ten m_z)), some (.int (nI j_z)), some (.int (z_wt (nI p_z) (nI j_z) i_z)), some (.int (z_hs (z_AV A_z) (nI j_z) (z_AT A_z) i_z)), some (.int (nI i_z))] [] 0 0 (z_up zS I2_z)) m_z (fun i_z hi_z ihi I2_z hf hW => by
        have hh0 : z_hs (z_AV A_z) (nI j_z) (z_AT A_z) i_z = 0 ↔ z_dgok (z_AV A_z) (nI j_z) (z_AT A_z) i_z = true := by
          obtain ⟨H_z, h1, h2, h3⟩ := z_hs_ok hm10 (nI j_z) (z_AT A_z) i_z
          rw [h2, h3, decide_eq_true_eq]
          exact (show nI H_z = nI 0 ↔ H_z = 0 from nI_eq (by omega) (by decide))
        refine z_s 85 hB_z dX10_dogs_83 rfl rfl ?_
        refine z_s 86 hB_z dX10_dogs_85 rfl rfl ?_
        refine z_b 89 140 hB_z dX10_dogs_86 rfl rfl (by decide) (fun c_86 => ?_) (fun c_86 => ?_)
        ·
          have hik : i_z = m_z := by
            have := (nI_leI (by omega) (by omega)).mp (show nI m_z ≤ nI i_z from c_86)
            omega
          subst hik
          refine z_s 142 hB_z dX10_dogs_140 rfl rfl ?_
          refine z_s 144 hB_z dX10_dogs_142 rfl rfl ?_
          refine z_b 147 152 hB_z dX10_dogs_144 rfl rfl (by decide) (fun c_144 => ?_) (fun c_144 => ?_)
          ·
            have hno : ¬ z_dgok (z_AV A_z) (nI j_z) (z_AT A_z) i_z = true := fun z_z => c_144 (hh0.mpr z_z)
            refine z_s 153 hB_z dX10_dogs_152 rfl rfl ?_
            refine z_s 154 hB_z dX10_dogs_153 rfl rfl ?_
            refine z_s 156 hB_z dX10_dogs_154 rfl rfl ?_
            refine z_s 159 hB_z dX10_dogs_156 rfl rfl ?_
            refine z_j 62 hB_z dX10_dogs_159 (by decide) ?_
            exact z_wkn (ih_z hjs I2_z hf) ⟨rfl, rfl, rfl, rfl, congrArg (fun q_z => some (Value.int q_z)) (show z_abv (z_AV A_z) (z_AT A_z) (nI p_z) i_z j_z + 0 = z_abv (z_AV A_z) (z_AT A_z) (nI p_z) i_z (j_z + 1) from (z_add0 _).trans (if_neg hno).symm), rfl, congrArg (fun q_z => some (Value.int q_z)) (z_inc j_z), trivial⟩
          ·
            have hyes : z_dgok (z_AV A_z) (nI j_z) (z_AT A_z) i_z = true := hh0.mp c_144
            refine z_s 149 hB_z dX10_dogs_147 rfl rfl ?_
            refine z_j 153 hB_z dX10_dogs_149 (by decide) ?_
            refine z_s 154 hB_z dX10_dogs_153 rfl rfl ?_
            refine z_s 156 hB_z dX10_dogs_154 rfl rfl ?_
            refine z_s 159 hB_z dX10_dogs_156 rfl rfl ?_
            refine z_j 62 hB_z dX10_dogs_159 (by decide) ?_
            exact z_wkn (ih_z hjs I2_z hf) ⟨rfl, rfl, rfl, rfl, congrArg (fun q_z => some (Value.int q_z)) (show z_abv (z_AV A_z) (z_AT A_z) (nI p_z) i_z j_z + z_wt (nI p_z) (nI j_z) i_z = z_abv (z_AV A_z) (z_AT A_z) (nI p_z) i_z (j_z + 1) from (if_pos hyes).symm), rfl, congrArg (fun q_z => some (Value.int q_z)) (z_inc j_z), trivial⟩
        ·
          have hik : i_z < m_z := (nI_ltI (by omega) (by omega)).mp (show nI i_z < nI m_z from c_86)
          refine z_s 90 hB_z dX10_dogs_89 rfl rfl ?_
          refine z_s 92 hB_z dX10_dogs_90 rfl rfl ?_
          refine z_s 94 hB_z dX10_dogs_92 rfl rfl ?_
          refine z_s 95 hB_z dX10_dogs_94 rfl rfl ?_
          refine z_s 96 hB_z dX10_dogs_95 rfl rfl ?_
          refine z_s 97 hB_z dX10_dogs_96 rfl rfl ?_
          rw [z_sh1 (nI j_z) i_z]
          refine z_putI 100 hB_z fX10_139 (N99 (zS := zS) hN_z) dX10_dogs_97 rfl rfl rfl ?_
          refine z_s 102 hB_z dX10_dogs_100 rfl rfl ?_
          refine z_s 103 hB_z dX10_dogs_102 rfl rfl ?_
          refine z_getI 106 hB_z fX10_139 (N99 (zS := zS) hN_z) dX10_dogs_103 rfl rfl ?_
          rw [z_Ieq]
          refine z_s 107 hB_z dX10_dogs_106 rfl rfl ?_
          refine z_b 110 114 hB_z dX10_dogs_107 rfl rfl (by decide) (fun c_107 => ?_) (fun c_107 => ?_)
          ·
            have hbf : ¬ z_hb (nI j_z) i_z = true := fun z_z => c_107 (by rw [if_pos z_z])
            refine z_s 116 hB_z dX10_dogs_114 rfl rfl ?_
            refine z_s 117 hB_z dX10_dogs_116 rfl rfl ?_
            refine z_s 118 hB_z dX10_dogs_117 rfl rfl ?_
            refine z_s 119 hB_z dX10_dogs_118 rfl rfl ?_
            refine z_s 121 hB_z dX10_dogs_119 rfl rfl ?_
            refine z_s 123 hB_z dX10_dogs_121 rfl rfl ?_
            refine z_s 124 hB_z dX10_dogs_123 rfl rfl ?_
            refine z_s 125 hB_z dX10_dogs_124 rfl rfl ?_
            refine z_getR 128 hB_z fX10_31 (N99 (zS := zS) hN_z) dX10_dogs_125 rfl rfl (n99_16 (zS := zS) hN_z) ?_
            refine z_callV 131 hB_z hM_z.2.1 kX10_186 dX10_dogs_128 rfl (N99 (zS := zS) hN_z) rfl (c_X10_goBy (zS := z_pI (z_up zS I2_z) 99 25 (if z_hb (nI j_z) i_z = true then 1 else 0)) (d_z := 0) hN_z hO (hR.scr (hf.u2 (by unfold z_scM; omega))).mv (db := if z_hb (nI j_z) i_z = true then 1 else 0) z_Ieq (N107 hN_z) (Or.inr rfl) (hW.fr (fun k_z _ _ => z_Ine (Or.inl (by decide)))) (((hT_z.dgT i_z)).to hO.2.1) (dog := z_hb (nI j_z) i_z) z_mdg01) (by omega) rfl rfl (Nat.le_of_ble_eq_true rfl) ⟨Nat.le_refl _, Nat.le_refl _⟩ ?_
            rintro _ _ ⟨rfl, I3, hI3, hf3, hW3, -, -⟩
            subst hI3
            refine z_s 132 hB_z dX10_dogs_131 rfl rfl ?_
            refine z_s 134 hB_z dX10_dogs_132 rfl rfl ?_
            refine z_s 137 hB_z dX10_dogs_134 rfl rfl ?_
            refine z_j 83 hB_z dX10_dogs_137 (by decide) ?_
            exact z_wkn (ihi hik I3 ((hf.u2 (by unfold z_scM; omega)).tr (hf3.mono z_PGM_sc)) hW3) ⟨rfl, rfl, rfl, rfl, rfl, rfl, rfl, congrArg (fun q_z => some (Value.int q_z)) (show z_wt (nI p_z) (nI j_z) i_z * (10 - (nI p_z)) = z_wt (nI p_z) (nI j_z) (i_z + 1) from (congrArg (fun q_z => z_wt (nI p_z) (nI j_z) i_z * q_z) (if_neg hbf)).symm), rfl, congrArg (fun q_z => some (Value.int q_z)) (z_inc i_z), trivial⟩
          ·
            have hbt : z_hb (nI j_z) i_z = true := by
              cases q_z : z_hb (nI j_z) i_z with
              | true => rfl
              | false => rw [q_z] at c_107; exact absurd c_107 (by decide)
            refine z_s 111 hB_z dX10_dogs_110 rfl rfl ?_
            refine z_j 118 hB_z dX10_dogs_111 (by decide) ?_
            refine z_s 119 hB_z dX10_dogs_118 rfl rfl ?_
            refine z_s 121 hB_z dX10_dogs_119 rfl rfl ?_
            refine z_s 123 hB_z dX10_dogs_121 rfl rfl ?_
            refine z_s 124 hB_z dX10_dogs_123 rfl rfl ?_
            refine z_s 125 hB_z dX10_dogs_124 rfl rfl ?_
            refine z_getR 128 hB_z fX10_31 (N99 (zS := zS) hN_z) dX10_dogs_125 rfl rfl (n99_16 (zS := zS) hN_z) ?_
            refine z_callV 131 hB_z hM_z.2.1 kX10_186 dX10_dogs_128 rfl (N99 (zS := zS) hN_z) rfl (c_X10_goBy (zS := z_pI (z_up zS I2_z) 99 25 (if z_hb (nI j_z) i_z = true then 1 else 0)) (d_z := 0) hN_z hO (hR.scr (hf.u2 (by unfold z_scM; omega))).mv (db := if z_hb (nI j_z) i_z = true then 1 else 0) z_Ieq (N107 hN_z) (Or.inr rfl) (hW.fr (fun k_z _ _ => z_Ine (Or.inl (by decide)))) (((hT_z.dgT i_z)).to hO.2.1) (dog := z_hb (nI j_z) i_z) z_mdg01) (by omega) rfl rfl (Nat.le_of_ble_eq_true rfl) ⟨Nat.le_refl _, Nat.le_refl _⟩ ?_
            rintro _ _ ⟨rfl, I3, hI3, hf3, hW3, -, -⟩
            subst hI3
            refine z_s 132 hB_z dX10_dogs_131 rfl rfl ?_
            refine z_s 134 hB_z dX10_dogs_132 rfl rfl ?_
            refine z_s 137 hB_z dX10_dogs_134 rfl rfl ?_
            refine z_j 83 hB_z dX10_dogs_137 (by decide) ?_
            exact z_wkn (ihi hik I3 ((hf.u2 (by unfold z_scM; omega)).tr (hf3.mono z_PGM_sc)) hW3) ⟨rfl, rfl, rfl, rfl, rfl, rfl, rfl, congrArg (fun q_z => some (Value.int q_z)) (show z_wt (nI p_z) (nI j_z) i_z * (nI p_z) = z_wt (nI p_z) (nI j_z) (i_z + 1) from (congrArg (fun q_z => z_wt (nI p_z) (nI j_z) i_z * q_z) (if_pos hbt)).symm), rfl, congrArg (fun q_z => some (Value.int q_z)) (z_inc i_z), trivial⟩) 0 (Nat.zero_le _)
      refine z_s 75 hB_z dX10_dogs_74 rfl rfl ?_
      refine z_s 77 hB_z dX10_dogs_75 rfl rfl ?_
      refine z_s 78 hB_z dX10_dogs_77 rfl rfl ?_
      refine z_s 80 hB_z dX10_dogs_78 rfl rfl ?_
      refine z_s 81 hB_z dX10_dogs_80 rfl rfl ?_
      refine z_s 83 hB_z dX10_dogs_81 rfl rfl ?_
      exact z_wkn (inner I2_z (hf.tr hf2) hW2) ⟨rfl, rfl, rfl, rfl, rfl, rfl, rfl, rfl, rfl, rfl, trivial⟩) 0 (Nat.zero_le _)
  have loopA := fun (m_z p_z : Nat) (hm6 : m_z ≤ 6) (hp : p_z ≤ 10) (hin : (0 ≤ nI m_z ∧ nI m_z ≤ 6) ∧ (0 ≤ nI p_z ∧ nI p_z ≤ 10) ∧ 0 ≤ part ∧ part ≤ 1) (hM_z : z_BM g_z zX (d_z + 4) 0 0 mX10_dogs (z_MQ zS (z_ansDogs A_z (nI m_z) (nI p_z) part))) => z_loop (fun k_z => z_W g_z zX 40 [some (.ref 99), some (.int (nI m_z)), some (.int (nI p_z)), some (.int part), some (.int 0), some (.int (z_ten k_z)), some (.int (nI k_z)), none, none, none] [] 0 0 zS) m_z (fun k_z hk ih_z => by
    refine z_s 42 hB_z dX10_dogs_40 rfl rfl ?_
    refine z_s 43 hB_z dX10_dogs_42 rfl rfl ?_
    refine z_b 46 59 hB_z dX10_dogs_43 rfl rfl (by decide) (fun c_43 => ?_) (fun c_43 => ?_)
    ·
      have hkm : k_z = m_z := by
        have := (nI_leI (by omega) (by omega)).mp (show nI m_z ≤ nI k_z from c_43)
        omega
      subst hkm
      refine z_s 60 hB_z dX10_dogs_59 rfl rfl ?_
      refine z_s 62 hB_z dX10_dogs_60 rfl rfl ?_
      exact z_wkn (loopB k_z p_z hm6 hp hin (z_pow6 hm6) hM_z (z_I zS) z_f2.rf) ⟨rfl, rfl, rfl, rfl, rfl, rfl, rfl, trivial⟩
    ·
      have hkm : k_z < m_z := (nI_ltI (by omega) (by omega)).mp (show nI k_z < nI m_z from c_43)
      refine z_s 48 hB_z dX10_dogs_46 rfl rfl ?_
      refine z_s 50 hB_z dX10_dogs_48 rfl rfl ?_
      refine z_s 51 hB_z dX10_dogs_50 rfl rfl ?_
      refine z_s 53 hB_z dX10_dogs_51 rfl rfl ?_
      refine z_s 56 hB_z dX10_dogs_53 rfl rfl ?_
      refine z_j 40 hB_z dX10_dogs_56 (by decide) ?_
      exact z_wkn (ih_z hkm) ⟨rfl, rfl, rfl, rfl, rfl, rfl, congrArg (fun q_z => some (Value.int q_z)) (z_inc k_z), trivial⟩) 0 (Nat.zero_le _)
  refine z_s 1 hB_z dX10_dogs_0 rfl rfl ?_
  refine z_s 2 hB_z dX10_dogs_1 rfl rfl ?_
  refine z_s 4 hB_z dX10_dogs_2 rfl rfl ?_
  refine z_callS 7 hB_z hM_z.2.1 kX10_67 dX10_dogs_4 rfl (c_X10_in (d_z := 0)) (by omega) rfl rfl (Nat.le_of_ble_eq_true rfl) ⟨Nat.le_refl _, Nat.le_refl _⟩ ?_
  rintro _ _ ⟨rfl, rfl⟩
  refine z_b 10 29 hB_z dX10_dogs_7 rfl rfl (by decide) (fun c_7 => ?_) (fun c_7 => ?_)
  ·
    refine z_s 30 hB_z dX10_dogs_29 rfl rfl ?_
    refine z_iret hM_z dX10_dogs_30 rfl ?_ rfl rfl
    exact z_MQ.rf (if_neg (fun q_z => z_of0 c_7 q_z.1)).symm
  ·
    refine z_s 11 hB_z dX10_dogs_10 rfl rfl ?_
    refine z_s 12 hB_z dX10_dogs_11 rfl rfl ?_
    refine z_s 14 hB_z dX10_dogs_12 rfl rfl ?_
    refine z_callS 17 hB_z hM_z.2.1 kX10_67 dX10_dogs_14 rfl (c_X10_in (d_z := 0)) (by omega) rfl rfl (Nat.le_of_ble_eq_true rfl) ⟨Nat.le_refl _, Nat.le_refl _⟩ ?_
    rintro _ _ ⟨rfl, rfl⟩
    refine z_b 20 29 hB_z dX10_dogs_17 rfl rfl (by decide) (fun c_17 => ?_) (fun c_17 => ?_)
    ·
      refine z_s 30 hB_z dX10_dogs_29 rfl rfl ?_
      refine z_iret hM_z dX10_dogs_30 rfl ?_ rfl rfl
      exact z_MQ.rf (if_neg (fun q_z => z_of0 c_17 q_z.2.1)).symm
    ·
      refine z_s 21 hB_z dX10_dogs_20 rfl rfl ?_
      refine z_s 22 hB_z dX10_dogs_21 rfl rfl ?_
      refine z_s 23 hB_z dX10_dogs_22 rfl rfl ?_
      refine z_callS 26 hB_z hM_z.2.1 kX10_67 dX10_dogs_23 rfl (c_X10_in (d_z := 0)) (by omega) rfl rfl (Nat.le_of_ble_eq_true rfl) ⟨Nat.le_refl _, Nat.le_refl _⟩ ?_
      rintro _ _ ⟨rfl, rfl⟩
      refine z_b 29 31 hB_z dX10_dogs_26 rfl rfl (by decide) (fun c_26 => ?_) (fun c_26 => ?_)
      ·
        have h1 := z_of1 c_7
        have h2 := z_of1 c_17
        have h3 := z_of1 c_26
        obtain ⟨m_z, hm6, rfl⟩ := z_le28 h1.1 (m_z := 6) (by decide) h1.2
        obtain ⟨p_z, hp, rfl⟩ := z_le28 h2.1 (m_z := 10) (by decide) h2.2
        refine z_s 32 hB_z dX10_dogs_31 rfl rfl ?_
        refine z_s 34 hB_z dX10_dogs_32 rfl rfl ?_
        refine z_s 35 hB_z dX10_dogs_34 rfl rfl ?_
        refine z_s 37 hB_z dX10_dogs_35 rfl rfl ?_
        refine z_s 38 hB_z dX10_dogs_37 rfl rfl ?_
        refine z_s 40 hB_z dX10_dogs_38 rfl rfl ?_
        exact z_wkn (loopA m_z p_z hm6 hp ⟨h1, h2, h3⟩ hM_z) ⟨rfl, rfl, rfl, rfl, rfl, rfl, rfl, trivial⟩
      ·
        refine z_s 30 hB_z dX10_dogs_29 rfl rfl ?_
        refine z_iret hM_z dX10_dogs_30 rfl ?_ rfl rfl
        exact z_MQ.rf (if_neg (fun q_z => z_of0 c_26 q_z.2.2)).symm

