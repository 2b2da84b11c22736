/-! the questions of the cells -/
theorem z_tout {x_z : Int32} {m_z : Nat} (hm_z : m_z < 1000) (h_z : ¬ (0 ≤ x_z ∧ x_z ≤ nI m_z)) : x_z.toInt < 0 ∨ (m_z : Int) < x_z.toInt := by
  rcases Int.lt_or_le x_z.toInt 0 with q_z | q_z
  · exact Or.inl q_z
  · rcases Int.lt_or_le (m_z : Int) x_z.toInt with q2_z | q2_z
    · exact Or.inr q2_z
    · exact absurd ⟨Int32.le_iff_toInt_le.mpr (by rw [Int32.toInt_zero]; exact q_z), Int32.le_iff_toInt_le.mpr (by rw [nI_toInt (by omega)]; exact q2_z)⟩ h_z
theorem z_QP.rf {zS : z_S} {x_z y_z : Int32} (h_z : y_z = x_z) : z_QP zS y_z (some (.int x_z)) zS := ⟨by rw [h_z], z_I zS, rfl, z_fr.rf⟩
def z_ansStaff (A_z : z_Ab) (s_z what : Int32) : Int32 := if (0 ≤ s_z ∧ s_z < nI (z_AV A_z).2.1) ∧ 0 ≤ what ∧ what ≤ 6 then
  (if what = 0 then (z_AV A_z).1 0 s_z.toNatClampNeg else if what = 1 then (z_AV A_z).1 1 s_z.toNatClampNeg else if what = 2 then (z_AV A_z).1 2 s_z.toNatClampNeg else if what = 3 then (z_AV A_z).1 3 s_z.toNatClampNeg
  else if what = 4 then (if z_hb (z_wlk (z_AV A_z) (z_AT A_z) (z_hasDog (z_AV A_z) (z_AT A_z 0))) s_z.toNatClampNeg = true then 1 else 0) else if what = 5 then z_AT A_z (6 + s_z.toNatClampNeg) else (if z_hb (z_AT A_z 5) s_z.toNatClampNeg = true then 1 else 0)) else -1
def z_ansCust (A_z : z_Ab) (c_z what : Int32) : Int32 := if (0 ≤ c_z ∧ c_z < nI (z_AV A_z).2.2.1) ∧ 0 ≤ what ∧ what ≤ 5 then
  (if what = 0 then (z_AV A_z).1 4 c_z.toNatClampNeg else if what = 1 then (z_AV A_z).1 5 c_z.toNatClampNeg else if what = 2 then (z_AV A_z).1 6 c_z.toNatClampNeg else if what = 3 then (z_AV A_z).1 7 c_z.toNatClampNeg
  else if what = 4 then (if z_comes (z_AV A_z) (z_AT A_z 0) c_z.toNatClampNeg = true then 1 else 0) else (z_dayO (z_AV A_z) (z_AT A_z) (z_hasDog (z_AV A_z) (z_AT A_z 0))).2.2.2.2.2.2 c_z.toNatClampNeg) else -1
def z_ansQuarrel (A_z : z_Ab) (a_z b_z : Int32) : Int32 := if (0 ≤ a_z ∧ a_z < nI (z_AV A_z).2.1) ∧ (0 ≤ b_z ∧ b_z < nI (z_AV A_z).2.1) ∧ a_z ≠ b_z then (if z_hb (z_AT A_z 4) (z_pr a_z.toNatClampNeg b_z.toNatClampNeg) = true then 1 else 0) else -1
def z_ansCount (A_z : z_Ab) (what : Int32) : Int32 := if what = 0 then nI (z_AV A_z).2.1 else if what = 1 then nI (z_AV A_z).2.2.1 else if what = 2 then z_bc (z_AT A_z 4) else if what = 3 then z_AT A_z 0 else if what = 4 then z_bc (z_wlk (z_AV A_z) (z_AT A_z) (z_hasDog (z_AV A_z) (z_AT A_z 0)))
  else if what = 5 then z_AT A_z 1 else if what = 6 then z_AT A_z 2 else if what = 7 then z_AT A_z 3 else if what = 8 then nI (z_AS A_z).2.2.2 else if what = 9 then nI (z_AU A_z).2 else if what = 10 then nI (z_AK A_z).2 else if what = 11 then nI (z_AX A_z).2 else -1
theorem c_X9_quarrel {g_z : z_U} {d_z : Nat} {zS : z_S} {A_z : z_Ab} (hC : z_RC zS A_z) {a_z b_z : Int32} : z_C g_z (d_z + 2) 0 0 mX9_quarrel [.ref 4, .int a_z, .int b_z] zS (z_QP zS (z_ansQuarrel A_z a_z b_z)) := by
  refine z_enter [some (.ref 4), some (.int a_z), some (.int b_z)] rfl rfl (Nat.le_of_ble_eq_true rfl) rfl (fun zX hM_z => ?_)
  have hB_z : z_B g_z zX RX9 cX9_quarrel 3 := hM_z.1
  obtain ⟨hL, hV, hT_z, hU, hK_z, hS_z, hX⟩ := id hC
  have hn : z_I zS 7 9 = nI (z_AV A_z).2.1 := hV.2.1
  have hm_z : z_I zS 7 10 = nI (z_AV A_z).2.2.1 := hV.2.2.1
  have hn6 := hV.2.2.2.2.1
  have hm10 := hV.2.2.2.2.2
  refine z_s 1 hB_z dX9_quarrel_0 rfl rfl ?_
  refine z_s 2 hB_z dX9_quarrel_1 rfl rfl ?_
  refine z_s 3 hB_z dX9_quarrel_2 rfl rfl ?_
  refine z_callV 6 hB_z hM_z.2.1 kX9_170 dX9_quarrel_3 rfl (L4_z (zS := zS) hL) rfl (c_X9_areTwoStaff (d_z := 0) hL hn) (by omega) rfl rfl (Nat.le_of_ble_eq_true rfl) ⟨Nat.le_refl _, Nat.le_refl _⟩ ?_
  rintro _ _ ⟨rfl, v1_z, rfl, hv1⟩
  refine z_b 9 11 hB_z dX9_quarrel_6 rfl rfl (by decide) (fun c_6 => ?_) (fun c_6 => ?_)
  ·
    rcases hv1 with ⟨w0_z, _⟩ | ⟨_, w1_z, w2_z, w3_z⟩
    · exact absurd w0_z c_6
    obtain ⟨i_z, hi_z, rfl⟩ := w1_z.of (by omega)
    obtain ⟨j_z, hj, rfl⟩ := w2_z.of (by omega)
    have hij : i_z ≠ j_z := fun q_z => w3_z (by rw [q_z])
    have hp31 : z_pr i_z j_z < 31 := by unfold z_pr; split <;> omega
    have e4_z : z_I zS 51 4 = z_AT A_z 4 := hT_z.1 4 (by decide)
    refine z_s 12 hB_z dX9_quarrel_11 rfl rfl ?_
    refine z_getR 15 hB_z fX9_47 (L4_z (zS := zS) hL) dX9_quarrel_12 rfl rfl (r4_5 (zS := zS) hL) ?_
    refine z_getI 18 hB_z fX9_173 (L51 (zS := zS) hL) dX9_quarrel_15 rfl rfl ?_
    refine z_s 19 hB_z dX9_quarrel_18 rfl rfl ?_
    refine z_s 20 hB_z dX9_quarrel_19 rfl rfl ?_
    refine z_callS 23 hB_z hM_z.2.1 kX9_176 dX9_quarrel_20 rfl (c_pr (d_z := 0) hij (by omega) (by omega)) (by omega) rfl rfl (Nat.le_of_ble_eq_true rfl) ⟨Nat.le_refl _, Nat.le_refl _⟩ ?_
    rintro _ _ ⟨rfl, rfl⟩
    rw [e4_z]
    refine z_callS 26 hB_z hM_z.2.1 kX9_136 dX9_quarrel_23 rfl (c_bit (d_z := 0)) (by omega) rfl rfl (Nat.le_of_ble_eq_true rfl) ⟨Nat.le_refl _, Nat.le_refl _⟩ ?_
    rintro _ _ ⟨rfl, rfl⟩
    refine z_iret hM_z dX9_quarrel_26 rfl ?_ rfl rfl
    exact z_QP.rf (by unfold z_ansQuarrel; rw [if_pos ⟨w1_z, w2_z, w3_z⟩, nI_clamp (by omega), nI_clamp (by omega)])
  ·
    refine z_s 10 hB_z dX9_quarrel_9 rfl rfl ?_
    refine z_iret hM_z dX9_quarrel_10 rfl ?_ rfl rfl
    rcases hv1 with ⟨_, w1_z⟩ | ⟨w0_z, _⟩
    · exact z_QP.rf (by unfold z_ansQuarrel; rw [if_neg w1_z])
    · rw [w0_z] at c_6; exact absurd c_6 (by decide)

set_option maxHeartbeats 1000000 in
theorem c_X9_staff {g_z : z_U} {d_z : Nat} {zS : z_S} {A_z : z_Ab} (hC : z_RC zS A_z) {s_z what : Int32} : z_C g_z (d_z + 4) 0 0 mX9_staff [.ref 4, .int s_z, .int what] zS (z_QP zS (z_ansStaff A_z s_z what)) := by
  refine z_enter [some (.ref 4), some (.int s_z), some (.int what)] rfl rfl (Nat.le_of_ble_eq_true rfl) rfl (fun zX hM_z => ?_)
  have hB_z : z_B g_z zX RX9 cX9_staff 3 := hM_z.1
  obtain ⟨hL, hV, hT_z, hU, hK_z, hS_z, hX⟩ := id hC
  have hn : z_I zS 7 9 = nI (z_AV A_z).2.1 := hV.2.1
  have hm_z : z_I zS 7 10 = nI (z_AV A_z).2.2.1 := hV.2.2.1
  have hn6 := hV.2.2.2.2.1
  have hm10 := hV.2.2.2.2.2
  refine z_s 1 hB_z dX9_staff_0 rfl rfl ?_
  refine z_s 2 hB_z dX9_staff_1 rfl rfl ?_
  refine z_callV 5 hB_z hM_z.2.1 kX9_110 dX9_staff_2 rfl (L4_z (zS := zS) hL) rfl (c_X9_isStaff (d_z := 0) hL hn) (by omega) rfl rfl (Nat.le_of_ble_eq_true rfl) ⟨Nat.le_refl _, Nat.le_refl _⟩ ?_
  rintro _ _ ⟨rfl, v1_z, rfl, hv1⟩
  refine z_b 8 10 hB_z dX9_staff_5 rfl rfl (by decide) (fun c_5 => ?_) (fun c_5 => ?_)
  ·
    rcases hv1 with ⟨w0_z, _⟩ | ⟨_, w1_z⟩
    · exact absurd w0_z c_5
    obtain ⟨j_z, hj, rfl⟩ := w1_z.of (by omega)
    refine z_s 11 hB_z dX9_staff_10 rfl rfl ?_
    by_cases hw : 0 ≤ what ∧ what ≤ nI 6
    · obtain ⟨k_z, hk, rfl⟩ := z_le28 hw.1 (m_z := 6) (by decide) hw.2
      rcases (show k_z = 0 ∨ k_z = 1 ∨ k_z = 2 ∨ k_z = 3 ∨ k_z = 4 ∨ k_z = 5 ∨ k_z = 6 by omega) with rfl | rfl | rfl | rfl | rfl | rfl | rfl
      · refine z_tsw hB_z dX9_staff_11 52 (by decide) (by decide) ?_
        refine z_s 53 hB_z dX9_staff_52 rfl rfl ?_
        refine z_getR 56 hB_z fX9_19 (L4_z (zS := zS) hL) dX9_staff_53 rfl rfl (r4_1 (zS := zS) hL) ?_
        refine z_getR 59 hB_z fX9_114 (L7 (zS := zS) hL) dX9_staff_56 rfl rfl (r7_0 (zS := zS) hL) ?_
        refine z_s 60 hB_z dX9_staff_59 rfl rfl ?_
        refine z_callV 63 hB_z hM_z.2.1 kX9_118 dX9_staff_60 rfl (L8_z (zS := zS) hL) rfl (c_at (d_z := 0) (w8 hL) (by decide) (by omega)) (by omega) rfl rfl (Nat.le_of_ble_eq_true rfl) ⟨Nat.le_refl _, Nat.le_refl _⟩ ?_
        rintro _ _ ⟨rfl, rfl⟩
        refine z_iret hM_z dX9_staff_63 rfl ?_ rfl rfl
        exact z_QP.rf (by unfold z_ansStaff; rw [if_pos ⟨w1_z, hw⟩, nI_clamp (show j_z < 2 ^ 31 by omega), if_pos (show nI 0 = 0 from rfl)]; exact (hV.1 0 (by decide) j_z (show j_z < 6 by omega)).symm)
      · refine z_tsw hB_z dX9_staff_11 64 (by decide) (by decide) ?_
        refine z_s 65 hB_z dX9_staff_64 rfl rfl ?_
        refine z_getR 68 hB_z fX9_19 (L4_z (zS := zS) hL) dX9_staff_65 rfl rfl (r4_1 (zS := zS) hL) ?_
        refine z_getR 71 hB_z fX9_124 (L7 (zS := zS) hL) dX9_staff_68 rfl rfl (r7_1 (zS := zS) hL) ?_
        refine z_s 72 hB_z dX9_staff_71 rfl rfl ?_
        refine z_callV 75 hB_z hM_z.2.1 kX9_118 dX9_staff_72 rfl (L10 (zS := zS) hL) rfl (c_at (d_z := 0) (w10_z hL) (by decide) (by omega)) (by omega) rfl rfl (Nat.le_of_ble_eq_true rfl) ⟨Nat.le_refl _, Nat.le_refl _⟩ ?_
        rintro _ _ ⟨rfl, rfl⟩
        refine z_iret hM_z dX9_staff_75 rfl ?_ rfl rfl
        exact z_QP.rf (by unfold z_ansStaff; rw [if_pos ⟨w1_z, hw⟩, nI_clamp (show j_z < 2 ^ 31 by omega), if_neg (show ¬ nI 1 = 0 by decide), if_pos (show nI 1 = 1 from rfl)]; exact (hV.1 1 (by decide) j_z (show j_z < 6 by omega)).symm)
      · refine z_tsw hB_z dX9_staff_11 76 (by decide) (by decide) ?_
        refine z_s 77 hB_z dX9_staff_76 rfl rfl ?_
        refine z_getR 80 hB_z fX9_19 (L4_z (zS := zS) hL) dX9_staff_77 rfl rfl (r4_1 (zS := zS) hL) ?_
        refine z_getR 83 hB_z fX9_127 (L7 (zS := zS) hL) dX9_staff_80 rfl rfl (r7_2 (zS := zS) hL) ?_
        refine z_s 84 hB_z dX9_staff_83 rfl rfl ?_
        refine z_callV 87 hB_z hM_z.2.1 kX9_118 dX9_staff_84 rfl (L12_z (zS := zS) hL) rfl (c_at (d_z := 0) (w12 hL) (by decide) (by omega)) (by omega) rfl rfl (Nat.le_of_ble_eq_true rfl) ⟨Nat.le_refl _, Nat.le_refl _⟩ ?_
        rintro _ _ ⟨rfl, rfl⟩
        refine z_iret hM_z dX9_staff_87 rfl ?_ rfl rfl
        exact z_QP.rf (by unfold z_ansStaff; rw [if_pos ⟨w1_z, hw⟩, nI_clamp (show j_z < 2 ^ 31 by omega), if_neg (show ¬ nI 2 = 0 by decide), if_neg (show ¬ nI 2 = 1 by decide), if_pos (show nI 2 = 2 from rfl)]; exact (hV.1 2 (by decide) j_z (show j_z < 6 by omega)).symm)
      · refine z_tsw hB_z dX9_staff_11 88 (by decide) (by decide) ?_
        refine z_s 89 hB_z dX9_staff_88 rfl rfl ?_
        refine z_getR 92 hB_z fX9_19 (L4_z (zS := zS) hL) dX9_staff_89 rfl rfl (r4_1 (zS := zS) hL) ?_
        refine z_getR 95 hB_z fX9_130 (L7 (zS := zS) hL) dX9_staff_92 rfl rfl (r7_3 (zS := zS) hL) ?_
        refine z_s 96 hB_z dX9_staff_95 rfl rfl ?_
        refine z_callV 99 hB_z hM_z.2.1 kX9_118 dX9_staff_96 rfl (L14 (zS := zS) hL) rfl (c_at (d_z := 0) (w14_z hL) (by decide) (by omega)) (by omega) rfl rfl (Nat.le_of_ble_eq_true rfl) ⟨Nat.le_refl _, Nat.le_refl _⟩ ?_
        rintro _ _ ⟨rfl, rfl⟩
        refine z_iret hM_z dX9_staff_99 rfl ?_ rfl rfl
        exact z_QP.rf (by unfold z_ansStaff; rw [if_pos ⟨w1_z, hw⟩, nI_clamp (show j_z < 2 ^ 31 by omega), if_neg (show ¬ nI 3 = 0 by decide), if_neg (show ¬ nI 3 = 1 by decide), if_neg (show ¬ nI 3 = 2 by decide), if_pos (show nI 3 = 3 from rfl)]; exact (hV.1 3 (by decide) j_z (show j_z < 6 by omega)).symm)
      · refine z_tsw hB_z dX9_staff_11 100 (by decide) (by decide) ?_
        refine z_s 101 hB_z dX9_staff_100 rfl rfl ?_
        refine z_callV 104 hB_z hM_z.2.1 kX9_133 dX9_staff_101 rfl (L4_z (zS := zS) hL) rfl (c_X9_walkersTonight (d_z := 0) hL hV hT_z) (by omega) rfl rfl (Nat.le_of_ble_eq_true rfl) ⟨Nat.le_refl _, Nat.le_refl _⟩ ?_
        rintro _ _ ⟨rfl, I2_z, rfl, hf2⟩
        refine z_s 105 hB_z dX9_staff_104 rfl rfl ?_
        refine z_callS 108 hB_z hM_z.2.1 kX9_136 dX9_staff_105 rfl (c_bit (d_z := 0)) (by omega) rfl rfl (Nat.le_of_ble_eq_true rfl) ⟨Nat.le_refl _, Nat.le_refl _⟩ ?_
        rintro _ _ ⟨rfl, rfl⟩
        refine z_iret hM_z dX9_staff_108 rfl ?_ rfl rfl
        refine ⟨congrArg (fun q_z => some (Value.int q_z)) (Eq.symm ?_), I2_z, rfl, hf2.mono z_scrN⟩
        unfold z_ansStaff
        rw [if_pos ⟨w1_z, hw⟩, nI_clamp (show j_z < 2 ^ 31 by omega), if_neg (show ¬ nI 4 = 0 by decide), if_neg (show ¬ nI 4 = 1 by decide), if_neg (show ¬ nI 4 = 2 by decide), if_neg (show ¬ nI 4 = 3 by decide), if_pos (show nI 4 = 4 from rfl)]
      · refine z_tsw hB_z dX9_staff_11 109 (by decide) (by decide) ?_
        refine z_s 110 hB_z dX9_staff_109 rfl rfl ?_
        refine z_getR 113 hB_z fX9_47 (L4_z (zS := zS) hL) dX9_staff_110 rfl rfl (r4_5 (zS := zS) hL) ?_
        refine z_getR 116 hB_z fX9_140 (L51 (zS := zS) hL) dX9_staff_113 rfl rfl (r51_6 (zS := zS) hL) ?_
        refine z_s 117 hB_z dX9_staff_116 rfl rfl ?_
        refine z_callV 120 hB_z hM_z.2.1 kX9_118 dX9_staff_117 rfl (L52 (zS := zS) hL) rfl (c_at (d_z := 0) (w52 hL) (by decide) (by omega)) (by omega) rfl rfl (Nat.le_of_ble_eq_true rfl) ⟨Nat.le_refl _, Nat.le_refl _⟩ ?_
        rintro _ _ ⟨rfl, rfl⟩
        refine z_iret hM_z dX9_staff_120 rfl ?_ rfl rfl
        exact z_QP.rf (by unfold z_ansStaff; rw [if_pos ⟨w1_z, hw⟩, nI_clamp (show j_z < 2 ^ 31 by omega), if_neg (show ¬ nI 5 = 0 by decide), if_neg (show ¬ nI 5 = 1 by decide), if_neg (show ¬ nI 5 = 2 by decide), if_neg (show ¬ nI 5 = 3 by decide), if_neg (show ¬ nI 5 = 4 by decide), if_pos (show nI 5 = 5 from rfl)]; exact (hT_z.2 j_z (by omega)).symm)
      · refine z_tsw hB_z dX9_staff_11 121 (by decide) (by decide) ?_
        refine z_s 122 hB_z dX9_staff_121 rfl rfl ?_
        refine z_getR 125 hB_z fX9_47 (L4_z (zS := zS) hL) dX9_staff_122 rfl rfl (r4_5 (zS := zS) hL) ?_
        refine z_getI 128 hB_z fX9_143 (L51 (zS := zS) hL) dX9_staff_125 rfl rfl ?_
        refine z_s 129 hB_z dX9_staff_128 rfl rfl ?_
        rw [show z_I zS 51 5 = z_AT A_z 5 from hT_z.1 5 (by decide)]
        refine z_callS 132 hB_z hM_z.2.1 kX9_136 dX9_staff_129 rfl (c_bit (d_z := 0)) (by omega) rfl rfl (Nat.le_of_ble_eq_true rfl) ⟨Nat.le_refl _, Nat.le_refl _⟩ ?_
        rintro _ _ ⟨rfl, rfl⟩
        refine z_iret hM_z dX9_staff_132 rfl ?_ rfl rfl
        exact z_QP.rf (by unfold z_ansStaff; rw [if_pos ⟨w1_z, hw⟩, nI_clamp (show j_z < 2 ^ 31 by omega), if_neg (show ¬ nI 6 = 0 by decide), if_neg (show ¬ nI 6 = 1 by decide), if_neg (show ¬ nI 6 = 2 by decide), if_neg (show ¬ nI 6 = 3 by decide), if_neg (show ¬ nI 6 = 4 by decide), if_neg (show ¬ nI 6 = 5 by decide)])
    · have ho : what.toInt < 0 ∨ 6 < what.toInt := z_tout (m_z := 6) (by decide) hw
      refine z_tsw hB_z dX9_staff_11 133 (by rw [if_pos ho]; decide) (fun q1_z q2_z => by rcases ho with h_z | h_z <;> omega) ?_
      refine z_s 134 hB_z dX9_staff_133 rfl rfl ?_
      refine z_iret hM_z dX9_staff_134 rfl ?_ rfl rfl
      exact z_QP.rf (by unfold z_ansStaff; rw [if_neg (fun q_z => hw q_z.2)])
  ·
    refine z_s 9 hB_z dX9_staff_8 rfl rfl ?_
    refine z_iret hM_z dX9_staff_9 rfl ?_ rfl rfl
    rcases hv1 with ⟨_, w1_z⟩ | ⟨w0_z, _⟩
    · exact z_QP.rf (by unfold z_ansStaff; rw [if_neg (fun q_z => w1_z q_z.1)])
    · rw [w0_z] at c_5; exact absurd c_5 (by decide)

set_option maxHeartbeats 1000000 in
theorem c_X9_customer {g_z : z_U} {d_z : Nat} {zS : z_S} {A_z : z_Ab} (hC : z_RC zS A_z) {c_z what : Int32} : z_C g_z (d_z + 6) 0 0 mX9_customer [.ref 4, .int c_z, .int what] zS (z_QP zS (z_ansCust A_z c_z what)) := by
  refine z_enter [some (.ref 4), some (.int c_z), some (.int what)] rfl rfl (Nat.le_of_ble_eq_true rfl) rfl (fun zX hM_z => ?_)
  have hB_z : z_B g_z zX RX9 cX9_customer 3 := hM_z.1
  obtain ⟨hL, hV, hT_z, hU, hK_z, hS_z, hX⟩ := id hC
  have hn : z_I zS 7 9 = nI (z_AV A_z).2.1 := hV.2.1
  have hm_z : z_I zS 7 10 = nI (z_AV A_z).2.2.1 := hV.2.2.1
  have hn6 := hV.2.2.2.2.1
  have hm10 := hV.2.2.2.2.2
  refine z_s 1 hB_z dX9_customer_0 rfl rfl ?_
  refine z_s 2 hB_z dX9_customer_1 rfl rfl ?_
  refine z_callV 5 hB_z hM_z.2.1 kX9_146 dX9_customer_2 rfl (L4_z (zS := zS) hL) rfl (c_X9_isCustomer (d_z := 0) hL hm_z) (by omega) rfl rfl (Nat.le_of_ble_eq_true rfl) ⟨Nat.le_refl _, Nat.le_refl _⟩ ?_
  rintro _ _ ⟨rfl, v1_z, rfl, hv1⟩
  refine z_b 8 10 hB_z dX9_customer_5 rfl rfl (by decide) (fun c_5 => ?_) (fun c_5 => ?_)
  ·
    rcases hv1 with ⟨w0_z, _⟩ | ⟨_, w1_z⟩
    · exact absurd w0_z c_5
    obtain ⟨j_z, hj, rfl⟩ := w1_z.of (by omega)
    refine z_s 11 hB_z dX9_customer_10 rfl rfl ?_
    by_cases hw : 0 ≤ what ∧ what ≤ nI 5
    · obtain ⟨k_z, hk, rfl⟩ := z_le28 hw.1 (m_z := 5) (by decide) hw.2
      rcases (show k_z = 0 ∨ k_z = 1 ∨ k_z = 2 ∨ k_z = 3 ∨ k_z = 4 ∨ k_z = 5 by omega) with rfl | rfl | rfl | rfl | rfl | rfl
      · refine z_tsw hB_z dX9_customer_11 48 (by decide) (by decide) ?_
        refine z_s 49 hB_z dX9_customer_48 rfl rfl ?_
        refine z_getR 52 hB_z fX9_19 (L4_z (zS := zS) hL) dX9_customer_49 rfl rfl (r4_1 (zS := zS) hL) ?_
        refine z_getR 55 hB_z fX9_149 (L7 (zS := zS) hL) dX9_customer_52 rfl rfl (r7_4 (zS := zS) hL) ?_
        refine z_s 56 hB_z dX9_customer_55 rfl rfl ?_
        refine z_callV 59 hB_z hM_z.2.1 kX9_118 dX9_customer_56 rfl (L16 (zS := zS) hL) rfl (c_at (d_z := 0) (w16 hL) (by decide) (by omega)) (by omega) rfl rfl (Nat.le_of_ble_eq_true rfl) ⟨Nat.le_refl _, Nat.le_refl _⟩ ?_
        rintro _ _ ⟨rfl, rfl⟩
        refine z_iret hM_z dX9_customer_59 rfl ?_ rfl rfl
        exact z_QP.rf (by unfold z_ansCust; rw [if_pos ⟨w1_z, hw⟩, nI_clamp (show j_z < 2 ^ 31 by omega), if_pos (show nI 0 = 0 from rfl)]; exact (hV.1 4 (by decide) j_z (show j_z < 10 by omega)).symm)
      · refine z_tsw hB_z dX9_customer_11 60 (by decide) (by decide) ?_
        refine z_s 61 hB_z dX9_customer_60 rfl rfl ?_
        refine z_getR 64 hB_z fX9_19 (L4_z (zS := zS) hL) dX9_customer_61 rfl rfl (r4_1 (zS := zS) hL) ?_
        refine z_getR 67 hB_z fX9_152 (L7 (zS := zS) hL) dX9_customer_64 rfl rfl (r7_5 (zS := zS) hL) ?_
        refine z_s 68 hB_z dX9_customer_67 rfl rfl ?_
        refine z_callV 71 hB_z hM_z.2.1 kX9_118 dX9_customer_68 rfl (L18 (zS := zS) hL) rfl (c_at (d_z := 0) (w18 hL) (by decide) (by omega)) (by omega) rfl rfl (Nat.le_of_ble_eq_true rfl) ⟨Nat.le_refl _, Nat.le_refl _⟩ ?_
        rintro _ _ ⟨rfl, rfl⟩
        refine z_iret hM_z dX9_customer_71 rfl ?_ rfl rfl
        exact z_QP.rf (by unfold z_ansCust; rw [if_pos ⟨w1_z, hw⟩, nI_clamp (show j_z < 2 ^ 31 by omega), if_neg (show ¬ nI 1 = 0 by decide), if_pos (show nI 1 = 1 from rfl)]; exact (hV.1 5 (by decide) j_z (show j_z < 10 by omega)).symm)
      · refine z_tsw hB_z dX9_customer_11 72 (by decide) (by decide) ?_
        refine z_s 73 hB_z dX9_customer_72 rfl rfl ?_
        refine z_getR 76 hB_z fX9_19 (L4_z (zS := zS) hL) dX9_customer_73 rfl rfl (r4_1 (zS := zS) hL) ?_
        refine z_getR 79 hB_z fX9_155 (L7 (zS := zS) hL) dX9_customer_76 rfl rfl (r7_6 (zS := zS) hL) ?_
        refine z_s 80 hB_z dX9_customer_79 rfl rfl ?_
        refine z_callV 83 hB_z hM_z.2.1 kX9_118 dX9_customer_80 rfl (L20 (zS := zS) hL) rfl (c_at (d_z := 0) (w20 hL) (by decide) (by omega)) (by omega) rfl rfl (Nat.le_of_ble_eq_true rfl) ⟨Nat.le_refl _, Nat.le_refl _⟩ ?_
        rintro _ _ ⟨rfl, rfl⟩
        refine z_iret hM_z dX9_customer_83 rfl ?_ rfl rfl
        exact z_QP.rf (by unfold z_ansCust; rw [if_pos ⟨w1_z, hw⟩, nI_clamp (show j_z < 2 ^ 31 by omega), if_neg (show ¬ nI 2 = 0 by decide), if_neg (show ¬ nI 2 = 1 by decide), if_pos (show nI 2 = 2 from rfl)]; exact (hV.1 6 (by decide) j_z (show j_z < 10 by omega)).symm)
      · refine z_tsw hB_z dX9_customer_11 84 (by decide) (by decide) ?_
        refine z_s 85 hB_z dX9_customer_84 rfl rfl ?_
        refine z_getR 88 hB_z fX9_19 (L4_z (zS := zS) hL) dX9_customer_85 rfl rfl (r4_1 (zS := zS) hL) ?_
        refine z_getR 91 hB_z fX9_158 (L7 (zS := zS) hL) dX9_customer_88 rfl rfl (r7_7 (zS := zS) hL) ?_
        refine z_s 92 hB_z dX9_customer_91 rfl rfl ?_
        refine z_callV 95 hB_z hM_z.2.1 kX9_118 dX9_customer_92 rfl (L22 (zS := zS) hL) rfl (c_at (d_z := 0) (w22 hL) (by decide) (by omega)) (by omega) rfl rfl (Nat.le_of_ble_eq_true rfl) ⟨Nat.le_refl _, Nat.le_refl _⟩ ?_
        rintro _ _ ⟨rfl, rfl⟩
        refine z_iret hM_z dX9_customer_95 rfl ?_ rfl rfl
        exact z_QP.rf (by unfold z_ansCust; rw [if_pos ⟨w1_z, hw⟩, nI_clamp (show j_z < 2 ^ 31 by omega), if_neg (show ¬ nI 3 = 0 by decide), if_neg (show ¬ nI 3 = 1 by decide), if_neg (show ¬ nI 3 = 2 by decide), if_pos (show nI 3 = 3 from rfl)]; exact (hV.1 7 (by decide) j_z (show j_z < 10 by omega)).symm)
      · refine z_tsw hB_z dX9_customer_11 96 (by decide) (by decide) ?_
        refine z_s 97 hB_z dX9_customer_96 rfl rfl ?_
        refine z_getR 100 hB_z fX9_19 (L4_z (zS := zS) hL) dX9_customer_97 rfl rfl (r4_1 (zS := zS) hL) ?_
        refine z_s 101 hB_z dX9_customer_100 rfl rfl ?_
        refine z_s 102 hB_z dX9_customer_101 rfl rfl ?_
        refine z_getR 105 hB_z fX9_47 (L4_z (zS := zS) hL) dX9_customer_102 rfl rfl (r4_5 (zS := zS) hL) ?_
        refine z_getI 108 hB_z fX9_161 (L51 (zS := zS) hL) dX9_customer_105 rfl rfl ?_
        rw [show z_I zS 51 0 = z_AT A_z 0 from hT_z.1 0 (by decide)]
        refine z_callV 111 hB_z hM_z.2.1 kX9_163 dX9_customer_108 rfl (L7 (zS := zS) hL) rfl (c_X5_comes (d_z := 0) hL hV (by omega)) (by omega) rfl rfl (Nat.le_of_ble_eq_true rfl) ⟨Nat.le_refl _, Nat.le_refl _⟩ ?_
        rintro _ _ ⟨rfl, rfl⟩
        refine z_b 114 118 hB_z dX9_customer_111 rfl rfl (by decide) (fun c_111 => ?_) (fun c_111 => ?_)
        ·
          refine z_s 119 hB_z dX9_customer_118 rfl rfl ?_
          refine z_iret hM_z dX9_customer_119 rfl ?_ rfl rfl
          exact z_QP.rf (by unfold z_ansCust; rw [if_pos ⟨w1_z, hw⟩, nI_clamp (show j_z < 2 ^ 31 by omega), if_neg (show ¬ nI 4 = 0 by decide), if_neg (show ¬ nI 4 = 1 by decide), if_neg (show ¬ nI 4 = 2 by decide), if_neg (show ¬ nI 4 = 3 by decide), if_pos (show nI 4 = 4 from rfl)]; rw [z_if0 c_111]; rfl)
        ·
          refine z_s 115 hB_z dX9_customer_114 rfl rfl ?_
          refine z_j 119 hB_z dX9_customer_115 (by decide) ?_
          refine z_iret hM_z dX9_customer_119 rfl ?_ rfl rfl
          exact z_QP.rf (by unfold z_ansCust; rw [if_pos ⟨w1_z, hw⟩, nI_clamp (show j_z < 2 ^ 31 by omega), if_neg (show ¬ nI 4 = 0 by decide), if_neg (show ¬ nI 4 = 1 by decide), if_neg (show ¬ nI 4 = 2 by decide), if_neg (show ¬ nI 4 = 3 by decide), if_pos (show nI 4 = 4 from rfl)]; rw [z_if1 c_111]; rfl)
      · refine z_tsw hB_z dX9_customer_11 120 (by decide) (by decide) ?_
        refine z_s 121 hB_z dX9_customer_120 rfl rfl ?_
        refine z_s 122 hB_z dX9_customer_121 rfl rfl ?_
        refine z_callV 125 hB_z hM_z.2.1 kX9_167 dX9_customer_122 rfl (L4_z (zS := zS) hL) rfl (c_X9_serverTonight (d_z := 0) hL hV hT_z (by omega)) (by omega) rfl rfl (Nat.le_of_ble_eq_true rfl) ⟨Nat.le_refl _, Nat.le_refl _⟩ ?_
        rintro _ _ ⟨rfl, I2_z, rfl, hf2⟩
        refine z_iret hM_z dX9_customer_125 rfl ?_ rfl rfl
        refine ⟨congrArg (fun q_z => some (Value.int q_z)) (Eq.symm ?_), I2_z, rfl, hf2.mono z_scrN⟩
        unfold z_ansCust
        rw [if_pos ⟨w1_z, hw⟩, nI_clamp (show j_z < 2 ^ 31 by omega), if_neg (show ¬ nI 5 = 0 by decide), if_neg (show ¬ nI 5 = 1 by decide), if_neg (show ¬ nI 5 = 2 by decide), if_neg (show ¬ nI 5 = 3 by decide), if_neg (show ¬ nI 5 = 4 by decide)]
    · have ho : what.toInt < 0 ∨ 5 < what.toInt := z_tout (m_z := 5) (by decide) hw
      refine z_tsw hB_z dX9_customer_11 126 (by rw [if_pos ho]; decide) (fun q1_z q2_z => by rcases ho with h_z | h_z <;> omega) ?_
      refine z_s 127 hB_z dX9_customer_126 rfl rfl ?_
      refine z_iret hM_z dX9_customer_127 rfl ?_ rfl rfl
      exact z_QP.rf (by unfold z_ansCust; rw [if_neg (fun q_z => hw q_z.2)])
  ·
    refine z_s 9 hB_z dX9_customer_8 rfl rfl ?_
    refine z_iret hM_z dX9_customer_9 rfl ?_ rfl rfl
    rcases hv1 with ⟨_, w1_z⟩ | ⟨w0_z, _⟩
    · exact z_QP.rf (by unfold z_ansCust; rw [if_neg (fun q_z => w1_z q_z.1)])
    · rw [w0_z] at c_5; exact absurd c_5 (by decide)

set_option maxHeartbeats 1000000 in
theorem c_X9_count {g_z : z_U} {d_z : Nat} {zS : z_S} {A_z : z_Ab} (hC : z_RC zS A_z) {what : Int32} : z_C g_z (d_z + 4) 0 0 mX9_count [.ref 4, .int what] zS (z_QP zS (z_ansCount A_z what)) := by
  refine z_enter [some (.ref 4), some (.int what)] rfl rfl (Nat.le_of_ble_eq_true rfl) rfl (fun zX hM_z => ?_)
  have hB_z : z_B g_z zX RX9 cX9_count 2 := hM_z.1
  obtain ⟨hL, hV, hT_z, hU, hK_z, hS_z, hX⟩ := id hC
  have hn : z_I zS 7 9 = nI (z_AV A_z).2.1 := hV.2.1
  have hm_z : z_I zS 7 10 = nI (z_AV A_z).2.2.1 := hV.2.2.1
  have hn6 := hV.2.2.2.2.1
  have hm10 := hV.2.2.2.2.2
  refine z_s 1 hB_z dX9_count_0 rfl rfl ?_
  by_cases hw : 0 ≤ what ∧ what ≤ nI 11
  · obtain ⟨k_z, hk, rfl⟩ := z_le28 hw.1 (m_z := 11) (by decide) hw.2
    rcases (show k_z = 0 ∨ k_z = 1 ∨ k_z = 2 ∨ k_z = 3 ∨ k_z = 4 ∨ k_z = 5 ∨ k_z = 6 ∨ k_z = 7 ∨ k_z = 8 ∨ k_z = 9 ∨ k_z = 10 ∨ k_z = 11 by omega) with rfl | rfl | rfl | rfl | rfl | rfl | rfl | rfl | rfl | rfl | rfl | rfl
    · refine z_tsw hB_z dX9_count_1 64 (by decide) (by decide) ?_
      refine z_s 65 hB_z dX9_count_64 rfl rfl ?_
      refine z_getR 68 hB_z fX9_19 (L4_z (zS := zS) hL) dX9_count_65 rfl rfl (r4_1 (zS := zS) hL) ?_
      refine z_getI 71 hB_z fX9_107 (L7 (zS := zS) hL) dX9_count_68 rfl rfl ?_
      refine z_iret hM_z dX9_count_71 rfl ?_ rfl rfl
      exact z_QP.rf (by unfold z_ansCount; rw [if_pos (show nI 0 = 0 from rfl)]; exact hn.symm)
    · refine z_tsw hB_z dX9_count_1 72 (by decide) (by decide) ?_
      refine z_s 73 hB_z dX9_count_72 rfl rfl ?_
      refine z_getR 76 hB_z fX9_19 (L4_z (zS := zS) hL) dX9_count_73 rfl rfl (r4_1 (zS := zS) hL) ?_
      refine z_getI 79 hB_z fX9_290 (L7 (zS := zS) hL) dX9_count_76 rfl rfl ?_
      refine z_iret hM_z dX9_count_79 rfl ?_ rfl rfl
      exact z_QP.rf (by unfold z_ansCount; rw [if_neg (show ¬ nI 1 = 0 by decide), if_pos (show nI 1 = 1 from rfl)]; exact hm_z.symm)
    · refine z_tsw hB_z dX9_count_1 80 (by decide) (by decide) ?_
      refine z_s 81 hB_z dX9_count_80 rfl rfl ?_
      refine z_getR 84 hB_z fX9_47 (L4_z (zS := zS) hL) dX9_count_81 rfl rfl (r4_5 (zS := zS) hL) ?_
      refine z_getI 87 hB_z fX9_173 (L51 (zS := zS) hL) dX9_count_84 rfl rfl ?_
      rw [show z_I zS 51 4 = z_AT A_z 4 from hT_z.1 4 (by decide)]
      refine z_callS 90 hB_z hM_z.2.1 kX9_196 dX9_count_87 rfl (c_J6_bitCount_0f7a4 (d_z := 0)) (by omega) rfl rfl (Nat.le_of_ble_eq_true rfl) ⟨Nat.le_refl _, Nat.le_refl _⟩ ?_
      rintro _ _ ⟨rfl, rfl⟩
      refine z_iret hM_z dX9_count_90 rfl ?_ rfl rfl
      exact z_QP.rf (by unfold z_ansCount; rw [if_neg (show ¬ nI 2 = 0 by decide), if_neg (show ¬ nI 2 = 1 by decide), if_pos (show nI 2 = 2 from rfl)])
    · refine z_tsw hB_z dX9_count_1 91 (by decide) (by decide) ?_
      refine z_s 92 hB_z dX9_count_91 rfl rfl ?_
      refine z_getR 95 hB_z fX9_47 (L4_z (zS := zS) hL) dX9_count_92 rfl rfl (r4_5 (zS := zS) hL) ?_
      refine z_getI 98 hB_z fX9_161 (L51 (zS := zS) hL) dX9_count_95 rfl rfl ?_
      refine z_iret hM_z dX9_count_98 rfl ?_ rfl rfl
      exact z_QP.rf (by unfold z_ansCount; rw [if_neg (show ¬ nI 3 = 0 by decide), if_neg (show ¬ nI 3 = 1 by decide), if_neg (show ¬ nI 3 = 2 by decide), if_pos (show nI 3 = 3 from rfl)]; exact (hT_z.1 0 (by decide)).symm)
    · refine z_tsw hB_z dX9_count_1 99 (by decide) (by decide) ?_
      refine z_s 100 hB_z dX9_count_99 rfl rfl ?_
      refine z_callV 103 hB_z hM_z.2.1 kX9_133 dX9_count_100 rfl (L4_z (zS := zS) hL) rfl (c_X9_walkersTonight (d_z := 0) hL hV hT_z) (by omega) rfl rfl (Nat.le_of_ble_eq_true rfl) ⟨Nat.le_refl _, Nat.le_refl _⟩ ?_
      rintro _ _ ⟨rfl, I2_z, rfl, hf2⟩
      refine z_callS 106 hB_z hM_z.2.1 kX9_196 dX9_count_103 rfl (c_J6_bitCount_0f7a4 (d_z := 0)) (by omega) rfl rfl (Nat.le_of_ble_eq_true rfl) ⟨Nat.le_refl _, Nat.le_refl _⟩ ?_
      rintro _ _ ⟨rfl, rfl⟩
      refine z_iret hM_z dX9_count_106 rfl ?_ rfl rfl
      refine ⟨congrArg (fun q_z => some (Value.int q_z)) (by unfold z_ansCount; rw [if_neg (show ¬ nI 4 = 0 by decide), if_neg (show ¬ nI 4 = 1 by decide), if_neg (show ¬ nI 4 = 2 by decide), if_neg (show ¬ nI 4 = 3 by decide), if_pos (show nI 4 = 4 from rfl)] : z_bc (z_wlk (z_AV A_z) (z_AT A_z) (z_hasDog (z_AV A_z) (z_AT A_z 0))) = z_ansCount A_z (nI 4)), I2_z, rfl, hf2.mono z_scrN⟩
    · refine z_tsw hB_z dX9_count_1 107 (by decide) (by decide) ?_
      refine z_s 108 hB_z dX9_count_107 rfl rfl ?_
      refine z_getR 111 hB_z fX9_47 (L4_z (zS := zS) hL) dX9_count_108 rfl rfl (r4_5 (zS := zS) hL) ?_
      refine z_getI 114 hB_z fX9_213 (L51 (zS := zS) hL) dX9_count_111 rfl rfl ?_
      refine z_iret hM_z dX9_count_114 rfl ?_ rfl rfl
      exact z_QP.rf (by unfold z_ansCount; rw [if_neg (show ¬ nI 5 = 0 by decide), if_neg (show ¬ nI 5 = 1 by decide), if_neg (show ¬ nI 5 = 2 by decide), if_neg (show ¬ nI 5 = 3 by decide), if_neg (show ¬ nI 5 = 4 by decide), if_pos (show nI 5 = 5 from rfl)]; exact (hT_z.1 1 (by decide)).symm)
    · refine z_tsw hB_z dX9_count_1 115 (by decide) (by decide) ?_
      refine z_s 116 hB_z dX9_count_115 rfl rfl ?_
      refine z_getR 119 hB_z fX9_47 (L4_z (zS := zS) hL) dX9_count_116 rfl rfl (r4_5 (zS := zS) hL) ?_
      refine z_getI 122 hB_z fX9_216 (L51 (zS := zS) hL) dX9_count_119 rfl rfl ?_
      refine z_iret hM_z dX9_count_122 rfl ?_ rfl rfl
      exact z_QP.rf (by unfold z_ansCount; rw [if_neg (show ¬ nI 6 = 0 by decide), if_neg (show ¬ nI 6 = 1 by decide), if_neg (show ¬ nI 6 = 2 by decide), if_neg (show ¬ nI 6 = 3 by decide), if_neg (show ¬ nI 6 = 4 by decide), if_neg (show ¬ nI 6 = 5 by decide), if_pos (show nI 6 = 6 from rfl)]; exact (hT_z.1 2 (by decide)).symm)
    · refine z_tsw hB_z dX9_count_1 123 (by decide) (by decide) ?_
      refine z_s 124 hB_z dX9_count_123 rfl rfl ?_
      refine z_getR 127 hB_z fX9_47 (L4_z (zS := zS) hL) dX9_count_124 rfl rfl (r4_5 (zS := zS) hL) ?_
      refine z_getI 130 hB_z fX9_219 (L51 (zS := zS) hL) dX9_count_127 rfl rfl ?_
      refine z_iret hM_z dX9_count_130 rfl ?_ rfl rfl
      exact z_QP.rf (by unfold z_ansCount; rw [if_neg (show ¬ nI 7 = 0 by decide), if_neg (show ¬ nI 7 = 1 by decide), if_neg (show ¬ nI 7 = 2 by decide), if_neg (show ¬ nI 7 = 3 by decide), if_neg (show ¬ nI 7 = 4 by decide), if_neg (show ¬ nI 7 = 5 by decide), if_neg (show ¬ nI 7 = 6 by decide), if_pos (show nI 7 = 7 from rfl)]; exact (hT_z.1 3 (by decide)).symm)
    · refine z_tsw hB_z dX9_count_1 131 (by decide) (by decide) ?_
      refine z_s 132 hB_z dX9_count_131 rfl rfl ?_
      refine z_getR 135 hB_z fX9_69 (L4_z (zS := zS) hL) dX9_count_132 rfl rfl (r4_9 (zS := zS) hL) ?_
      refine z_getI 138 hB_z fX9_256 (L91 (zS := zS) hL) dX9_count_135 rfl rfl ?_
      refine z_iret hM_z dX9_count_138 rfl ?_ rfl rfl
      exact z_QP.rf (by unfold z_ansCount; rw [if_neg (show ¬ nI 8 = 0 by decide), if_neg (show ¬ nI 8 = 1 by decide), if_neg (show ¬ nI 8 = 2 by decide), if_neg (show ¬ nI 8 = 3 by decide), if_neg (show ¬ nI 8 = 4 by decide), if_neg (show ¬ nI 8 = 5 by decide), if_neg (show ¬ nI 8 = 6 by decide), if_neg (show ¬ nI 8 = 7 by decide), if_pos (show nI 8 = 8 from rfl)]; exact hS_z.1.symm)
    · refine z_tsw hB_z dX9_count_1 139 (by decide) (by decide) ?_
      refine z_s 140 hB_z dX9_count_139 rfl rfl ?_
      refine z_getR 143 hB_z fX9_59 (L4_z (zS := zS) hL) dX9_count_140 rfl rfl (r4_7 (zS := zS) hL) ?_
      refine z_getI 146 hB_z fX9_204 (L57 (zS := zS) hL) dX9_count_143 rfl rfl ?_
      refine z_iret hM_z dX9_count_146 rfl ?_ rfl rfl
      exact z_QP.rf (by unfold z_ansCount; rw [if_neg (show ¬ nI 9 = 0 by decide), if_neg (show ¬ nI 9 = 1 by decide), if_neg (show ¬ nI 9 = 2 by decide), if_neg (show ¬ nI 9 = 3 by decide), if_neg (show ¬ nI 9 = 4 by decide), if_neg (show ¬ nI 9 = 5 by decide), if_neg (show ¬ nI 9 = 6 by decide), if_neg (show ¬ nI 9 = 7 by decide), if_neg (show ¬ nI 9 = 8 by decide), if_pos (show nI 9 = 9 from rfl)]; exact hU.size.1.symm)
    · refine z_tsw hB_z dX9_count_1 147 (by decide) (by decide) ?_
      refine z_s 148 hB_z dX9_count_147 rfl rfl ?_
      refine z_getR 151 hB_z fX9_63 (L4_z (zS := zS) hL) dX9_count_148 rfl rfl (r4_8 (zS := zS) hL) ?_
      refine z_getI 154 hB_z fX9_204 (L83 (zS := zS) hL) dX9_count_151 rfl rfl ?_
      refine z_iret hM_z dX9_count_154 rfl ?_ rfl rfl
      exact z_QP.rf (by unfold z_ansCount; rw [if_neg (show ¬ nI 10 = 0 by decide), if_neg (show ¬ nI 10 = 1 by decide), if_neg (show ¬ nI 10 = 2 by decide), if_neg (show ¬ nI 10 = 3 by decide), if_neg (show ¬ nI 10 = 4 by decide), if_neg (show ¬ nI 10 = 5 by decide), if_neg (show ¬ nI 10 = 6 by decide), if_neg (show ¬ nI 10 = 7 by decide), if_neg (show ¬ nI 10 = 8 by decide), if_neg (show ¬ nI 10 = 9 by decide), if_pos (show nI 10 = 10 from rfl)]; exact hK_z.size.1.symm)
    · refine z_tsw hB_z dX9_count_1 155 (by decide) (by decide) ?_
      refine z_s 156 hB_z dX9_count_155 rfl rfl ?_
      refine z_getR 159 hB_z fX9_12 (L4_z (zS := zS) hL) dX9_count_156 rfl rfl (r4_0 (zS := zS) hL) ?_
      refine z_getI 162 hB_z fX9_104 (L5_z (zS := zS) hL) dX9_count_159 rfl rfl ?_
      refine z_iret hM_z dX9_count_162 rfl ?_ rfl rfl
      exact z_QP.rf (by unfold z_ansCount; rw [if_neg (show ¬ nI 11 = 0 by decide), if_neg (show ¬ nI 11 = 1 by decide), if_neg (show ¬ nI 11 = 2 by decide), if_neg (show ¬ nI 11 = 3 by decide), if_neg (show ¬ nI 11 = 4 by decide), if_neg (show ¬ nI 11 = 5 by decide), if_neg (show ¬ nI 11 = 6 by decide), if_neg (show ¬ nI 11 = 7 by decide), if_neg (show ¬ nI 11 = 8 by decide), if_neg (show ¬ nI 11 = 9 by decide), if_neg (show ¬ nI 11 = 10 by decide), if_pos (show nI 11 = 11 from rfl)]; exact hX.1.symm)
  · have ho : what.toInt < 0 ∨ 11 < what.toInt := z_tout (m_z := 11) (by decide) hw
    refine z_tsw hB_z dX9_count_1 163 (by rw [if_pos ho]; decide) (fun q1_z q2_z => by rcases ho with h_z | h_z <;> omega) ?_
    refine z_s 164 hB_z dX9_count_163 rfl rfl ?_
    refine z_iret hM_z dX9_count_164 rfl ?_ rfl rfl
    exact z_QP.rf (by unfold z_ansCount; rw [if_neg (fun q_z => hw (by rw [q_z]; decide))]; rw [if_neg (fun q_z => hw (by rw [q_z]; decide))]; rw [if_neg (fun q_z => hw (by rw [q_z]; decide))]; rw [if_neg (fun q_z => hw (by rw [q_z]; decide))]; rw [if_neg (fun q_z => hw (by rw [q_z]; decide))]; rw [if_neg (fun q_z => hw (by rw [q_z]; decide))]; rw [if_neg (fun q_z => hw (by rw [q_z]; decide))]; rw [if_neg (fun q_z => hw (by rw [q_z]; decide))]; rw [if_neg (fun q_z => hw (by rw [q_z]; decide))]; rw [if_neg (fun q_z => hw (by rw [q_z]; decide))]; rw [if_neg (fun q_z => hw (by rw [q_z]; decide))]; rw [if_neg (fun q_z => hw (by rw [q_z]; decide))])

