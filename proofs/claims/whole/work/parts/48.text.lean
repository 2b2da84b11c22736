/-! the one text constant: its length, its letters -/
theorem c_J0_coder_7d493 {g_z : z_U} {d_z : Nat} {zS : z_S} : z_C g_z (d_z) 0 0 mJ0_coder_7d493 [.ref 1] zS (fun r_z zS' => zS = zS' ∧ r_z = some (.int 0)) := by
  refine z_enter [some (.ref 1)] rfl rfl (Nat.le_of_ble_eq_true rfl) rfl (fun zX hM_z => ?_)
  have hB_z : z_B g_z zX RJ0 cJ0_coder_7d493 1 := hM_z.1
  refine z_getC 3 hB_z dJ0_coder_7d493_0 rfl ?_
  refine z_b 6 13 hB_z dJ0_coder_7d493_3 rfl rfl (by decide) (fun c_3 => absurd c_3 (by decide)) (fun c_3 => ?_)
  refine z_s 7 hB_z dJ0_coder_7d493_6 rfl rfl ?_
  refine z_coder 10 hB_z dJ0_coder_7d493_7 rfl ?_
  refine z_j 14 hB_z dJ0_coder_7d493_10 (by decide) ?_
  exact z_nret hM_z dJ0_coder_7d493_14 rfl rfl ⟨rfl, rfl⟩ rfl rfl

theorem c_J0_isLatin1_aae02 {g_z : z_U} {d_z : Nat} {zS : z_S} : z_C g_z (d_z) 0 0 mJ0_isLatin1_aae02 [.ref 1] zS (fun r_z zS' => zS = zS' ∧ r_z = some (.int 1)) := by
  refine z_enter [some (.ref 1)] rfl rfl (Nat.le_of_ble_eq_true rfl) rfl (fun zX hM_z => ?_)
  have hB_z : z_B g_z zX RJ0 cJ0_isLatin1_aae02 1 := hM_z.1
  refine z_getC 3 hB_z dJ0_isLatin1_aae02_0 rfl ?_
  refine z_b 6 17 hB_z dJ0_isLatin1_aae02_3 rfl rfl (by decide) (fun c_3 => absurd c_3 (by decide)) (fun c_3 => ?_)
  refine z_s 7 hB_z dJ0_isLatin1_aae02_6 rfl rfl ?_
  refine z_coder 10 hB_z dJ0_isLatin1_aae02_7 rfl ?_
  refine z_b 13 17 hB_z dJ0_isLatin1_aae02_10 rfl rfl (by decide) (fun c_10 => absurd rfl c_10) (fun c_10 => ?_)
  refine z_s 14 hB_z dJ0_isLatin1_aae02_13 rfl rfl ?_
  refine z_j 18 hB_z dJ0_isLatin1_aae02_14 (by decide) ?_
  exact z_nret hM_z dJ0_isLatin1_aae02_18 rfl rfl ⟨rfl, rfl⟩ rfl rfl

theorem c_J0_length_8abf5 {g_z : z_U} {d_z : Nat} {zS : z_S} : z_C g_z (d_z + 1) 0 0 mJ0_length_8abf5 [.ref 1] zS (fun r_z zS' => zS = zS' ∧ r_z = some (.int 125)) := by
  refine z_enter [some (.ref 1)] rfl rfl (Nat.le_of_ble_eq_true rfl) rfl (fun zX hM_z => ?_)
  have hB_z : z_B g_z zX RJ0 cJ0_length_8abf5 1 := hM_z.1
  refine z_s 1 hB_z dJ0_length_8abf5_0 rfl rfl ?_
  refine z_value 4 hB_z dJ0_length_8abf5_1 rfl ?_
  refine z_lenB 5 hB_z dJ0_length_8abf5_4 rfl ?_
  refine z_s 6 hB_z dJ0_length_8abf5_5 rfl rfl ?_
  refine z_callT 9 hB_z hM_z.2.1 kJ0_335 dJ0_length_8abf5_6 rfl rfl (c_J0_coder_7d493 (d_z := 0)) (by omega) rfl rfl (Nat.le_of_ble_eq_true rfl) ⟨Nat.le_refl _, Nat.le_refl _⟩ ?_
  rintro _ _ ⟨rfl, rfl⟩
  refine z_s 10 hB_z dJ0_length_8abf5_9 rfl rfl ?_
  exact z_iret hM_z dJ0_length_8abf5_10 rfl ⟨rfl, rfl⟩ rfl rfl

theorem c_J3a {g_z : z_U} {d_z : Nat} {zS : z_S} {i_z n_z : Int32} (h0 : 0 ≤ i_z) (h1 : i_z < n_z) : z_C g_z (d_z) 0 0 mJ3_checkIndex_8e157 [.int i_z, .int n_z, .null] zS (fun r_z zS' => zS = zS' ∧ r_z = some (.int i_z)) := by
  refine z_enter [some (.int i_z), some (.int n_z), some (.null)] rfl rfl (Nat.le_of_ble_eq_true rfl) rfl (fun zX hM_z => ?_)
  have hB_z : z_B g_z zX RJ3 cJ3_checkIndex_8e157 3 := hM_z.1
  refine z_s 1 hB_z dJ3_checkIndex_8e157_0 rfl rfl ?_
  refine z_b 4 9 hB_z dJ3_checkIndex_8e157_1 rfl rfl (by decide) (fun c_1 => absurd c_1 (z_nlt0 h0)) (fun c_1 => ?_)
  refine z_s 5 hB_z dJ3_checkIndex_8e157_4 rfl rfl ?_
  refine z_s 6 hB_z dJ3_checkIndex_8e157_5 rfl rfl ?_
  refine z_b 9 16 hB_z dJ3_checkIndex_8e157_6 rfl rfl (by decide) (fun c_6 => ?_) (fun c_6 => absurd h1 (z_nlt0 c_6))
  refine z_s 17 hB_z dJ3_checkIndex_8e157_16 rfl rfl ?_
  exact z_iret hM_z dJ3_checkIndex_8e157_17 rfl ⟨rfl, rfl⟩ rfl rfl

theorem c_J3b {g_z : z_U} {d_z : Nat} {zS : z_S} {i_z n_z : Int32} (h0 : 0 ≤ i_z) (h1 : i_z < n_z) : z_C g_z (d_z) 0 0 mJ3_checkIndex_8e157 [.int i_z, .int n_z, .ref 3] zS (fun r_z zS' => zS = zS' ∧ r_z = some (.int i_z)) := by
  refine z_enter [some (.int i_z), some (.int n_z), some (.ref 3)] rfl rfl (Nat.le_of_ble_eq_true rfl) rfl (fun zX hM_z => ?_)
  have hB_z : z_B g_z zX RJ3 cJ3_checkIndex_8e157 3 := hM_z.1
  refine z_s 1 hB_z dJ3_checkIndex_8e157_0 rfl rfl ?_
  refine z_b 4 9 hB_z dJ3_checkIndex_8e157_1 rfl rfl (by decide) (fun c_1 => absurd c_1 (z_nlt0 h0)) (fun c_1 => ?_)
  refine z_s 5 hB_z dJ3_checkIndex_8e157_4 rfl rfl ?_
  refine z_s 6 hB_z dJ3_checkIndex_8e157_5 rfl rfl ?_
  refine z_b 9 16 hB_z dJ3_checkIndex_8e157_6 rfl rfl (by decide) (fun c_6 => ?_) (fun c_6 => absurd h1 (z_nlt0 c_6))
  refine z_s 17 hB_z dJ3_checkIndex_8e157_16 rfl rfl ?_
  exact z_iret hM_z dJ3_checkIndex_8e157_17 rfl ⟨rfl, rfl⟩ rfl rfl

theorem c_J0_checkIndex_df160 {g_z : z_U} {d_z : Nat} {zS : z_S} {i_z n_z : Int32} (h0 : 0 ≤ i_z) (h1 : i_z < n_z) : z_C g_z (d_z + 1) 0 0 mJ0_checkIndex_df160 [.int i_z, .int n_z] zS (fun r_z zS' => r_z = none ∧ zS = zS') := by
  refine z_enter [some (.int i_z), some (.int n_z)] rfl rfl (Nat.le_of_ble_eq_true rfl) rfl (fun zX hM_z => ?_)
  have hB_z : z_B g_z zX RJ0 cJ0_checkIndex_df160 2 := hM_z.1
  refine z_s 1 hB_z dJ0_checkIndex_df160_0 rfl rfl ?_
  refine z_s 2 hB_z dJ0_checkIndex_df160_1 rfl rfl ?_
  refine z_getF 5 hB_z dJ0_checkIndex_df160_2 rfl ?_ ?_
  · refine z_callS 8 hB_z hM_z.2.1 kJ0_1059 dJ0_checkIndex_df160_5 rfl (c_J3a (d_z := 0) h0 h1) (by omega) rfl rfl (Nat.le_of_ble_eq_true rfl) ⟨Nat.le_refl _, Nat.le_refl _⟩ ?_
    rintro _ _ ⟨rfl, rfl⟩
    refine z_s 9 hB_z dJ0_checkIndex_df160_8 rfl rfl ?_
    exact z_vret hM_z dJ0_checkIndex_df160_9 rfl ⟨rfl, rfl⟩ rfl rfl
  · refine z_callS 8 hB_z hM_z.2.1 kJ0_1059 dJ0_checkIndex_df160_5 rfl (c_J3b (d_z := 0) h0 h1) (by omega) rfl rfl (Nat.le_of_ble_eq_true rfl) ⟨Nat.le_refl _, Nat.le_refl _⟩ ?_
    rintro _ _ ⟨rfl, rfl⟩
    refine z_s 9 hB_z dJ0_checkIndex_df160_8 rfl rfl ?_
    exact z_vret hM_z dJ0_checkIndex_df160_9 rfl ⟨rfl, rfl⟩ rfl rfl

theorem c_J1_charAt_3b067 {g_z : z_U} {d_z : Nat} {zS : z_S} {j_z : Nat} (hj : j_z < 125) : z_C g_z (d_z + 2) 0 0 mJ1_charAt_3b067 [.ref 2, .int (nI j_z)] zS (fun r_z zS' => zS = zS' ∧ r_z = some (.int (z_by.getD j_z 0))) := by
  refine z_enter [some (.ref 2), some (.int (nI j_z))] rfl rfl (Nat.le_of_ble_eq_true rfl) rfl (fun zX hM_z => ?_)
  have hB_z : z_B g_z zX RJ1 cJ1_charAt_3b067 2 := hM_z.1
  refine z_s 1 hB_z dJ1_charAt_3b067_0 rfl rfl ?_
  refine z_s 2 hB_z dJ1_charAt_3b067_1 rfl rfl ?_
  refine z_lenB 3 hB_z dJ1_charAt_3b067_2 rfl ?_
  refine z_callS 6 hB_z hM_z.2.1 kJ1_9 dJ1_charAt_3b067_3 rfl (c_J0_checkIndex_df160 (d_z := 0) (nI_pos' (by omega)) (show nI j_z < nI 125 from (nI_ltI (by omega) (by decide)).mpr hj)) (by omega) rfl rfl (Nat.le_of_ble_eq_true rfl) ⟨Nat.le_refl _, Nat.le_refl _⟩ ?_
  rintro _ _ ⟨rfl, rfl⟩
  refine z_s 7 hB_z dJ1_charAt_3b067_6 rfl rfl ?_
  refine z_s 8 hB_z dJ1_charAt_3b067_7 rfl rfl ?_
  refine z_baldB 9 hj hB_z dJ1_charAt_3b067_8 rfl ?_
  refine z_s 12 hB_z dJ1_charAt_3b067_9 rfl rfl ?_
  refine z_s 13 hB_z dJ1_charAt_3b067_12 rfl rfl ?_
  refine z_i2c 14 hB_z dJ1_charAt_3b067_13 (z_by_ok j_z hj).2.1 rfl ?_
  exact z_nret hM_z dJ1_charAt_3b067_14 rfl (z_by_ok j_z hj).2.2 ⟨rfl, rfl⟩ rfl rfl

theorem c_J0_charAt_5068e {g_z : z_U} {d_z : Nat} {zS : z_S} {j_z : Nat} (hj : j_z < 125) : z_C g_z (d_z + 3) 0 0 mJ0_charAt_5068e [.ref 1, .int (nI j_z)] zS (fun r_z zS' => zS = zS' ∧ r_z = some (.int (z_by.getD j_z 0))) := by
  refine z_enter [some (.ref 1), some (.int (nI j_z))] rfl rfl (Nat.le_of_ble_eq_true rfl) rfl (fun zX hM_z => ?_)
  have hB_z : z_B g_z zX RJ0 cJ0_charAt_5068e 2 := hM_z.1
  refine z_s 1 hB_z dJ0_charAt_5068e_0 rfl rfl ?_
  refine z_callT 4 hB_z hM_z.2.1 kJ0_492 dJ0_charAt_5068e_1 rfl rfl (c_J0_isLatin1_aae02 (d_z := 0)) (by omega) rfl rfl (Nat.le_of_ble_eq_true rfl) ⟨Nat.le_refl _, Nat.le_refl _⟩ ?_
  rintro _ _ ⟨rfl, rfl⟩
  refine z_b 7 16 hB_z dJ0_charAt_5068e_4 rfl rfl (by decide) (fun c_4 => absurd c_4 (by decide)) (fun c_4 => ?_)
  refine z_s 8 hB_z dJ0_charAt_5068e_7 rfl rfl ?_
  refine z_value 11 hB_z dJ0_charAt_5068e_8 rfl ?_
  refine z_s 12 hB_z dJ0_charAt_5068e_11 rfl rfl ?_
  refine z_callS 15 hB_z hM_z.2.1 kJ0_495 dJ0_charAt_5068e_12 rfl (c_J1_charAt_3b067 (d_z := 0) hj) (by omega) rfl rfl (Nat.le_of_ble_eq_true rfl) ⟨Nat.le_refl _, Nat.le_refl _⟩ ?_
  rintro _ _ ⟨rfl, rfl⟩
  exact z_nret hM_z dJ0_charAt_5068e_15 rfl (z_by_ok j_z hj).2.2 ⟨rfl, rfl⟩ rfl rfl

