/-! the model: who serves what -/
theorem z_n4 : ∀ u_z, u_z ≤ 10 → (4 : Int32) * nI u_z = nI (4 * u_z) := by decide +kernel
theorem z_n4b (u_z m_z : Nat) : nI (4 * u_z) + nI m_z = nI (4 * u_z + m_z) := nI_add _ _
theorem c_X10_serves {g_z : z_U} {d_z : Nat} {zS : z_S} (hN_z : z_LM zS) {s_z : Nat} (hs : s_z < 6) {t_z k_z : Int32} (hk : z_I zS 104 (4 * s_z + 1) = k_z) : z_C g_z (d_z) 0 0 mX10_serves [.ref 99, .int (nI s_z), .int t_z] zS (fun r_z zS' => zS = zS' ∧ r_z = some (.int (if t_z = k_z ∨ t_z = (k_z + 1) - (k_z + 1) / 6 * 6 then 1 else 0))) := by
  refine z_enter [some (.ref 99), some (.int (nI s_z)), some (.int t_z), none] rfl rfl (Nat.le_of_ble_eq_true rfl) rfl (fun zX hM_z => ?_)
  have hB_z : z_B g_z zX RX10 cX10_serves 4 := hM_z.1
  refine z_s 1 hB_z dX10_serves_0 rfl rfl ?_
  refine z_getR 4 hB_z fX10_22 (N99 (zS := zS) hN_z) dX10_serves_1 rfl rfl (n99_13 (zS := zS) hN_z) ?_
  refine z_s 5 hB_z dX10_serves_4 rfl rfl ?_
  refine z_s 6 hB_z dX10_serves_5 rfl rfl ?_
  refine z_s 7 hB_z dX10_serves_6 rfl rfl ?_
  refine z_s 8 hB_z dX10_serves_7 rfl rfl ?_
  refine z_s 9 hB_z dX10_serves_8 rfl rfl ?_
  rw [z_n4 _ (by omega), z_inc]
  refine z_ald 10 hB_z (N104 (zS := zS) hN_z) dX10_serves_9 rfl (vp_in_nI (show 4 * s_z + 1 < 24 by omega) (by decide)) ?_
  rw [nI_clamp (by omega), hk]
  refine z_s 11 hB_z dX10_serves_10 rfl rfl ?_
  refine z_s 12 hB_z dX10_serves_11 rfl rfl ?_
  refine z_s 13 hB_z dX10_serves_12 rfl rfl ?_
  refine z_b 16 26 hB_z dX10_serves_13 rfl rfl (by decide) (fun c_13 => ?_) (fun c_13 => ?_)
  ·
    refine z_s 27 hB_z dX10_serves_26 rfl rfl ?_
    refine z_j 31 hB_z dX10_serves_27 (by decide) ?_
    refine z_zret hM_z dX10_serves_31 rfl (by decide) ?_ rfl rfl
    exact ⟨rfl, by rw [if_pos (Or.inl c_13)]⟩
  ·
    refine z_s 17 hB_z dX10_serves_16 rfl rfl ?_
    refine z_s 18 hB_z dX10_serves_17 rfl rfl ?_
    refine z_s 19 hB_z dX10_serves_18 rfl rfl ?_
    refine z_s 20 hB_z dX10_serves_19 rfl rfl ?_
    refine z_s 22 hB_z dX10_serves_20 rfl rfl ?_
    refine z_irem 23 hB_z dX10_serves_22 rfl (by decide) ?_
    refine z_b 26 30 hB_z dX10_serves_23 rfl rfl (by decide) (fun c_23 => ?_) (fun c_23 => ?_)
    ·
      refine z_s 31 hB_z dX10_serves_30 rfl rfl ?_
      refine z_zret hM_z dX10_serves_31 rfl (by decide) ?_ rfl rfl
      exact ⟨rfl, by rw [if_neg (fun q_z => q_z.elim c_13 c_23)]⟩
    ·
      refine z_s 27 hB_z dX10_serves_26 rfl rfl ?_
      refine z_j 31 hB_z dX10_serves_27 (by decide) ?_
      refine z_zret hM_z dX10_serves_31 rfl (by decide) ?_ rfl rfl
      exact ⟨rfl, by rw [if_pos (Or.inr c_23)]⟩

