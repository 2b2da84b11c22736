/-! the model: quarrels in a row, counted -/
/-- the bits of the first k rows from f on, counted -/
def z_sb (zI : Nat → Nat → Int32) (o f_z : Nat) : Nat → Int32
  | 0 => 0
  | k_z + 1 => z_sb zI o f_z k_z + z_bt (zI o (f_z + k_z)) 15
theorem c_X10_quarrelsIn {g_z : z_U} {d_z : Nat} {zS : z_S} {o f_z N_z : Nat} (ho : z_is zS o (1, N_z)) (hf : f_z + 6 ≤ N_z) (hN2 : N_z < 1000) : z_C g_z (d_z + 1) 0 0 mX10_quarrelsIn [.ref o, .int (nI f_z)] zS (fun r_z zS' => zS = zS' ∧ r_z = some (.int (z_sb (z_I zS) o f_z 6 / 2))) := by
  refine z_enter [some (.ref o), some (.int (nI f_z)), none, none] rfl rfl (Nat.le_of_ble_eq_true rfl) rfl (fun zX hM_z => ?_)
  have hB_z : z_B g_z zX RX10 cX10_quarrelsIn 4 := hM_z.1
  have loop := z_loop (fun k_z => z_W g_z zX 4 [some (.ref o), some (.int (nI f_z)), some (.int (z_sb (z_I zS) o f_z k_z)), some (.int (nI k_z))] [] 0 0 zS) 6 (fun k_z hk ih_z => by
    refine z_s 5 hB_z dX10_quarrelsIn_4 rfl rfl ?_
    refine z_s 7 hB_z dX10_quarrelsIn_5 rfl rfl ?_
    refine z_b 10 27 hB_z dX10_quarrelsIn_7 rfl rfl (by decide) (fun c_7 => ?_) (fun c_7 => ?_)
    ·
      have hk2 : k_z = 6 := by
        have := (nI_leI (by omega) (by omega)).mp (show nI 6 ≤ nI k_z from c_7)
        omega
      subst hk2
      refine z_s 28 hB_z dX10_quarrelsIn_27 rfl rfl ?_
      refine z_s 29 hB_z dX10_quarrelsIn_28 rfl rfl ?_
      refine z_idiv 30 hB_z dX10_quarrelsIn_29 rfl (by decide) ?_
      refine z_iret hM_z dX10_quarrelsIn_30 rfl ?_ rfl rfl
      exact ⟨rfl, rfl⟩
    ·
      have hk2 : k_z < 6 := (nI_ltI (by omega) (by omega)).mp (show nI k_z < nI 6 from c_7)
      refine z_s 11 hB_z dX10_quarrelsIn_10 rfl rfl ?_
      refine z_s 12 hB_z dX10_quarrelsIn_11 rfl rfl ?_
      refine z_s 13 hB_z dX10_quarrelsIn_12 rfl rfl ?_
      refine z_s 14 hB_z dX10_quarrelsIn_13 rfl rfl ?_
      refine z_s 15 hB_z dX10_quarrelsIn_14 rfl rfl ?_
      rw [z_nIa]
      refine z_ald 16 hB_z ho dX10_quarrelsIn_15 rfl (vp_in_nI (show f_z + k_z < N_z by omega) (by omega)) ?_
      rw [nI_clamp (show f_z + k_z < 2 ^ 31 by omega)]
      refine z_callS 19 hB_z hM_z.2.1 kX10_75 dX10_quarrelsIn_16 rfl (c_X10_bits (d_z := 0)) (by omega) rfl rfl (Nat.le_of_ble_eq_true rfl) ⟨Nat.le_refl _, Nat.le_refl _⟩ ?_
      rintro _ _ ⟨rfl, rfl⟩
      refine z_s 20 hB_z dX10_quarrelsIn_19 rfl rfl ?_
      refine z_s 21 hB_z dX10_quarrelsIn_20 rfl rfl ?_
      refine z_s 24 hB_z dX10_quarrelsIn_21 rfl rfl ?_
      refine z_j 4 hB_z dX10_quarrelsIn_24 (by decide) ?_
      exact z_wkn (ih_z hk2) ⟨rfl, rfl, rfl, congrArg (fun q_z => some (Value.int q_z)) (z_inc k_z), trivial⟩) 0 (Nat.zero_le _)
  refine z_s 1 hB_z dX10_quarrelsIn_0 rfl rfl ?_
  refine z_s 2 hB_z dX10_quarrelsIn_1 rfl rfl ?_
  refine z_s 3 hB_z dX10_quarrelsIn_2 rfl rfl ?_
  refine z_s 4 hB_z dX10_quarrelsIn_3 rfl rfl ?_
  exact loop

