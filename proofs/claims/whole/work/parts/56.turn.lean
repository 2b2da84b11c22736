/-! the model: a quarrel turned about in a row -/
/-- rows f + a and f + b of o, each with the other's bit turned -/
def z_trn (zI : Nat → Nat → Int32) (o f_z a_z b_z : Nat) : Nat → Nat → Int32 := z_u2 (z_u2 zI o (f_z + a_z) (zI o (f_z + a_z) ^^^ (1 <<< (nI b_z &&& 31)))) o (f_z + b_z) (z_u2 zI o (f_z + a_z) (zI o (f_z + a_z) ^^^ (1 <<< (nI b_z &&& 31))) o (f_z + b_z) ^^^ (1 <<< (nI a_z &&& 31)))
theorem c_X10_turn {g_z : z_U} {d_z : Nat} {zS : z_S} {o f_z a_z b_z N_z : Nat} (ho : z_is zS o (1, N_z)) (ha_z : f_z + a_z < N_z) (hb_z : f_z + b_z < N_z) (hN2 : N_z < 1000) : z_C g_z (d_z) 0 0 mX10_turn [.ref o, .int (nI f_z), .int (nI a_z), .int (nI b_z)] zS (fun r_z zS' => r_z = none ∧ z_up zS (z_trn (z_I zS) o f_z a_z b_z) = zS') := by
  refine z_enter [some (.ref o), some (.int (nI f_z)), some (.int (nI a_z)), some (.int (nI b_z))] rfl rfl (Nat.le_of_ble_eq_true rfl) rfl (fun zX hM_z => ?_)
  have hB_z : z_B g_z zX RX10 cX10_turn 4 := hM_z.1
  refine z_s 1 hB_z dX10_turn_0 rfl rfl ?_
  refine z_s 2 hB_z dX10_turn_1 rfl rfl ?_
  refine z_s 3 hB_z dX10_turn_2 rfl rfl ?_
  refine z_s 4 hB_z dX10_turn_3 rfl rfl ?_
  refine z_s 5 hB_z dX10_turn_4 rfl rfl ?_
  refine z_s 6 hB_z dX10_turn_5 rfl rfl ?_
  refine z_s 7 hB_z dX10_turn_6 rfl rfl ?_
  refine z_s 8 hB_z dX10_turn_7 rfl rfl ?_
  rw [z_nIa]
  refine z_ald 9 hB_z ho dX10_turn_8 rfl (vp_in_nI ha_z (by omega)) ?_
  rw [nI_clamp (by omega)]
  refine z_s 10 hB_z dX10_turn_9 rfl rfl ?_
  refine z_s 11 hB_z dX10_turn_10 rfl rfl ?_
  refine z_s 12 hB_z dX10_turn_11 rfl rfl ?_
  refine z_s 13 hB_z dX10_turn_12 rfl rfl ?_
  refine z_ast 14 hB_z ho dX10_turn_13 rfl (vp_in_nI ha_z (by omega)) ?_
  rw [nI_clamp (by omega)]
  refine z_s 15 hB_z dX10_turn_14 rfl rfl ?_
  refine z_s 16 hB_z dX10_turn_15 rfl rfl ?_
  refine z_s 17 hB_z dX10_turn_16 rfl rfl ?_
  refine z_s 18 hB_z dX10_turn_17 rfl rfl ?_
  refine z_s 19 hB_z dX10_turn_18 rfl rfl ?_
  refine z_s 20 hB_z dX10_turn_19 rfl rfl ?_
  refine z_s 21 hB_z dX10_turn_20 rfl rfl ?_
  refine z_s 22 hB_z dX10_turn_21 rfl rfl ?_
  rw [z_nIa]
  refine z_ald 23 hB_z ho dX10_turn_22 rfl (vp_in_nI hb_z (by omega)) ?_
  rw [nI_clamp (by omega)]
  refine z_s 24 hB_z dX10_turn_23 rfl rfl ?_
  refine z_s 25 hB_z dX10_turn_24 rfl rfl ?_
  refine z_s 26 hB_z dX10_turn_25 rfl rfl ?_
  refine z_s 27 hB_z dX10_turn_26 rfl rfl ?_
  refine z_ast 28 hB_z ho dX10_turn_27 rfl (vp_in_nI hb_z (by omega)) ?_
  rw [nI_clamp (by omega)]
  refine z_vret hM_z dX10_turn_28 rfl ?_ rfl rfl
  exact ⟨rfl, rfl⟩

