/-! the model is made -/
theorem c_X10_addOne {g_z : z_U} {d_z : Nat} {zS : z_S} (hN_z : z_LM zS) {s_z : Nat} (hs : s_z < 6) {a_z b_z c_z e_z : Int32} : z_C g_z (d_z) 0 0 mX10_addOne [.ref 99, .int (nI s_z), .int a_z, .int b_z, .int c_z, .int e_z] zS (fun r_z zS' => r_z = none ∧ z_up zS (z_u2 (z_u2 (z_u2 (z_u2 (z_I zS) 104 (4 * s_z) a_z) 104 (4 * s_z + 1) b_z) 104 (4 * s_z + 2) c_z) 104 (4 * s_z + 3) e_z) = zS') := by
  refine z_enter [some (.ref 99), some (.int (nI s_z)), some (.int a_z), some (.int b_z), some (.int c_z), some (.int e_z)] rfl rfl (Nat.le_of_ble_eq_true rfl) rfl (fun zX hM_z => ?_)
  have hB_z : z_B g_z zX RX10 cX10_addOne 6 := hM_z.1
  refine z_s 1 hB_z dX10_addOne_0 rfl rfl ?_
  refine z_getR 4 hB_z fX10_22 (N99 (zS := zS) hN_z) dX10_addOne_1 rfl rfl (n99_13 (zS := zS) hN_z) ?_
  refine z_s 5 hB_z dX10_addOne_4 rfl rfl ?_
  refine z_s 6 hB_z dX10_addOne_5 rfl rfl ?_
  refine z_s 7 hB_z dX10_addOne_6 rfl rfl ?_
  refine z_s 8 hB_z dX10_addOne_7 rfl rfl ?_
  rw [z_n4 _ (by omega)]
  refine z_ast 9 hB_z (N104 (zS := zS) hN_z) dX10_addOne_8 rfl (vp_in_nI (show 4 * s_z + 0 < 24 by omega) (by decide)) ?_
  rw [nI_clamp (by omega)]
  refine z_s 10 hB_z dX10_addOne_9 rfl rfl ?_
  refine z_getR 13 hB_z fX10_22 (N99 (zS := zS) hN_z) dX10_addOne_10 rfl rfl (n99_13 (zS := zS) hN_z) ?_
  refine z_s 14 hB_z dX10_addOne_13 rfl rfl ?_
  refine z_s 15 hB_z dX10_addOne_14 rfl rfl ?_
  refine z_s 16 hB_z dX10_addOne_15 rfl rfl ?_
  refine z_s 17 hB_z dX10_addOne_16 rfl rfl ?_
  refine z_s 18 hB_z dX10_addOne_17 rfl rfl ?_
  refine z_s 19 hB_z dX10_addOne_18 rfl rfl ?_
  rw [z_n4 _ (by omega), show nI (4 * s_z) + 1 = nI (4 * s_z + 1) from z_n4b _ 1]
  refine z_ast 20 hB_z (N104 (zS := zS) hN_z) dX10_addOne_19 rfl (vp_in_nI (show 4 * s_z + 1 < 24 by omega) (by decide)) ?_
  rw [nI_clamp (by omega)]
  refine z_s 21 hB_z dX10_addOne_20 rfl rfl ?_
  refine z_getR 24 hB_z fX10_22 (N99 (zS := zS) hN_z) dX10_addOne_21 rfl rfl (n99_13 (zS := zS) hN_z) ?_
  refine z_s 25 hB_z dX10_addOne_24 rfl rfl ?_
  refine z_s 26 hB_z dX10_addOne_25 rfl rfl ?_
  refine z_s 27 hB_z dX10_addOne_26 rfl rfl ?_
  refine z_s 28 hB_z dX10_addOne_27 rfl rfl ?_
  refine z_s 29 hB_z dX10_addOne_28 rfl rfl ?_
  refine z_s 31 hB_z dX10_addOne_29 rfl rfl ?_
  rw [z_n4 _ (by omega), show nI (4 * s_z) + 2 = nI (4 * s_z + 2) from z_n4b _ 2]
  refine z_ast 32 hB_z (N104 (zS := zS) hN_z) dX10_addOne_31 rfl (vp_in_nI (show 4 * s_z + 2 < 24 by omega) (by decide)) ?_
  rw [nI_clamp (by omega)]
  refine z_s 33 hB_z dX10_addOne_32 rfl rfl ?_
  refine z_getR 36 hB_z fX10_22 (N99 (zS := zS) hN_z) dX10_addOne_33 rfl rfl (n99_13 (zS := zS) hN_z) ?_
  refine z_s 37 hB_z dX10_addOne_36 rfl rfl ?_
  refine z_s 38 hB_z dX10_addOne_37 rfl rfl ?_
  refine z_s 39 hB_z dX10_addOne_38 rfl rfl ?_
  refine z_s 40 hB_z dX10_addOne_39 rfl rfl ?_
  refine z_s 41 hB_z dX10_addOne_40 rfl rfl ?_
  refine z_s 43 hB_z dX10_addOne_41 rfl rfl ?_
  rw [z_n4 _ (by omega), show nI (4 * s_z) + 3 = nI (4 * s_z + 3) from z_n4b _ 3]
  refine z_ast 44 hB_z (N104 (zS := zS) hN_z) dX10_addOne_43 rfl (vp_in_nI (show 4 * s_z + 3 < 24 by omega) (by decide)) ?_
  rw [nI_clamp (by omega)]
  refine z_vret hM_z dX10_addOne_44 rfl ?_ rfl rfl
  exact ⟨rfl, rfl⟩
theorem c_X10_addGuest {g_z : z_U} {d_z : Nat} {zS : z_S} (hN_z : z_LM zS) {s_z : Nat} (hs : s_z < 10) {a_z b_z c_z e_z : Int32} : z_C g_z (d_z) 0 0 mX10_addGuest [.ref 99, .int (nI s_z), .int a_z, .int b_z, .int c_z, .int e_z] zS (fun r_z zS' => r_z = none ∧ z_up zS (z_u2 (z_u2 (z_u2 (z_u2 (z_I zS) 105 (4 * s_z) a_z) 105 (4 * s_z + 1) b_z) 105 (4 * s_z + 2) c_z) 105 (4 * s_z + 3) e_z) = zS') := by
  refine z_enter [some (.ref 99), some (.int (nI s_z)), some (.int a_z), some (.int b_z), some (.int c_z), some (.int e_z)] rfl rfl (Nat.le_of_ble_eq_true rfl) rfl (fun zX hM_z => ?_)
  have hB_z : z_B g_z zX RX10 cX10_addGuest 6 := hM_z.1
  refine z_s 1 hB_z dX10_addGuest_0 rfl rfl ?_
  refine z_getR 4 hB_z fX10_25 (N99 (zS := zS) hN_z) dX10_addGuest_1 rfl rfl (n99_14 (zS := zS) hN_z) ?_
  refine z_s 5 hB_z dX10_addGuest_4 rfl rfl ?_
  refine z_s 6 hB_z dX10_addGuest_5 rfl rfl ?_
  refine z_s 7 hB_z dX10_addGuest_6 rfl rfl ?_
  refine z_s 8 hB_z dX10_addGuest_7 rfl rfl ?_
  rw [z_n4 _ (by omega)]
  refine z_ast 9 hB_z (N105 (zS := zS) hN_z) dX10_addGuest_8 rfl (vp_in_nI (show 4 * s_z + 0 < 40 by omega) (by decide)) ?_
  rw [nI_clamp (by omega)]
  refine z_s 10 hB_z dX10_addGuest_9 rfl rfl ?_
  refine z_getR 13 hB_z fX10_25 (N99 (zS := zS) hN_z) dX10_addGuest_10 rfl rfl (n99_14 (zS := zS) hN_z) ?_
  refine z_s 14 hB_z dX10_addGuest_13 rfl rfl ?_
  refine z_s 15 hB_z dX10_addGuest_14 rfl rfl ?_
  refine z_s 16 hB_z dX10_addGuest_15 rfl rfl ?_
  refine z_s 17 hB_z dX10_addGuest_16 rfl rfl ?_
  refine z_s 18 hB_z dX10_addGuest_17 rfl rfl ?_
  refine z_s 19 hB_z dX10_addGuest_18 rfl rfl ?_
  rw [z_n4 _ (by omega), show nI (4 * s_z) + 1 = nI (4 * s_z + 1) from z_n4b _ 1]
  refine z_ast 20 hB_z (N105 (zS := zS) hN_z) dX10_addGuest_19 rfl (vp_in_nI (show 4 * s_z + 1 < 40 by omega) (by decide)) ?_
  rw [nI_clamp (by omega)]
  refine z_s 21 hB_z dX10_addGuest_20 rfl rfl ?_
  refine z_getR 24 hB_z fX10_25 (N99 (zS := zS) hN_z) dX10_addGuest_21 rfl rfl (n99_14 (zS := zS) hN_z) ?_
  refine z_s 25 hB_z dX10_addGuest_24 rfl rfl ?_
  refine z_s 26 hB_z dX10_addGuest_25 rfl rfl ?_
  refine z_s 27 hB_z dX10_addGuest_26 rfl rfl ?_
  refine z_s 28 hB_z dX10_addGuest_27 rfl rfl ?_
  refine z_s 29 hB_z dX10_addGuest_28 rfl rfl ?_
  refine z_s 31 hB_z dX10_addGuest_29 rfl rfl ?_
  rw [z_n4 _ (by omega), show nI (4 * s_z) + 2 = nI (4 * s_z + 2) from z_n4b _ 2]
  refine z_ast 32 hB_z (N105 (zS := zS) hN_z) dX10_addGuest_31 rfl (vp_in_nI (show 4 * s_z + 2 < 40 by omega) (by decide)) ?_
  rw [nI_clamp (by omega)]
  refine z_s 33 hB_z dX10_addGuest_32 rfl rfl ?_
  refine z_getR 36 hB_z fX10_25 (N99 (zS := zS) hN_z) dX10_addGuest_33 rfl rfl (n99_14 (zS := zS) hN_z) ?_
  refine z_s 37 hB_z dX10_addGuest_36 rfl rfl ?_
  refine z_s 38 hB_z dX10_addGuest_37 rfl rfl ?_
  refine z_s 39 hB_z dX10_addGuest_38 rfl rfl ?_
  refine z_s 40 hB_z dX10_addGuest_39 rfl rfl ?_
  refine z_s 41 hB_z dX10_addGuest_40 rfl rfl ?_
  refine z_s 43 hB_z dX10_addGuest_41 rfl rfl ?_
  rw [z_n4 _ (by omega), show nI (4 * s_z) + 3 = nI (4 * s_z + 3) from z_n4b _ 3]
  refine z_ast 44 hB_z (N105 (zS := zS) hN_z) dX10_addGuest_43 rfl (vp_in_nI (show 4 * s_z + 3 < 40 by omega) (by decide)) ?_
  rw [nI_clamp (by omega)]
  refine z_vret hM_z dX10_addGuest_44 rfl ?_ rfl rfl
  exact ⟨rfl, rfl⟩
/-- a row of n made, into the model's field k -/
def z_nm (zS : z_S) (n_z k_z : Nat) : z_S := z_pR (z_new zS (1, n_z)) 99 k_z (some (z_nx zS + 4))
theorem z_nm_nx (zS : z_S) (n_z k_z : Nat) : z_nx (z_nm zS n_z k_z) = z_nx zS + 1 := rfl
theorem z_nm_kd {zS : z_S} {n_z k_z o : Nat} (h_z : o ≠ z_nx zS + 4) : z_kd (z_nm zS n_z k_z) o = z_kd zS o := if_neg h_z
theorem z_nm_kq {zS : z_S} {n_z k_z o : Nat} (h_z : o = z_nx zS + 4) : z_kd (z_nm zS n_z k_z) o = (1, n_z) := if_pos h_z
theorem z_nm_I {zS : z_S} {n_z k_z o j_z : Nat} (h_z : o ≠ z_nx zS + 4) : z_I (z_nm zS n_z k_z) o j_z = z_I zS o j_z := if_neg h_z
theorem z_nm_I0 {zS : z_S} {n_z k_z o j_z : Nat} (h_z : o = z_nx zS + 4) : z_I (z_nm zS n_z k_z) o j_z = 0 := if_pos h_z
theorem z_nm_R {zS : z_S} {n_z k_z o j_z : Nat} (h_z : o ≠ z_nx zS + 4) (h2 : o ≠ 99 ∨ j_z ≠ k_z) : z_R (z_nm zS n_z k_z) o j_z = z_R zS o j_z := by
  show z_u2 (fun o k_z => if o = z_nx zS + 4 then none else z_R zS o k_z) 99 k_z (some (z_nx zS + 4)) o j_z = _
  rw [z_u2_ne h2]
  exact if_neg h_z
theorem z_nm_Rq {zS : z_S} {n_z k_z : Nat} : z_R (z_nm zS n_z k_z) 99 k_z = some (z_nx zS + 4) := z_u2_same _ _ _ _
theorem z_is_nm {zS : z_S} {n_z k_z : Nat} (h_z : z_is zS 99 (0, 10)) : z_is (z_nm zS n_z k_z) 99 (0, 10) := h_z.new.pR
def z_M1 (zS : z_S) : z_S := z_nm (zS) 200 1
def z_M2 (zS : z_S) : z_S := z_nm (z_M1 zS) 24 7
def z_M3 (zS : z_S) : z_S := z_nm (z_M2 zS) 40 8
def z_M4 (zS : z_S) : z_S := z_nm (z_M3 zS) 6 9
def z_M5 (zS : z_S) : z_S := z_nm (z_M4 zS) 24 13
def z_M6 (zS : z_S) : z_S := z_nm (z_M5 zS) 40 14
def z_M7 (zS : z_S) : z_S := z_nm (z_M6 zS) 17 15
def z_M8 (zS : z_S) : z_S := z_nm (z_M7 zS) 17 16
def z_M9 (zS : z_S) : z_S := z_nm (z_M8 zS) 136 17
def z_M10 (zS : z_S) : z_S := z_nm (z_M9 zS) 34 19
def z_M11 (zS : z_S) : z_S := z_nm (z_M10 zS) 24 22
def z_M12 (zS : z_S) : z_S := z_nm (z_M11 zS) 10 29
theorem z_M1_nx {zS : z_S} (h_z : z_nx zS = 96) : z_nx (z_M1 zS) = 97 := congrArg (fun q_z => q_z + 1) h_z
theorem z_M2_nx {zS : z_S} (h_z : z_nx zS = 96) : z_nx (z_M2 zS) = 98 := congrArg (fun q_z => q_z + 1) (z_M1_nx h_z)
theorem z_M3_nx {zS : z_S} (h_z : z_nx zS = 96) : z_nx (z_M3 zS) = 99 := congrArg (fun q_z => q_z + 1) (z_M2_nx h_z)
theorem z_M4_nx {zS : z_S} (h_z : z_nx zS = 96) : z_nx (z_M4 zS) = 100 := congrArg (fun q_z => q_z + 1) (z_M3_nx h_z)
theorem z_M5_nx {zS : z_S} (h_z : z_nx zS = 96) : z_nx (z_M5 zS) = 101 := congrArg (fun q_z => q_z + 1) (z_M4_nx h_z)
theorem z_M6_nx {zS : z_S} (h_z : z_nx zS = 96) : z_nx (z_M6 zS) = 102 := congrArg (fun q_z => q_z + 1) (z_M5_nx h_z)
theorem z_M7_nx {zS : z_S} (h_z : z_nx zS = 96) : z_nx (z_M7 zS) = 103 := congrArg (fun q_z => q_z + 1) (z_M6_nx h_z)
theorem z_M8_nx {zS : z_S} (h_z : z_nx zS = 96) : z_nx (z_M8 zS) = 104 := congrArg (fun q_z => q_z + 1) (z_M7_nx h_z)
theorem z_M9_nx {zS : z_S} (h_z : z_nx zS = 96) : z_nx (z_M9 zS) = 105 := congrArg (fun q_z => q_z + 1) (z_M8_nx h_z)
theorem z_M10_nx {zS : z_S} (h_z : z_nx zS = 96) : z_nx (z_M10 zS) = 106 := congrArg (fun q_z => q_z + 1) (z_M9_nx h_z)
theorem z_M11_nx {zS : z_S} (h_z : z_nx zS = 96) : z_nx (z_M11 zS) = 107 := congrArg (fun q_z => q_z + 1) (z_M10_nx h_z)
theorem z_M12_nx {zS : z_S} (h_z : z_nx zS = 96) : z_nx (z_M12 zS) = 108 := congrArg (fun q_z => q_z + 1) (z_M11_nx h_z)
set_option maxHeartbeats 1000000 in
theorem z_LM12 {zS : z_S} (h0 : z_is zS 99 (0, 10)) (h_z : z_nx zS = 96) : z_LM (z_M12 zS) := by
  refine ⟨fun k_z hk => ?_, by rw [z_M12_nx h_z]; exact Nat.le_refl _, ?_⟩
  · rcases (show k_z = 0 ∨ k_z = 1 ∨ k_z = 2 ∨ k_z = 3 ∨ k_z = 4 ∨ k_z = 5 ∨ k_z = 6 ∨ k_z = 7 ∨ k_z = 8 ∨ k_z = 9 ∨ k_z = 10 ∨ k_z = 11 ∨ k_z = 12 by omega) with rfl | rfl | rfl | rfl | rfl | rfl | rfl | rfl | rfl | rfl | rfl | rfl | rfl
    · exact (z_nm_kd (by rw [z_M11_nx h_z]; omega)).trans ((z_nm_kd (by rw [z_M10_nx h_z]; omega)).trans ((z_nm_kd (by rw [z_M9_nx h_z]; omega)).trans ((z_nm_kd (by rw [z_M8_nx h_z]; omega)).trans ((z_nm_kd (by rw [z_M7_nx h_z]; omega)).trans ((z_nm_kd (by rw [z_M6_nx h_z]; omega)).trans ((z_nm_kd (by rw [z_M5_nx h_z]; omega)).trans ((z_nm_kd (by rw [z_M4_nx h_z]; omega)).trans ((z_nm_kd (by rw [z_M3_nx h_z]; omega)).trans ((z_nm_kd (by rw [z_M2_nx h_z]; omega)).trans ((z_nm_kd (by rw [z_M1_nx h_z]; omega)).trans ((z_nm_kd (by rw [h_z]; omega)).trans (h0.1))))))))))))
    · exact (z_nm_kd (by rw [z_M11_nx h_z]; omega)).trans ((z_nm_kd (by rw [z_M10_nx h_z]; omega)).trans ((z_nm_kd (by rw [z_M9_nx h_z]; omega)).trans ((z_nm_kd (by rw [z_M8_nx h_z]; omega)).trans ((z_nm_kd (by rw [z_M7_nx h_z]; omega)).trans ((z_nm_kd (by rw [z_M6_nx h_z]; omega)).trans ((z_nm_kd (by rw [z_M5_nx h_z]; omega)).trans ((z_nm_kd (by rw [z_M4_nx h_z]; omega)).trans ((z_nm_kd (by rw [z_M3_nx h_z]; omega)).trans ((z_nm_kd (by rw [z_M2_nx h_z]; omega)).trans ((z_nm_kd (by rw [z_M1_nx h_z]; omega)).trans (z_nm_kq (by rw [h_z]))))))))))))
    · exact (z_nm_kd (by rw [z_M11_nx h_z]; omega)).trans ((z_nm_kd (by rw [z_M10_nx h_z]; omega)).trans ((z_nm_kd (by rw [z_M9_nx h_z]; omega)).trans ((z_nm_kd (by rw [z_M8_nx h_z]; omega)).trans ((z_nm_kd (by rw [z_M7_nx h_z]; omega)).trans ((z_nm_kd (by rw [z_M6_nx h_z]; omega)).trans ((z_nm_kd (by rw [z_M5_nx h_z]; omega)).trans ((z_nm_kd (by rw [z_M4_nx h_z]; omega)).trans ((z_nm_kd (by rw [z_M3_nx h_z]; omega)).trans ((z_nm_kd (by rw [z_M2_nx h_z]; omega)).trans (z_nm_kq (by rw [z_M1_nx h_z])))))))))))
    · exact (z_nm_kd (by rw [z_M11_nx h_z]; omega)).trans ((z_nm_kd (by rw [z_M10_nx h_z]; omega)).trans ((z_nm_kd (by rw [z_M9_nx h_z]; omega)).trans ((z_nm_kd (by rw [z_M8_nx h_z]; omega)).trans ((z_nm_kd (by rw [z_M7_nx h_z]; omega)).trans ((z_nm_kd (by rw [z_M6_nx h_z]; omega)).trans ((z_nm_kd (by rw [z_M5_nx h_z]; omega)).trans ((z_nm_kd (by rw [z_M4_nx h_z]; omega)).trans ((z_nm_kd (by rw [z_M3_nx h_z]; omega)).trans (z_nm_kq (by rw [z_M2_nx h_z]))))))))))
    · exact (z_nm_kd (by rw [z_M11_nx h_z]; omega)).trans ((z_nm_kd (by rw [z_M10_nx h_z]; omega)).trans ((z_nm_kd (by rw [z_M9_nx h_z]; omega)).trans ((z_nm_kd (by rw [z_M8_nx h_z]; omega)).trans ((z_nm_kd (by rw [z_M7_nx h_z]; omega)).trans ((z_nm_kd (by rw [z_M6_nx h_z]; omega)).trans ((z_nm_kd (by rw [z_M5_nx h_z]; omega)).trans ((z_nm_kd (by rw [z_M4_nx h_z]; omega)).trans (z_nm_kq (by rw [z_M3_nx h_z])))))))))
    · exact (z_nm_kd (by rw [z_M11_nx h_z]; omega)).trans ((z_nm_kd (by rw [z_M10_nx h_z]; omega)).trans ((z_nm_kd (by rw [z_M9_nx h_z]; omega)).trans ((z_nm_kd (by rw [z_M8_nx h_z]; omega)).trans ((z_nm_kd (by rw [z_M7_nx h_z]; omega)).trans ((z_nm_kd (by rw [z_M6_nx h_z]; omega)).trans ((z_nm_kd (by rw [z_M5_nx h_z]; omega)).trans (z_nm_kq (by rw [z_M4_nx h_z]))))))))
    · exact (z_nm_kd (by rw [z_M11_nx h_z]; omega)).trans ((z_nm_kd (by rw [z_M10_nx h_z]; omega)).trans ((z_nm_kd (by rw [z_M9_nx h_z]; omega)).trans ((z_nm_kd (by rw [z_M8_nx h_z]; omega)).trans ((z_nm_kd (by rw [z_M7_nx h_z]; omega)).trans ((z_nm_kd (by rw [z_M6_nx h_z]; omega)).trans (z_nm_kq (by rw [z_M5_nx h_z])))))))
    · exact (z_nm_kd (by rw [z_M11_nx h_z]; omega)).trans ((z_nm_kd (by rw [z_M10_nx h_z]; omega)).trans ((z_nm_kd (by rw [z_M9_nx h_z]; omega)).trans ((z_nm_kd (by rw [z_M8_nx h_z]; omega)).trans ((z_nm_kd (by rw [z_M7_nx h_z]; omega)).trans (z_nm_kq (by rw [z_M6_nx h_z]))))))
    · exact (z_nm_kd (by rw [z_M11_nx h_z]; omega)).trans ((z_nm_kd (by rw [z_M10_nx h_z]; omega)).trans ((z_nm_kd (by rw [z_M9_nx h_z]; omega)).trans ((z_nm_kd (by rw [z_M8_nx h_z]; omega)).trans (z_nm_kq (by rw [z_M7_nx h_z])))))
    · exact (z_nm_kd (by rw [z_M11_nx h_z]; omega)).trans ((z_nm_kd (by rw [z_M10_nx h_z]; omega)).trans ((z_nm_kd (by rw [z_M9_nx h_z]; omega)).trans (z_nm_kq (by rw [z_M8_nx h_z]))))
    · exact (z_nm_kd (by rw [z_M11_nx h_z]; omega)).trans ((z_nm_kd (by rw [z_M10_nx h_z]; omega)).trans (z_nm_kq (by rw [z_M9_nx h_z])))
    · exact (z_nm_kd (by rw [z_M11_nx h_z]; omega)).trans (z_nm_kq (by rw [z_M10_nx h_z]))
    · exact z_nm_kq (by rw [z_M11_nx h_z])
  · intro t_z ht
    simp only [z_rLM, List.mem_cons, List.not_mem_nil, or_false] at ht
    rcases ht with rfl | rfl | rfl | rfl | rfl | rfl | rfl | rfl | rfl | rfl | rfl | rfl
    · exact (z_nm_R (by rw [z_M11_nx h_z]; omega) (Or.inr (by decide))).trans ((z_nm_R (by rw [z_M10_nx h_z]; omega) (Or.inr (by decide))).trans ((z_nm_R (by rw [z_M9_nx h_z]; omega) (Or.inr (by decide))).trans ((z_nm_R (by rw [z_M8_nx h_z]; omega) (Or.inr (by decide))).trans ((z_nm_R (by rw [z_M7_nx h_z]; omega) (Or.inr (by decide))).trans ((z_nm_R (by rw [z_M6_nx h_z]; omega) (Or.inr (by decide))).trans ((z_nm_R (by rw [z_M5_nx h_z]; omega) (Or.inr (by decide))).trans ((z_nm_R (by rw [z_M4_nx h_z]; omega) (Or.inr (by decide))).trans ((z_nm_R (by rw [z_M3_nx h_z]; omega) (Or.inr (by decide))).trans ((z_nm_R (by rw [z_M2_nx h_z]; omega) (Or.inr (by decide))).trans ((z_nm_R (by rw [z_M1_nx h_z]; omega) (Or.inr (by decide))).trans (z_nm_Rq.trans (by rw [h_z]))))))))))))
    · exact (z_nm_R (by rw [z_M11_nx h_z]; omega) (Or.inr (by decide))).trans ((z_nm_R (by rw [z_M10_nx h_z]; omega) (Or.inr (by decide))).trans ((z_nm_R (by rw [z_M9_nx h_z]; omega) (Or.inr (by decide))).trans ((z_nm_R (by rw [z_M8_nx h_z]; omega) (Or.inr (by decide))).trans ((z_nm_R (by rw [z_M7_nx h_z]; omega) (Or.inr (by decide))).trans ((z_nm_R (by rw [z_M6_nx h_z]; omega) (Or.inr (by decide))).trans ((z_nm_R (by rw [z_M5_nx h_z]; omega) (Or.inr (by decide))).trans ((z_nm_R (by rw [z_M4_nx h_z]; omega) (Or.inr (by decide))).trans ((z_nm_R (by rw [z_M3_nx h_z]; omega) (Or.inr (by decide))).trans ((z_nm_R (by rw [z_M2_nx h_z]; omega) (Or.inr (by decide))).trans (z_nm_Rq.trans (by rw [z_M1_nx h_z])))))))))))
    · exact (z_nm_R (by rw [z_M11_nx h_z]; omega) (Or.inr (by decide))).trans ((z_nm_R (by rw [z_M10_nx h_z]; omega) (Or.inr (by decide))).trans ((z_nm_R (by rw [z_M9_nx h_z]; omega) (Or.inr (by decide))).trans ((z_nm_R (by rw [z_M8_nx h_z]; omega) (Or.inr (by decide))).trans ((z_nm_R (by rw [z_M7_nx h_z]; omega) (Or.inr (by decide))).trans ((z_nm_R (by rw [z_M6_nx h_z]; omega) (Or.inr (by decide))).trans ((z_nm_R (by rw [z_M5_nx h_z]; omega) (Or.inr (by decide))).trans ((z_nm_R (by rw [z_M4_nx h_z]; omega) (Or.inr (by decide))).trans ((z_nm_R (by rw [z_M3_nx h_z]; omega) (Or.inr (by decide))).trans (z_nm_Rq.trans (by rw [z_M2_nx h_z]))))))))))
    · exact (z_nm_R (by rw [z_M11_nx h_z]; omega) (Or.inr (by decide))).trans ((z_nm_R (by rw [z_M10_nx h_z]; omega) (Or.inr (by decide))).trans ((z_nm_R (by rw [z_M9_nx h_z]; omega) (Or.inr (by decide))).trans ((z_nm_R (by rw [z_M8_nx h_z]; omega) (Or.inr (by decide))).trans ((z_nm_R (by rw [z_M7_nx h_z]; omega) (Or.inr (by decide))).trans ((z_nm_R (by rw [z_M6_nx h_z]; omega) (Or.inr (by decide))).trans ((z_nm_R (by rw [z_M5_nx h_z]; omega) (Or.inr (by decide))).trans ((z_nm_R (by rw [z_M4_nx h_z]; omega) (Or.inr (by decide))).trans (z_nm_Rq.trans (by rw [z_M3_nx h_z])))))))))
    · exact (z_nm_R (by rw [z_M11_nx h_z]; omega) (Or.inr (by decide))).trans ((z_nm_R (by rw [z_M10_nx h_z]; omega) (Or.inr (by decide))).trans ((z_nm_R (by rw [z_M9_nx h_z]; omega) (Or.inr (by decide))).trans ((z_nm_R (by rw [z_M8_nx h_z]; omega) (Or.inr (by decide))).trans ((z_nm_R (by rw [z_M7_nx h_z]; omega) (Or.inr (by decide))).trans ((z_nm_R (by rw [z_M6_nx h_z]; omega) (Or.inr (by decide))).trans ((z_nm_R (by rw [z_M5_nx h_z]; omega) (Or.inr (by decide))).trans (z_nm_Rq.trans (by rw [z_M4_nx h_z]))))))))
    · exact (z_nm_R (by rw [z_M11_nx h_z]; omega) (Or.inr (by decide))).trans ((z_nm_R (by rw [z_M10_nx h_z]; omega) (Or.inr (by decide))).trans ((z_nm_R (by rw [z_M9_nx h_z]; omega) (Or.inr (by decide))).trans ((z_nm_R (by rw [z_M8_nx h_z]; omega) (Or.inr (by decide))).trans ((z_nm_R (by rw [z_M7_nx h_z]; omega) (Or.inr (by decide))).trans ((z_nm_R (by rw [z_M6_nx h_z]; omega) (Or.inr (by decide))).trans (z_nm_Rq.trans (by rw [z_M5_nx h_z])))))))
    · exact (z_nm_R (by rw [z_M11_nx h_z]; omega) (Or.inr (by decide))).trans ((z_nm_R (by rw [z_M10_nx h_z]; omega) (Or.inr (by decide))).trans ((z_nm_R (by rw [z_M9_nx h_z]; omega) (Or.inr (by decide))).trans ((z_nm_R (by rw [z_M8_nx h_z]; omega) (Or.inr (by decide))).trans ((z_nm_R (by rw [z_M7_nx h_z]; omega) (Or.inr (by decide))).trans (z_nm_Rq.trans (by rw [z_M6_nx h_z]))))))
    · exact (z_nm_R (by rw [z_M11_nx h_z]; omega) (Or.inr (by decide))).trans ((z_nm_R (by rw [z_M10_nx h_z]; omega) (Or.inr (by decide))).trans ((z_nm_R (by rw [z_M9_nx h_z]; omega) (Or.inr (by decide))).trans ((z_nm_R (by rw [z_M8_nx h_z]; omega) (Or.inr (by decide))).trans (z_nm_Rq.trans (by rw [z_M7_nx h_z])))))
    · exact (z_nm_R (by rw [z_M11_nx h_z]; omega) (Or.inr (by decide))).trans ((z_nm_R (by rw [z_M10_nx h_z]; omega) (Or.inr (by decide))).trans ((z_nm_R (by rw [z_M9_nx h_z]; omega) (Or.inr (by decide))).trans (z_nm_Rq.trans (by rw [z_M8_nx h_z]))))
    · exact (z_nm_R (by rw [z_M11_nx h_z]; omega) (Or.inr (by decide))).trans ((z_nm_R (by rw [z_M10_nx h_z]; omega) (Or.inr (by decide))).trans (z_nm_Rq.trans (by rw [z_M9_nx h_z])))
    · exact (z_nm_R (by rw [z_M11_nx h_z]; omega) (Or.inr (by decide))).trans (z_nm_Rq.trans (by rw [z_M10_nx h_z]))
    · exact z_nm_Rq.trans (by rw [z_M11_nx h_z])
set_option maxHeartbeats 1000000 in
theorem z_M12_0 {zS : z_S} (h_z : z_nx zS = 96) (hz : ∀ k_z, z_I zS 99 k_z = 0) : ∀ o, 99 ≤ o → o < 112 → ∀ k_z, z_I (z_M12 zS) o k_z = 0 := by
  intro o h1 h2 k_z
  rcases (show o = 99 ∨ o = 100 ∨ o = 101 ∨ o = 102 ∨ o = 103 ∨ o = 104 ∨ o = 105 ∨ o = 106 ∨ o = 107 ∨ o = 108 ∨ o = 109 ∨ o = 110 ∨ o = 111 by omega) with rfl | rfl | rfl | rfl | rfl | rfl | rfl | rfl | rfl | rfl | rfl | rfl | rfl
  · exact (z_nm_I (by rw [z_M11_nx h_z]; omega)).trans ((z_nm_I (by rw [z_M10_nx h_z]; omega)).trans ((z_nm_I (by rw [z_M9_nx h_z]; omega)).trans ((z_nm_I (by rw [z_M8_nx h_z]; omega)).trans ((z_nm_I (by rw [z_M7_nx h_z]; omega)).trans ((z_nm_I (by rw [z_M6_nx h_z]; omega)).trans ((z_nm_I (by rw [z_M5_nx h_z]; omega)).trans ((z_nm_I (by rw [z_M4_nx h_z]; omega)).trans ((z_nm_I (by rw [z_M3_nx h_z]; omega)).trans ((z_nm_I (by rw [z_M2_nx h_z]; omega)).trans ((z_nm_I (by rw [z_M1_nx h_z]; omega)).trans ((z_nm_I (by rw [h_z]; omega)).trans (hz k_z))))))))))))
  · exact (z_nm_I (by rw [z_M11_nx h_z]; omega)).trans ((z_nm_I (by rw [z_M10_nx h_z]; omega)).trans ((z_nm_I (by rw [z_M9_nx h_z]; omega)).trans ((z_nm_I (by rw [z_M8_nx h_z]; omega)).trans ((z_nm_I (by rw [z_M7_nx h_z]; omega)).trans ((z_nm_I (by rw [z_M6_nx h_z]; omega)).trans ((z_nm_I (by rw [z_M5_nx h_z]; omega)).trans ((z_nm_I (by rw [z_M4_nx h_z]; omega)).trans ((z_nm_I (by rw [z_M3_nx h_z]; omega)).trans ((z_nm_I (by rw [z_M2_nx h_z]; omega)).trans ((z_nm_I (by rw [z_M1_nx h_z]; omega)).trans (z_nm_I0 (by rw [h_z]))))))))))))
  · exact (z_nm_I (by rw [z_M11_nx h_z]; omega)).trans ((z_nm_I (by rw [z_M10_nx h_z]; omega)).trans ((z_nm_I (by rw [z_M9_nx h_z]; omega)).trans ((z_nm_I (by rw [z_M8_nx h_z]; omega)).trans ((z_nm_I (by rw [z_M7_nx h_z]; omega)).trans ((z_nm_I (by rw [z_M6_nx h_z]; omega)).trans ((z_nm_I (by rw [z_M5_nx h_z]; omega)).trans ((z_nm_I (by rw [z_M4_nx h_z]; omega)).trans ((z_nm_I (by rw [z_M3_nx h_z]; omega)).trans ((z_nm_I (by rw [z_M2_nx h_z]; omega)).trans (z_nm_I0 (by rw [z_M1_nx h_z])))))))))))
  · exact (z_nm_I (by rw [z_M11_nx h_z]; omega)).trans ((z_nm_I (by rw [z_M10_nx h_z]; omega)).trans ((z_nm_I (by rw [z_M9_nx h_z]; omega)).trans ((z_nm_I (by rw [z_M8_nx h_z]; omega)).trans ((z_nm_I (by rw [z_M7_nx h_z]; omega)).trans ((z_nm_I (by rw [z_M6_nx h_z]; omega)).trans ((z_nm_I (by rw [z_M5_nx h_z]; omega)).trans ((z_nm_I (by rw [z_M4_nx h_z]; omega)).trans ((z_nm_I (by rw [z_M3_nx h_z]; omega)).trans (z_nm_I0 (by rw [z_M2_nx h_z]))))))))))
  · exact (z_nm_I (by rw [z_M11_nx h_z]; omega)).trans ((z_nm_I (by rw [z_M10_nx h_z]; omega)).trans ((z_nm_I (by rw [z_M9_nx h_z]; omega)).trans ((z_nm_I (by rw [z_M8_nx h_z]; omega)).trans ((z_nm_I (by rw [z_M7_nx h_z]; omega)).trans ((z_nm_I (by rw [z_M6_nx h_z]; omega)).trans ((z_nm_I (by rw [z_M5_nx h_z]; omega)).trans ((z_nm_I (by rw [z_M4_nx h_z]; omega)).trans (z_nm_I0 (by rw [z_M3_nx h_z])))))))))
  · exact (z_nm_I (by rw [z_M11_nx h_z]; omega)).trans ((z_nm_I (by rw [z_M10_nx h_z]; omega)).trans ((z_nm_I (by rw [z_M9_nx h_z]; omega)).trans ((z_nm_I (by rw [z_M8_nx h_z]; omega)).trans ((z_nm_I (by rw [z_M7_nx h_z]; omega)).trans ((z_nm_I (by rw [z_M6_nx h_z]; omega)).trans ((z_nm_I (by rw [z_M5_nx h_z]; omega)).trans (z_nm_I0 (by rw [z_M4_nx h_z]))))))))
  · exact (z_nm_I (by rw [z_M11_nx h_z]; omega)).trans ((z_nm_I (by rw [z_M10_nx h_z]; omega)).trans ((z_nm_I (by rw [z_M9_nx h_z]; omega)).trans ((z_nm_I (by rw [z_M8_nx h_z]; omega)).trans ((z_nm_I (by rw [z_M7_nx h_z]; omega)).trans ((z_nm_I (by rw [z_M6_nx h_z]; omega)).trans (z_nm_I0 (by rw [z_M5_nx h_z])))))))
  · exact (z_nm_I (by rw [z_M11_nx h_z]; omega)).trans ((z_nm_I (by rw [z_M10_nx h_z]; omega)).trans ((z_nm_I (by rw [z_M9_nx h_z]; omega)).trans ((z_nm_I (by rw [z_M8_nx h_z]; omega)).trans ((z_nm_I (by rw [z_M7_nx h_z]; omega)).trans (z_nm_I0 (by rw [z_M6_nx h_z]))))))
  · exact (z_nm_I (by rw [z_M11_nx h_z]; omega)).trans ((z_nm_I (by rw [z_M10_nx h_z]; omega)).trans ((z_nm_I (by rw [z_M9_nx h_z]; omega)).trans ((z_nm_I (by rw [z_M8_nx h_z]; omega)).trans (z_nm_I0 (by rw [z_M7_nx h_z])))))
  · exact (z_nm_I (by rw [z_M11_nx h_z]; omega)).trans ((z_nm_I (by rw [z_M10_nx h_z]; omega)).trans ((z_nm_I (by rw [z_M9_nx h_z]; omega)).trans (z_nm_I0 (by rw [z_M8_nx h_z]))))
  · exact (z_nm_I (by rw [z_M11_nx h_z]; omega)).trans ((z_nm_I (by rw [z_M10_nx h_z]; omega)).trans (z_nm_I0 (by rw [z_M9_nx h_z])))
  · exact (z_nm_I (by rw [z_M11_nx h_z]; omega)).trans (z_nm_I0 (by rw [z_M10_nx h_z]))
  · exact z_nm_I0 (by rw [z_M11_nx h_z])
theorem z_M12_kd {zS : z_S} (h_z : z_nx zS = 96) {o : Nat} (ho : o < 99) : z_kd (z_M12 zS) o = z_kd zS o := (z_nm_kd (by rw [z_M11_nx h_z]; omega)).trans ((z_nm_kd (by rw [z_M10_nx h_z]; omega)).trans ((z_nm_kd (by rw [z_M9_nx h_z]; omega)).trans ((z_nm_kd (by rw [z_M8_nx h_z]; omega)).trans ((z_nm_kd (by rw [z_M7_nx h_z]; omega)).trans ((z_nm_kd (by rw [z_M6_nx h_z]; omega)).trans ((z_nm_kd (by rw [z_M5_nx h_z]; omega)).trans ((z_nm_kd (by rw [z_M4_nx h_z]; omega)).trans ((z_nm_kd (by rw [z_M3_nx h_z]; omega)).trans ((z_nm_kd (by rw [z_M2_nx h_z]; omega)).trans ((z_nm_kd (by rw [z_M1_nx h_z]; omega)).trans ((z_nm_kd (by rw [h_z]; omega)).trans (rfl))))))))))))
theorem z_M12_I {zS : z_S} (h_z : z_nx zS = 96) {o k_z : Nat} (ho : o < 99) : z_I (z_M12 zS) o k_z = z_I zS o k_z := (z_nm_I (by rw [z_M11_nx h_z]; omega)).trans ((z_nm_I (by rw [z_M10_nx h_z]; omega)).trans ((z_nm_I (by rw [z_M9_nx h_z]; omega)).trans ((z_nm_I (by rw [z_M8_nx h_z]; omega)).trans ((z_nm_I (by rw [z_M7_nx h_z]; omega)).trans ((z_nm_I (by rw [z_M6_nx h_z]; omega)).trans ((z_nm_I (by rw [z_M5_nx h_z]; omega)).trans ((z_nm_I (by rw [z_M4_nx h_z]; omega)).trans ((z_nm_I (by rw [z_M3_nx h_z]; omega)).trans ((z_nm_I (by rw [z_M2_nx h_z]; omega)).trans ((z_nm_I (by rw [z_M1_nx h_z]; omega)).trans ((z_nm_I (by rw [h_z]; omega)).trans (rfl))))))))))))
theorem z_M12_R {zS : z_S} (h_z : z_nx zS = 96) {o k_z : Nat} (ho : o < 99) : z_R (z_M12 zS) o k_z = z_R zS o k_z := (z_nm_R (by rw [z_M11_nx h_z]; omega) (Or.inl (by omega))).trans ((z_nm_R (by rw [z_M10_nx h_z]; omega) (Or.inl (by omega))).trans ((z_nm_R (by rw [z_M9_nx h_z]; omega) (Or.inl (by omega))).trans ((z_nm_R (by rw [z_M8_nx h_z]; omega) (Or.inl (by omega))).trans ((z_nm_R (by rw [z_M7_nx h_z]; omega) (Or.inl (by omega))).trans ((z_nm_R (by rw [z_M6_nx h_z]; omega) (Or.inl (by omega))).trans ((z_nm_R (by rw [z_M5_nx h_z]; omega) (Or.inl (by omega))).trans ((z_nm_R (by rw [z_M4_nx h_z]; omega) (Or.inl (by omega))).trans ((z_nm_R (by rw [z_M3_nx h_z]; omega) (Or.inl (by omega))).trans ((z_nm_R (by rw [z_M2_nx h_z]; omega) (Or.inl (by omega))).trans ((z_nm_R (by rw [z_M1_nx h_z]; omega) (Or.inl (by omega))).trans ((z_nm_R (by rw [h_z]; omega) (Or.inl (by omega))).trans (rfl))))))))))))
def z_t1 : List Int32 := [0, 1, 2, 0, 1, 2, 3, 1, 2, 1, 1, 0, 3, 4, 2, 1, 0, 2, 4, 2]
def z_t2 : List Int32 := [0, 1, 0, 12, 0, 2, 1, 5, 1, 4, 2, 30, 1, 1, 1, 8, 2, 2, 0, 9, 3, 4, 3, 20, 4, 1, 2, 15]
theorem z_R0_l : z_R0 = z_read (fun k_z => z_bl.getD k_z 0, 125) 200 (z_D0 (fun _ _ => 0)) 0 := by
  unfold z_R0 z_q0
  rw [z_by_bl]
theorem z_R0_n : z_R0.2.1.2 = (5, 7, 5) ∧ z_R0.2.2 = ((0 : Int32) ^^^ (1 <<< (nI (z_pr 0 2) &&& 31))) ^^^ (1 <<< (nI (z_pr 1 3) &&& 31)) := by
  rw [z_R0_l]
  decide +kernel
theorem z_R0_1 : ∀ s_z, s_z < 5 → ∀ k_z, k_z < 4 → z_R0.2.1.1 k_z s_z = z_t1.getD (4 * s_z + k_z) 0 := by
  rw [z_R0_l]
  decide +kernel
theorem z_R0_2 : ∀ s_z, s_z < 7 → ∀ k_z, k_z < 4 → z_R0.2.1.1 (4 + k_z) s_z = z_t2.getD (4 * s_z + k_z) 0 := by
  rw [z_R0_l]
  decide +kernel
theorem z_A0_OK : z_OK z_A0 := by
  have h_z := (z_read_ok (q_z := z_q0) 200 (z_D0 (fun _ _ => 0)) 0 (z_ODr0 _)).1
  exact ⟨h_z.ov (show ¬ z_R0.2.1.2.1 = 0 by rw [z_R0_n.1]; decide), z_OT0 h_z.2.2.1 h_z.2.2.2.1, fun j_z hj => absurd hj (Nat.not_lt_zero j_z), fun j_z hj => absurd hj (Nat.not_lt_zero j_z)⟩
def z_J1 (J_z : Nat → Nat → Int32) : Nat → Nat → Int32 := z_u2 (z_u2 (z_u2 (z_u2 (J_z) 104 (4 * 0) 0) 104 (4 * 0 + 1) 1) 104 (4 * 0 + 2) 2) 104 (4 * 0 + 3) 0
def z_J2 (J_z : Nat → Nat → Int32) : Nat → Nat → Int32 := z_u2 (z_u2 (z_u2 (z_u2 (z_J1 J_z) 104 (4 * 1) 1) 104 (4 * 1 + 1) 2) 104 (4 * 1 + 2) 3) 104 (4 * 1 + 3) 1
def z_J3 (J_z : Nat → Nat → Int32) : Nat → Nat → Int32 := z_u2 (z_u2 (z_u2 (z_u2 (z_J2 J_z) 104 (4 * 2) 2) 104 (4 * 2 + 1) 1) 104 (4 * 2 + 2) 1) 104 (4 * 2 + 3) 0
def z_J4 (J_z : Nat → Nat → Int32) : Nat → Nat → Int32 := z_u2 (z_u2 (z_u2 (z_u2 (z_J3 J_z) 104 (4 * 3) 3) 104 (4 * 3 + 1) 4) 104 (4 * 3 + 2) 2) 104 (4 * 3 + 3) 1
def z_J5 (J_z : Nat → Nat → Int32) : Nat → Nat → Int32 := z_u2 (z_u2 (z_u2 (z_u2 (z_J4 J_z) 104 (4 * 4) 0) 104 (4 * 4 + 1) 2) 104 (4 * 4 + 2) 4) 104 (4 * 4 + 3) 2
def z_J6 (J_z : Nat → Nat → Int32) : Nat → Nat → Int32 := z_u2 (z_J5 J_z) 99 10 5
def z_J7 (J_z : Nat → Nat → Int32) : Nat → Nat → Int32 := z_trn (z_J6 J_z) 106 5 0 2
def z_J8 (J_z : Nat → Nat → Int32) : Nat → Nat → Int32 := z_trn (z_J7 J_z) 106 5 1 3
def z_J9 (J_z : Nat → Nat → Int32) : Nat → Nat → Int32 := z_u2 (z_u2 (z_u2 (z_u2 (z_J8 J_z) 105 (4 * 0) 0) 105 (4 * 0 + 1) 1) 105 (4 * 0 + 2) 0) 105 (4 * 0 + 3) 12
def z_J10 (J_z : Nat → Nat → Int32) : Nat → Nat → Int32 := z_u2 (z_u2 (z_u2 (z_u2 (z_J9 J_z) 105 (4 * 1) 0) 105 (4 * 1 + 1) 2) 105 (4 * 1 + 2) 1) 105 (4 * 1 + 3) 5
def z_J11 (J_z : Nat → Nat → Int32) : Nat → Nat → Int32 := z_u2 (z_u2 (z_u2 (z_u2 (z_J10 J_z) 105 (4 * 2) 1) 105 (4 * 2 + 1) 4) 105 (4 * 2 + 2) 2) 105 (4 * 2 + 3) 30
def z_J12 (J_z : Nat → Nat → Int32) : Nat → Nat → Int32 := z_u2 (z_u2 (z_u2 (z_u2 (z_J11 J_z) 105 (4 * 3) 1) 105 (4 * 3 + 1) 1) 105 (4 * 3 + 2) 1) 105 (4 * 3 + 3) 8
def z_J13 (J_z : Nat → Nat → Int32) : Nat → Nat → Int32 := z_u2 (z_u2 (z_u2 (z_u2 (z_J12 J_z) 105 (4 * 4) 2) 105 (4 * 4 + 1) 2) 105 (4 * 4 + 2) 0) 105 (4 * 4 + 3) 9
def z_J14 (J_z : Nat → Nat → Int32) : Nat → Nat → Int32 := z_u2 (z_u2 (z_u2 (z_u2 (z_J13 J_z) 105 (4 * 5) 3) 105 (4 * 5 + 1) 4) 105 (4 * 5 + 2) 3) 105 (4 * 5 + 3) 20
def z_J15 (J_z : Nat → Nat → Int32) : Nat → Nat → Int32 := z_u2 (z_u2 (z_u2 (z_u2 (z_J14 J_z) 105 (4 * 6) 4) 105 (4 * 6 + 1) 1) 105 (4 * 6 + 2) 2) 105 (4 * 6 + 3) 15
def z_J16 (J_z : Nat → Nat → Int32) : Nat → Nat → Int32 := z_u2 (z_J15 J_z) 99 11 7
def z_J17 (J_z : Nat → Nat → Int32) : Nat → Nat → Int32 := z_u2 (z_J16 J_z) 99 12 5
theorem z_JE_off (J_z : Nat → Nat → Int32) {o k_z : Nat} (h1 : o ≠ 104) (h2 : o ≠ 105) (h3 : o ≠ 106) (h4 : o = 99 → k_z ≠ 10 ∧ k_z ≠ 11 ∧ k_z ≠ 12) : z_J17 J_z o k_z = J_z o k_z := by
  have u_z : ∀ (f_z : Nat → Nat → Int32) (a_z b_z : Nat) (v_z : Int32), a_z = 104 ∨ a_z = 105 ∨ a_z = 106 → z_u2 f_z a_z b_z v_z o k_z = f_z o k_z := fun f_z a_z b_z v_z h_z => z_u2_ne (Or.inl (by omega))
  have tr_z : ∀ (f_z : Nat → Nat → Int32) (a_z b_z : Nat), z_trn f_z 106 5 a_z b_z o k_z = f_z o k_z := fun f_z a_z b_z => (z_u2_ne (Or.inl h3)).trans (z_u2_ne (Or.inl h3))
  have p_z : ∀ (f_z : Nat → Nat → Int32) (b_z : Nat) (v_z : Int32), (b_z = 10 ∨ b_z = 11 ∨ b_z = 12) → z_u2 f_z 99 b_z v_z o k_z = f_z o k_z := fun f_z b_z v_z h_z => z_u2_ne (by omega)
  refine (show z_J17 J_z o k_z = z_J16 J_z o k_z from p_z _ _ _ (by decide)).trans ?_
  refine (show z_J16 J_z o k_z = z_J15 J_z o k_z from p_z _ _ _ (by decide)).trans ?_
  refine (show z_J15 J_z o k_z = z_J14 J_z o k_z from (u_z _ _ _ _ (by decide)).trans ((u_z _ _ _ _ (by decide)).trans ((u_z _ _ _ _ (by decide)).trans (u_z _ _ _ _ (by decide))))).trans ?_
  refine (show z_J14 J_z o k_z = z_J13 J_z o k_z from (u_z _ _ _ _ (by decide)).trans ((u_z _ _ _ _ (by decide)).trans ((u_z _ _ _ _ (by decide)).trans (u_z _ _ _ _ (by decide))))).trans ?_
  refine (show z_J13 J_z o k_z = z_J12 J_z o k_z from (u_z _ _ _ _ (by decide)).trans ((u_z _ _ _ _ (by decide)).trans ((u_z _ _ _ _ (by decide)).trans (u_z _ _ _ _ (by decide))))).trans ?_
  refine (show z_J12 J_z o k_z = z_J11 J_z o k_z from (u_z _ _ _ _ (by decide)).trans ((u_z _ _ _ _ (by decide)).trans ((u_z _ _ _ _ (by decide)).trans (u_z _ _ _ _ (by decide))))).trans ?_
  refine (show z_J11 J_z o k_z = z_J10 J_z o k_z from (u_z _ _ _ _ (by decide)).trans ((u_z _ _ _ _ (by decide)).trans ((u_z _ _ _ _ (by decide)).trans (u_z _ _ _ _ (by decide))))).trans ?_
  refine (show z_J10 J_z o k_z = z_J9 J_z o k_z from (u_z _ _ _ _ (by decide)).trans ((u_z _ _ _ _ (by decide)).trans ((u_z _ _ _ _ (by decide)).trans (u_z _ _ _ _ (by decide))))).trans ?_
  refine (show z_J9 J_z o k_z = z_J8 J_z o k_z from (u_z _ _ _ _ (by decide)).trans ((u_z _ _ _ _ (by decide)).trans ((u_z _ _ _ _ (by decide)).trans (u_z _ _ _ _ (by decide))))).trans ?_
  refine (show z_J8 J_z o k_z = z_J7 J_z o k_z from tr_z _ _ _).trans ?_
  refine (show z_J7 J_z o k_z = z_J6 J_z o k_z from tr_z _ _ _).trans ?_
  refine (show z_J6 J_z o k_z = z_J5 J_z o k_z from p_z _ _ _ (by decide)).trans ?_
  refine (show z_J5 J_z o k_z = z_J4 J_z o k_z from (u_z _ _ _ _ (by decide)).trans ((u_z _ _ _ _ (by decide)).trans ((u_z _ _ _ _ (by decide)).trans (u_z _ _ _ _ (by decide))))).trans ?_
  refine (show z_J4 J_z o k_z = z_J3 J_z o k_z from (u_z _ _ _ _ (by decide)).trans ((u_z _ _ _ _ (by decide)).trans ((u_z _ _ _ _ (by decide)).trans (u_z _ _ _ _ (by decide))))).trans ?_
  refine (show z_J3 J_z o k_z = z_J2 J_z o k_z from (u_z _ _ _ _ (by decide)).trans ((u_z _ _ _ _ (by decide)).trans ((u_z _ _ _ _ (by decide)).trans (u_z _ _ _ _ (by decide))))).trans ?_
  refine (show z_J2 J_z o k_z = z_J1 J_z o k_z from (u_z _ _ _ _ (by decide)).trans ((u_z _ _ _ _ (by decide)).trans ((u_z _ _ _ _ (by decide)).trans (u_z _ _ _ _ (by decide))))).trans ?_
  refine (show z_J1 J_z o k_z = J_z o k_z from (u_z _ _ _ _ (by decide)).trans ((u_z _ _ _ _ (by decide)).trans ((u_z _ _ _ _ (by decide)).trans (u_z _ _ _ _ (by decide))))).trans ?_
  rfl
theorem z_JE_104 (J_z : Nat → Nat → Int32) : ∀ s_z, s_z < 5 → ∀ k_z, k_z < 4 → z_J17 J_z 104 (4 * s_z + k_z) = z_t1.getD (4 * s_z + k_z) 0 := by
  intro s_z hs k_z hk
  rcases (show s_z = 0 ∨ s_z = 1 ∨ s_z = 2 ∨ s_z = 3 ∨ s_z = 4 by omega) with rfl | rfl | rfl | rfl | rfl <;> rcases (show k_z = 0 ∨ k_z = 1 ∨ k_z = 2 ∨ k_z = 3 by omega) with rfl | rfl | rfl | rfl <;> rfl
theorem z_JE_105 (J_z : Nat → Nat → Int32) : ∀ s_z, s_z < 7 → ∀ k_z, k_z < 4 → z_J17 J_z 105 (4 * s_z + k_z) = z_t2.getD (4 * s_z + k_z) 0 := by
  intro s_z hs k_z hk
  rcases (show s_z = 0 ∨ s_z = 1 ∨ s_z = 2 ∨ s_z = 3 ∨ s_z = 4 ∨ s_z = 5 ∨ s_z = 6 by omega) with rfl | rfl | rfl | rfl | rfl | rfl | rfl <;> rcases (show k_z = 0 ∨ k_z = 1 ∨ k_z = 2 ∨ k_z = 3 by omega) with rfl | rfl | rfl | rfl <;> rfl
theorem z_JE_106 {J_z : Nat → Nat → Int32} (hZ : ∀ k_z, J_z 106 k_z = 0) : (∀ c_z, c_z < 6 → z_J17 J_z 106 (5 + c_z) = z_qr z_R0.2.2 c_z 6) ∧ ∀ k_z, (k_z < 5 ∨ 11 ≤ k_z) → z_J17 J_z 106 k_z = 0 := by
  have u_z : ∀ (f_z : Nat → Nat → Int32) (a_z b_z : Nat) (v_z : Int32) (k_z : Nat), a_z ≠ 106 → z_u2 f_z a_z b_z v_z 106 k_z = f_z 106 k_z := fun f_z a_z b_z v_z k_z h_z => z_u2_ne (Or.inl (fun z_z => h_z z_z.symm))
  have up_z : ∀ k_z, z_J17 J_z 106 k_z = z_J8 J_z 106 k_z := fun k_z => by
    refine (show z_J17 J_z 106 k_z = z_J16 J_z 106 k_z from u_z _ _ _ _ _ (by decide)).trans ?_
    refine (show z_J16 J_z 106 k_z = z_J15 J_z 106 k_z from u_z _ _ _ _ _ (by decide)).trans ?_
    refine (show z_J15 J_z 106 k_z = z_J14 J_z 106 k_z from (u_z _ _ _ _ _ (by decide)).trans ((u_z _ _ _ _ _ (by decide)).trans ((u_z _ _ _ _ _ (by decide)).trans (u_z _ _ _ _ _ (by decide))))).trans ?_
    refine (show z_J14 J_z 106 k_z = z_J13 J_z 106 k_z from (u_z _ _ _ _ _ (by decide)).trans ((u_z _ _ _ _ _ (by decide)).trans ((u_z _ _ _ _ _ (by decide)).trans (u_z _ _ _ _ _ (by decide))))).trans ?_
    refine (show z_J13 J_z 106 k_z = z_J12 J_z 106 k_z from (u_z _ _ _ _ _ (by decide)).trans ((u_z _ _ _ _ _ (by decide)).trans ((u_z _ _ _ _ _ (by decide)).trans (u_z _ _ _ _ _ (by decide))))).trans ?_
    refine (show z_J12 J_z 106 k_z = z_J11 J_z 106 k_z from (u_z _ _ _ _ _ (by decide)).trans ((u_z _ _ _ _ _ (by decide)).trans ((u_z _ _ _ _ _ (by decide)).trans (u_z _ _ _ _ _ (by decide))))).trans ?_
    refine (show z_J11 J_z 106 k_z = z_J10 J_z 106 k_z from (u_z _ _ _ _ _ (by decide)).trans ((u_z _ _ _ _ _ (by decide)).trans ((u_z _ _ _ _ _ (by decide)).trans (u_z _ _ _ _ _ (by decide))))).trans ?_
    refine (show z_J10 J_z 106 k_z = z_J9 J_z 106 k_z from (u_z _ _ _ _ _ (by decide)).trans ((u_z _ _ _ _ _ (by decide)).trans ((u_z _ _ _ _ _ (by decide)).trans (u_z _ _ _ _ _ (by decide))))).trans ?_
    refine (show z_J9 J_z 106 k_z = z_J8 J_z 106 k_z from (u_z _ _ _ _ _ (by decide)).trans ((u_z _ _ _ _ _ (by decide)).trans ((u_z _ _ _ _ _ (by decide)).trans (u_z _ _ _ _ _ (by decide))))).trans ?_
    rfl
  have lo_z : ∀ k_z, z_J6 J_z 106 k_z = 0 := fun k_z => by
    refine (show z_J6 J_z 106 k_z = z_J5 J_z 106 k_z from u_z _ _ _ _ _ (by decide)).trans ?_
    refine (show z_J5 J_z 106 k_z = z_J4 J_z 106 k_z from (u_z _ _ _ _ _ (by decide)).trans ((u_z _ _ _ _ _ (by decide)).trans ((u_z _ _ _ _ _ (by decide)).trans (u_z _ _ _ _ _ (by decide))))).trans ?_
    refine (show z_J4 J_z 106 k_z = z_J3 J_z 106 k_z from (u_z _ _ _ _ _ (by decide)).trans ((u_z _ _ _ _ _ (by decide)).trans ((u_z _ _ _ _ _ (by decide)).trans (u_z _ _ _ _ _ (by decide))))).trans ?_
    refine (show z_J3 J_z 106 k_z = z_J2 J_z 106 k_z from (u_z _ _ _ _ _ (by decide)).trans ((u_z _ _ _ _ _ (by decide)).trans ((u_z _ _ _ _ _ (by decide)).trans (u_z _ _ _ _ _ (by decide))))).trans ?_
    refine (show z_J2 J_z 106 k_z = z_J1 J_z 106 k_z from (u_z _ _ _ _ _ (by decide)).trans ((u_z _ _ _ _ _ (by decide)).trans ((u_z _ _ _ _ _ (by decide)).trans (u_z _ _ _ _ _ (by decide))))).trans ?_
    refine (show z_J1 J_z 106 k_z = J_z 106 k_z from (u_z _ _ _ _ _ (by decide)).trans ((u_z _ _ _ _ _ (by decide)).trans ((u_z _ _ _ _ _ (by decide)).trans (u_z _ _ _ _ _ (by decide))))).trans ?_
    exact hZ k_z
  have q0 : ∀ c_z, c_z < 6 → z_J6 J_z 106 (5 + c_z) = z_qr 0 c_z 6 := fun c_z hc_z => (lo_z _).trans (z_qr0 c_z hc_z)
  have q1_z := z_trn_rows (zI := z_J6 J_z) q0 (a_z := 0) (b_z := 2) (by decide) (by decide) (by decide)
  have q2_z := z_trn_rows (zI := z_J7 J_z) q1_z (a_z := 1) (b_z := 3) (by decide) (by decide) (by decide)
  refine ⟨fun c_z hc_z => ?_, fun k_z hk => ?_⟩
  · rw [up_z, z_R0_n.2]
    exact q2_z c_z hc_z
  · rw [up_z]
    refine (show z_J8 J_z 106 k_z = z_J6 J_z 106 k_z from ?_).trans (lo_z k_z)
    exact ((z_u2_ne (Or.inr (by omega))).trans (z_u2_ne (Or.inr (by omega)))).trans ((z_u2_ne (Or.inr (by omega))).trans (z_u2_ne (Or.inr (by omega))))
theorem z_RM0 {J_z : Nat → Nat → Int32} (hZ : ∀ o, 99 ≤ o → o < 112 → ∀ k_z, J_z o k_z = 0) : z_RM (z_J17 J_z) z_A0 := by
  obtain ⟨r1_z, r2⟩ := z_JE_106 (hZ 106 (by decide) (by decide))
  have z9 : ∀ k_z, k_z ≠ 10 → k_z ≠ 11 → k_z ≠ 12 → z_J17 J_z 99 k_z = 0 := fun k_z h1 h2 h3 => (z_JE_off J_z (by decide) (by decide) (by decide) (fun _ => ⟨h1, h2, h3⟩)).trans (hZ 99 (by decide) (by decide) k_z)
  have en : (z_AV z_A0).2 = (5, 7, 5) := z_R0_n.1
  unfold z_RM
  rw [en]
  refine ⟨z9 0 (by decide) (by decide) (by decide), fun k_z hk => absurd hk (Nat.not_lt_zero k_z), rfl, rfl, rfl, fun s_z hs k_z hk => (z_JE_104 J_z s_z hs k_z hk).trans (z_R0_1 s_z hs k_z hk).symm, fun s_z hs k_z hk => (z_JE_105 J_z s_z hs k_z hk).trans (z_R0_2 s_z hs k_z hk).symm, ⟨r2 0 (by decide), r2 1 (by decide), r2 2 (by decide), r2 3 (by decide), r2 4 (by decide), fun a_z ha_z => ?_, fun k_z hk => ?_⟩, z9 18 (by decide) (by decide) (by decide), fun j_z hj => absurd hj (Nat.not_lt_zero j_z), z9 20 (by decide) (by decide) (by decide), fun j_z hj => absurd hj (Nat.not_lt_zero j_z), z9 21 (by decide) (by decide) (by decide), fun j_z hj => absurd hj (Nat.not_lt_zero j_z)⟩
  · exact (congrArg (z_J17 J_z 106) (show 0 + 5 + a_z = 5 + a_z by omega)).trans (r1_z a_z ha_z)
  · exact (r2 (0 + 11 + k_z) (by omega)).trans (if_neg (by omega)).symm
set_option maxHeartbeats 4000000 in
theorem c_X10_init {g_z : z_U} {d_z : Nat} {zS : z_S} (h0 : z_is zS 99 (0, 10)) (h_z : z_nx zS = 96) (hz : ∀ k_z, z_I zS 99 k_z = 0) : z_C g_z (d_z + 1) 12 572 mX10_init [.ref 99] zS (fun r_z zS' => r_z = none ∧ z_LM zS' ∧ z_RM (z_I zS') z_A0 ∧ z_nx zS' = 108 ∧ (∀ o, o < 99 → z_kd zS' o = z_kd zS o) ∧ (∀ o k_z, o < 99 → z_I zS' o k_z = z_I zS o k_z) ∧ ∀ o k_z, o < 99 → z_R zS' o k_z = z_R zS o k_z) := by
  refine z_enter [some (.ref 99)] rfl rfl (Nat.le_of_ble_eq_true rfl) rfl (fun zX hM_z => ?_)
  have hB_z : z_B g_z zX RX10 cX10_init 1 := hM_z.1
  refine z_s 1 hB_z dX10_init_0 rfl rfl ?_
  refine z_objI 4 hB_z hM_z.2.1 kX10_1 o_inst o_code dX10_init_1 rfl (Nat.le_of_ble_eq_true rfl) ?_
  refine z_s 5 hB_z dX10_init_4 rfl rfl ?_
  refine z_s 8 hB_z dX10_init_5 rfl rfl ?_
  refine z_nrow 10 hB_z hM_z.2.1 a_int dX10_init_8 rfl (by decide) rfl (by decide) (Nat.le_of_ble_eq_true rfl) (Nat.le_of_ble_eq_true rfl) ?_
  refine z_putR 13 hB_z fX10_7 (h0.new) dX10_init_10 rfl rfl (Or.inr ⟨hM_z.2.2.2.2.2, rfl⟩) ?_
  refine z_to (z_M1 zS) rfl ?_
  have h1 : z_is (z_M1 zS) 99 (0, 10) := z_is_nm h0
  refine z_s 14 hB_z dX10_init_13 rfl rfl ?_
  refine z_s 16 hB_z dX10_init_14 rfl rfl ?_
  refine z_nrow 18 hB_z hM_z.2.1 a_int dX10_init_16 rfl (by decide) rfl (by decide) (Nat.le_of_ble_eq_true rfl) (Nat.le_of_ble_eq_true rfl) ?_
  refine z_putR 21 hB_z fX10_13 (h1.new) dX10_init_18 rfl rfl (Or.inr ⟨hM_z.2.2.2.2.2, rfl⟩) ?_
  refine z_to (z_M2 zS) rfl ?_
  have h2 : z_is (z_M2 zS) 99 (0, 10) := z_is_nm h1
  refine z_s 22 hB_z dX10_init_21 rfl rfl ?_
  refine z_s 24 hB_z dX10_init_22 rfl rfl ?_
  refine z_nrow 26 hB_z hM_z.2.1 a_int dX10_init_24 rfl (by decide) rfl (by decide) (Nat.le_of_ble_eq_true rfl) (Nat.le_of_ble_eq_true rfl) ?_
  refine z_putR 29 hB_z fX10_16 (h2.new) dX10_init_26 rfl rfl (Or.inr ⟨hM_z.2.2.2.2.2, rfl⟩) ?_
  refine z_to (z_M3 zS) rfl ?_
  have h3 : z_is (z_M3 zS) 99 (0, 10) := z_is_nm h2
  refine z_s 30 hB_z dX10_init_29 rfl rfl ?_
  refine z_s 32 hB_z dX10_init_30 rfl rfl ?_
  refine z_nrow 34 hB_z hM_z.2.1 a_int dX10_init_32 rfl (by decide) rfl (by decide) (Nat.le_of_ble_eq_true rfl) (Nat.le_of_ble_eq_true rfl) ?_
  refine z_putR 37 hB_z fX10_19 (h3.new) dX10_init_34 rfl rfl (Or.inr ⟨hM_z.2.2.2.2.2, rfl⟩) ?_
  refine z_to (z_M4 zS) rfl ?_
  have h4 : z_is (z_M4 zS) 99 (0, 10) := z_is_nm h3
  refine z_s 38 hB_z dX10_init_37 rfl rfl ?_
  refine z_s 40 hB_z dX10_init_38 rfl rfl ?_
  refine z_nrow 42 hB_z hM_z.2.1 a_int dX10_init_40 rfl (by decide) rfl (by decide) (Nat.le_of_ble_eq_true rfl) (Nat.le_of_ble_eq_true rfl) ?_
  refine z_putR 45 hB_z fX10_22 (h4.new) dX10_init_42 rfl rfl (Or.inr ⟨hM_z.2.2.2.2.2, rfl⟩) ?_
  refine z_to (z_M5 zS) rfl ?_
  have h5 : z_is (z_M5 zS) 99 (0, 10) := z_is_nm h4
  refine z_s 46 hB_z dX10_init_45 rfl rfl ?_
  refine z_s 48 hB_z dX10_init_46 rfl rfl ?_
  refine z_nrow 50 hB_z hM_z.2.1 a_int dX10_init_48 rfl (by decide) rfl (by decide) (Nat.le_of_ble_eq_true rfl) (Nat.le_of_ble_eq_true rfl) ?_
  refine z_putR 53 hB_z fX10_25 (h5.new) dX10_init_50 rfl rfl (Or.inr ⟨hM_z.2.2.2.2.2, rfl⟩) ?_
  refine z_to (z_M6 zS) rfl ?_
  have h6 : z_is (z_M6 zS) 99 (0, 10) := z_is_nm h5
  refine z_s 54 hB_z dX10_init_53 rfl rfl ?_
  refine z_s 56 hB_z dX10_init_54 rfl rfl ?_
  refine z_nrow 58 hB_z hM_z.2.1 a_int dX10_init_56 rfl (by decide) rfl (by decide) (Nat.le_of_ble_eq_true rfl) (Nat.le_of_ble_eq_true rfl) ?_
  refine z_putR 61 hB_z fX10_28 (h6.new) dX10_init_58 rfl rfl (Or.inr ⟨hM_z.2.2.2.2.2, rfl⟩) ?_
  refine z_to (z_M7 zS) rfl ?_
  have h7 : z_is (z_M7 zS) 99 (0, 10) := z_is_nm h6
  refine z_s 62 hB_z dX10_init_61 rfl rfl ?_
  refine z_s 64 hB_z dX10_init_62 rfl rfl ?_
  refine z_nrow 66 hB_z hM_z.2.1 a_int dX10_init_64 rfl (by decide) rfl (by decide) (Nat.le_of_ble_eq_true rfl) (Nat.le_of_ble_eq_true rfl) ?_
  refine z_putR 69 hB_z fX10_31 (h7.new) dX10_init_66 rfl rfl (Or.inr ⟨hM_z.2.2.2.2.2, rfl⟩) ?_
  refine z_to (z_M8 zS) rfl ?_
  have h8 : z_is (z_M8 zS) 99 (0, 10) := z_is_nm h7
  refine z_s 70 hB_z dX10_init_69 rfl rfl ?_
  refine z_s 73 hB_z dX10_init_70 rfl rfl ?_
  refine z_nrow 75 hB_z hM_z.2.1 a_int dX10_init_73 rfl (by decide) rfl (by decide) (Nat.le_of_ble_eq_true rfl) (Nat.le_of_ble_eq_true rfl) ?_
  refine z_putR 78 hB_z fX10_34 (h8.new) dX10_init_75 rfl rfl (Or.inr ⟨hM_z.2.2.2.2.2, rfl⟩) ?_
  refine z_to (z_M9 zS) rfl ?_
  have h9 : z_is (z_M9 zS) 99 (0, 10) := z_is_nm h8
  refine z_s 79 hB_z dX10_init_78 rfl rfl ?_
  refine z_s 81 hB_z dX10_init_79 rfl rfl ?_
  refine z_nrow 83 hB_z hM_z.2.1 a_int dX10_init_81 rfl (by decide) rfl (by decide) (Nat.le_of_ble_eq_true rfl) (Nat.le_of_ble_eq_true rfl) ?_
  refine z_putR 86 hB_z fX10_37 (h9.new) dX10_init_83 rfl rfl (Or.inr ⟨hM_z.2.2.2.2.2, rfl⟩) ?_
  refine z_to (z_M10 zS) rfl ?_
  have h10 : z_is (z_M10 zS) 99 (0, 10) := z_is_nm h9
  refine z_s 87 hB_z dX10_init_86 rfl rfl ?_
  refine z_s 89 hB_z dX10_init_87 rfl rfl ?_
  refine z_nrow 91 hB_z hM_z.2.1 a_int dX10_init_89 rfl (by decide) rfl (by decide) (Nat.le_of_ble_eq_true rfl) (Nat.le_of_ble_eq_true rfl) ?_
  refine z_putR 94 hB_z fX10_40 (h10.new) dX10_init_91 rfl rfl (Or.inr ⟨hM_z.2.2.2.2.2, rfl⟩) ?_
  refine z_to (z_M11 zS) rfl ?_
  have h11 : z_is (z_M11 zS) 99 (0, 10) := z_is_nm h10
  refine z_s 95 hB_z dX10_init_94 rfl rfl ?_
  refine z_s 97 hB_z dX10_init_95 rfl rfl ?_
  refine z_nrow 99 hB_z hM_z.2.1 a_int dX10_init_97 rfl (by decide) rfl (by decide) (Nat.le_of_ble_eq_true rfl) (Nat.le_of_ble_eq_true rfl) ?_
  refine z_putR 102 hB_z fX10_43 (h11.new) dX10_init_99 rfl rfl (Or.inr ⟨hM_z.2.2.2.2.2, rfl⟩) ?_
  refine z_to (z_M12 zS) rfl ?_
  have h12 : z_is (z_M12 zS) 99 (0, 10) := z_is_nm h11
  have hN_z := z_LM12 h0 h_z
  have hZ := z_M12_0 h_z hz
  obtain ⟨J_z, hJ⟩ : ∃ J_z, z_I (z_M12 zS) = J_z := ⟨_, rfl⟩
  rw [hJ] at hZ
  refine z_to (z_up (z_M12 zS) J_z) (by rw [← hJ]; rfl) ?_
  refine z_s 103 hB_z dX10_init_102 rfl rfl ?_
  refine z_s 104 hB_z dX10_init_103 rfl rfl ?_
  refine z_s 105 hB_z dX10_init_104 rfl rfl ?_
  refine z_s 106 hB_z dX10_init_105 rfl rfl ?_
  refine z_s 107 hB_z dX10_init_106 rfl rfl ?_
  refine z_s 108 hB_z dX10_init_107 rfl rfl ?_
  refine z_callV 111 hB_z hM_z.2.1 kX10_46 dX10_init_108 rfl (N99 (zS := (z_M12 zS)) hN_z) rfl (c_X10_addOne (zS := z_up (z_M12 zS) (J_z)) (d_z := 0) (s_z := 0) hN_z (by decide)) (by omega) rfl rfl (Nat.le_of_ble_eq_true rfl) ⟨Nat.le_of_ble_eq_true rfl, Nat.le_of_ble_eq_true rfl⟩ ?_
  rintro _ _ ⟨rfl, e9_z⟩
  subst e9_z
  refine z_to (z_up (z_M12 zS) (z_J1 J_z)) rfl ?_
  refine z_s 112 hB_z dX10_init_111 rfl rfl ?_
  refine z_s 113 hB_z dX10_init_112 rfl rfl ?_
  refine z_s 114 hB_z dX10_init_113 rfl rfl ?_
  refine z_s 115 hB_z dX10_init_114 rfl rfl ?_
  refine z_s 116 hB_z dX10_init_115 rfl rfl ?_
  refine z_s 117 hB_z dX10_init_116 rfl rfl ?_
  refine z_callV 120 hB_z hM_z.2.1 kX10_46 dX10_init_117 rfl (N99 (zS := (z_M12 zS)) hN_z) rfl (c_X10_addOne (zS := z_up (z_M12 zS) (z_J1 J_z)) (d_z := 0) (s_z := 1) hN_z (by decide)) (by omega) rfl rfl (Nat.le_of_ble_eq_true rfl) ⟨Nat.le_of_ble_eq_true rfl, Nat.le_of_ble_eq_true rfl⟩ ?_
  rintro _ _ ⟨rfl, e9_z⟩
  subst e9_z
  refine z_to (z_up (z_M12 zS) (z_J2 J_z)) rfl ?_
  refine z_s 121 hB_z dX10_init_120 rfl rfl ?_
  refine z_s 122 hB_z dX10_init_121 rfl rfl ?_
  refine z_s 123 hB_z dX10_init_122 rfl rfl ?_
  refine z_s 124 hB_z dX10_init_123 rfl rfl ?_
  refine z_s 125 hB_z dX10_init_124 rfl rfl ?_
  refine z_s 126 hB_z dX10_init_125 rfl rfl ?_
  refine z_callV 129 hB_z hM_z.2.1 kX10_46 dX10_init_126 rfl (N99 (zS := (z_M12 zS)) hN_z) rfl (c_X10_addOne (zS := z_up (z_M12 zS) (z_J2 J_z)) (d_z := 0) (s_z := 2) hN_z (by decide)) (by omega) rfl rfl (Nat.le_of_ble_eq_true rfl) ⟨Nat.le_of_ble_eq_true rfl, Nat.le_of_ble_eq_true rfl⟩ ?_
  rintro _ _ ⟨rfl, e9_z⟩
  subst e9_z
  refine z_to (z_up (z_M12 zS) (z_J3 J_z)) rfl ?_
  refine z_s 130 hB_z dX10_init_129 rfl rfl ?_
  refine z_s 131 hB_z dX10_init_130 rfl rfl ?_
  refine z_s 132 hB_z dX10_init_131 rfl rfl ?_
  refine z_s 133 hB_z dX10_init_132 rfl rfl ?_
  refine z_s 134 hB_z dX10_init_133 rfl rfl ?_
  refine z_s 135 hB_z dX10_init_134 rfl rfl ?_
  refine z_callV 138 hB_z hM_z.2.1 kX10_46 dX10_init_135 rfl (N99 (zS := (z_M12 zS)) hN_z) rfl (c_X10_addOne (zS := z_up (z_M12 zS) (z_J3 J_z)) (d_z := 0) (s_z := 3) hN_z (by decide)) (by omega) rfl rfl (Nat.le_of_ble_eq_true rfl) ⟨Nat.le_of_ble_eq_true rfl, Nat.le_of_ble_eq_true rfl⟩ ?_
  rintro _ _ ⟨rfl, e9_z⟩
  subst e9_z
  refine z_to (z_up (z_M12 zS) (z_J4 J_z)) rfl ?_
  refine z_s 139 hB_z dX10_init_138 rfl rfl ?_
  refine z_s 140 hB_z dX10_init_139 rfl rfl ?_
  refine z_s 141 hB_z dX10_init_140 rfl rfl ?_
  refine z_s 142 hB_z dX10_init_141 rfl rfl ?_
  refine z_s 143 hB_z dX10_init_142 rfl rfl ?_
  refine z_s 144 hB_z dX10_init_143 rfl rfl ?_
  refine z_callV 147 hB_z hM_z.2.1 kX10_46 dX10_init_144 rfl (N99 (zS := (z_M12 zS)) hN_z) rfl (c_X10_addOne (zS := z_up (z_M12 zS) (z_J4 J_z)) (d_z := 0) (s_z := 4) hN_z (by decide)) (by omega) rfl rfl (Nat.le_of_ble_eq_true rfl) ⟨Nat.le_of_ble_eq_true rfl, Nat.le_of_ble_eq_true rfl⟩ ?_
  rintro _ _ ⟨rfl, e9_z⟩
  subst e9_z
  refine z_to (z_up (z_M12 zS) (z_J5 J_z)) rfl ?_
  refine z_s 148 hB_z dX10_init_147 rfl rfl ?_
  refine z_s 149 hB_z dX10_init_148 rfl rfl ?_
  refine z_putI 152 hB_z fX10_50 (N99 hN_z) dX10_init_149 rfl rfl rfl ?_
  refine z_to (z_up (z_M12 zS) (z_J6 J_z)) rfl ?_
  refine z_s 153 hB_z dX10_init_152 rfl rfl ?_
  refine z_getR 156 hB_z fX10_28 (N99 (zS := (z_M12 zS)) hN_z) dX10_init_153 rfl rfl (n99_15 (zS := (z_M12 zS)) hN_z) ?_
  refine z_s 157 hB_z dX10_init_156 rfl rfl ?_
  refine z_s 158 hB_z dX10_init_157 rfl rfl ?_
  refine z_s 159 hB_z dX10_init_158 rfl rfl ?_
  refine z_callS 162 hB_z hM_z.2.1 kX10_54 dX10_init_159 rfl (c_X10_turn (zS := z_up (z_M12 zS) (z_J6 J_z)) (d_z := 0) (f_z := 5) (a_z := 0) (b_z := 2) (N106 hN_z) (by decide) (by decide) (by decide)) (by omega) rfl rfl (Nat.le_of_ble_eq_true rfl) ⟨Nat.le_of_ble_eq_true rfl, Nat.le_of_ble_eq_true rfl⟩ ?_
  rintro _ _ ⟨rfl, e9_z⟩
  subst e9_z
  refine z_to (z_up (z_M12 zS) (z_J7 J_z)) rfl ?_
  refine z_s 163 hB_z dX10_init_162 rfl rfl ?_
  refine z_getR 166 hB_z fX10_28 (N99 (zS := (z_M12 zS)) hN_z) dX10_init_163 rfl rfl (n99_15 (zS := (z_M12 zS)) hN_z) ?_
  refine z_s 167 hB_z dX10_init_166 rfl rfl ?_
  refine z_s 168 hB_z dX10_init_167 rfl rfl ?_
  refine z_s 169 hB_z dX10_init_168 rfl rfl ?_
  refine z_callS 172 hB_z hM_z.2.1 kX10_54 dX10_init_169 rfl (c_X10_turn (zS := z_up (z_M12 zS) (z_J7 J_z)) (d_z := 0) (f_z := 5) (a_z := 1) (b_z := 3) (N106 hN_z) (by decide) (by decide) (by decide)) (by omega) rfl rfl (Nat.le_of_ble_eq_true rfl) ⟨Nat.le_of_ble_eq_true rfl, Nat.le_of_ble_eq_true rfl⟩ ?_
  rintro _ _ ⟨rfl, e9_z⟩
  subst e9_z
  refine z_to (z_up (z_M12 zS) (z_J8 J_z)) rfl ?_
  refine z_s 173 hB_z dX10_init_172 rfl rfl ?_
  refine z_s 174 hB_z dX10_init_173 rfl rfl ?_
  refine z_s 175 hB_z dX10_init_174 rfl rfl ?_
  refine z_s 176 hB_z dX10_init_175 rfl rfl ?_
  refine z_s 177 hB_z dX10_init_176 rfl rfl ?_
  refine z_s 179 hB_z dX10_init_177 rfl rfl ?_
  refine z_callV 182 hB_z hM_z.2.1 kX10_58 dX10_init_179 rfl (N99 (zS := (z_M12 zS)) hN_z) rfl (c_X10_addGuest (zS := z_up (z_M12 zS) (z_J8 J_z)) (d_z := 0) (s_z := 0) hN_z (by decide)) (by omega) rfl rfl (Nat.le_of_ble_eq_true rfl) ⟨Nat.le_of_ble_eq_true rfl, Nat.le_of_ble_eq_true rfl⟩ ?_
  rintro _ _ ⟨rfl, e9_z⟩
  subst e9_z
  refine z_to (z_up (z_M12 zS) (z_J9 J_z)) rfl ?_
  refine z_s 183 hB_z dX10_init_182 rfl rfl ?_
  refine z_s 184 hB_z dX10_init_183 rfl rfl ?_
  refine z_s 185 hB_z dX10_init_184 rfl rfl ?_
  refine z_s 186 hB_z dX10_init_185 rfl rfl ?_
  refine z_s 187 hB_z dX10_init_186 rfl rfl ?_
  refine z_s 188 hB_z dX10_init_187 rfl rfl ?_
  refine z_callV 191 hB_z hM_z.2.1 kX10_58 dX10_init_188 rfl (N99 (zS := (z_M12 zS)) hN_z) rfl (c_X10_addGuest (zS := z_up (z_M12 zS) (z_J9 J_z)) (d_z := 0) (s_z := 1) hN_z (by decide)) (by omega) rfl rfl (Nat.le_of_ble_eq_true rfl) ⟨Nat.le_of_ble_eq_true rfl, Nat.le_of_ble_eq_true rfl⟩ ?_
  rintro _ _ ⟨rfl, e9_z⟩
  subst e9_z
  refine z_to (z_up (z_M12 zS) (z_J10 J_z)) rfl ?_
  refine z_s 192 hB_z dX10_init_191 rfl rfl ?_
  refine z_s 193 hB_z dX10_init_192 rfl rfl ?_
  refine z_s 194 hB_z dX10_init_193 rfl rfl ?_
  refine z_s 195 hB_z dX10_init_194 rfl rfl ?_
  refine z_s 196 hB_z dX10_init_195 rfl rfl ?_
  refine z_s 198 hB_z dX10_init_196 rfl rfl ?_
  refine z_callV 201 hB_z hM_z.2.1 kX10_58 dX10_init_198 rfl (N99 (zS := (z_M12 zS)) hN_z) rfl (c_X10_addGuest (zS := z_up (z_M12 zS) (z_J10 J_z)) (d_z := 0) (s_z := 2) hN_z (by decide)) (by omega) rfl rfl (Nat.le_of_ble_eq_true rfl) ⟨Nat.le_of_ble_eq_true rfl, Nat.le_of_ble_eq_true rfl⟩ ?_
  rintro _ _ ⟨rfl, e9_z⟩
  subst e9_z
  refine z_to (z_up (z_M12 zS) (z_J11 J_z)) rfl ?_
  refine z_s 202 hB_z dX10_init_201 rfl rfl ?_
  refine z_s 203 hB_z dX10_init_202 rfl rfl ?_
  refine z_s 204 hB_z dX10_init_203 rfl rfl ?_
  refine z_s 205 hB_z dX10_init_204 rfl rfl ?_
  refine z_s 206 hB_z dX10_init_205 rfl rfl ?_
  refine z_s 208 hB_z dX10_init_206 rfl rfl ?_
  refine z_callV 211 hB_z hM_z.2.1 kX10_58 dX10_init_208 rfl (N99 (zS := (z_M12 zS)) hN_z) rfl (c_X10_addGuest (zS := z_up (z_M12 zS) (z_J11 J_z)) (d_z := 0) (s_z := 3) hN_z (by decide)) (by omega) rfl rfl (Nat.le_of_ble_eq_true rfl) ⟨Nat.le_of_ble_eq_true rfl, Nat.le_of_ble_eq_true rfl⟩ ?_
  rintro _ _ ⟨rfl, e9_z⟩
  subst e9_z
  refine z_to (z_up (z_M12 zS) (z_J12 J_z)) rfl ?_
  refine z_s 212 hB_z dX10_init_211 rfl rfl ?_
  refine z_s 213 hB_z dX10_init_212 rfl rfl ?_
  refine z_s 214 hB_z dX10_init_213 rfl rfl ?_
  refine z_s 215 hB_z dX10_init_214 rfl rfl ?_
  refine z_s 216 hB_z dX10_init_215 rfl rfl ?_
  refine z_s 218 hB_z dX10_init_216 rfl rfl ?_
  refine z_callV 221 hB_z hM_z.2.1 kX10_58 dX10_init_218 rfl (N99 (zS := (z_M12 zS)) hN_z) rfl (c_X10_addGuest (zS := z_up (z_M12 zS) (z_J12 J_z)) (d_z := 0) (s_z := 4) hN_z (by decide)) (by omega) rfl rfl (Nat.le_of_ble_eq_true rfl) ⟨Nat.le_of_ble_eq_true rfl, Nat.le_of_ble_eq_true rfl⟩ ?_
  rintro _ _ ⟨rfl, e9_z⟩
  subst e9_z
  refine z_to (z_up (z_M12 zS) (z_J13 J_z)) rfl ?_
  refine z_s 222 hB_z dX10_init_221 rfl rfl ?_
  refine z_s 223 hB_z dX10_init_222 rfl rfl ?_
  refine z_s 224 hB_z dX10_init_223 rfl rfl ?_
  refine z_s 225 hB_z dX10_init_224 rfl rfl ?_
  refine z_s 226 hB_z dX10_init_225 rfl rfl ?_
  refine z_s 228 hB_z dX10_init_226 rfl rfl ?_
  refine z_callV 231 hB_z hM_z.2.1 kX10_58 dX10_init_228 rfl (N99 (zS := (z_M12 zS)) hN_z) rfl (c_X10_addGuest (zS := z_up (z_M12 zS) (z_J13 J_z)) (d_z := 0) (s_z := 5) hN_z (by decide)) (by omega) rfl rfl (Nat.le_of_ble_eq_true rfl) ⟨Nat.le_of_ble_eq_true rfl, Nat.le_of_ble_eq_true rfl⟩ ?_
  rintro _ _ ⟨rfl, e9_z⟩
  subst e9_z
  refine z_to (z_up (z_M12 zS) (z_J14 J_z)) rfl ?_
  refine z_s 232 hB_z dX10_init_231 rfl rfl ?_
  refine z_s 234 hB_z dX10_init_232 rfl rfl ?_
  refine z_s 235 hB_z dX10_init_234 rfl rfl ?_
  refine z_s 236 hB_z dX10_init_235 rfl rfl ?_
  refine z_s 237 hB_z dX10_init_236 rfl rfl ?_
  refine z_s 239 hB_z dX10_init_237 rfl rfl ?_
  refine z_callV 242 hB_z hM_z.2.1 kX10_58 dX10_init_239 rfl (N99 (zS := (z_M12 zS)) hN_z) rfl (c_X10_addGuest (zS := z_up (z_M12 zS) (z_J14 J_z)) (d_z := 0) (s_z := 6) hN_z (by decide)) (by omega) rfl rfl (Nat.le_of_ble_eq_true rfl) ⟨Nat.le_of_ble_eq_true rfl, Nat.le_of_ble_eq_true rfl⟩ ?_
  rintro _ _ ⟨rfl, e9_z⟩
  subst e9_z
  refine z_to (z_up (z_M12 zS) (z_J15 J_z)) rfl ?_
  refine z_s 243 hB_z dX10_init_242 rfl rfl ?_
  refine z_s 245 hB_z dX10_init_243 rfl rfl ?_
  refine z_putI 248 hB_z fX10_61 (N99 hN_z) dX10_init_245 rfl rfl rfl ?_
  refine z_to (z_up (z_M12 zS) (z_J16 J_z)) rfl ?_
  refine z_s 249 hB_z dX10_init_248 rfl rfl ?_
  refine z_s 250 hB_z dX10_init_249 rfl rfl ?_
  refine z_putI 253 hB_z fX10_64 (N99 hN_z) dX10_init_250 rfl rfl rfl ?_
  refine z_to (z_up (z_M12 zS) (z_J17 J_z)) rfl ?_
  refine z_vret hM_z dX10_init_253 rfl ?_ rfl rfl
  exact ⟨rfl, hN_z, z_RM0 hZ, z_M12_nx h_z, fun o ho => z_M12_kd h_z ho, fun o k_z ho => (z_JE_off J_z (by omega) (by omega) (by omega) (fun z_z => by omega)).trans (by rw [← hJ]; exact z_M12_I h_z ho), fun o k_z ho => z_M12_R h_z ho⟩

