/-! the model: lull, supper -/
theorem z_rW.pw {zI : Nat → Nat → Int32} {o k_z : Nat} {zT : Nat → Int32} {v_z : Int32} (h_z : z_rW zI o 0 zT) (hk : k_z < 6) : z_rW (z_u2 zI o (11 + k_z) v_z) o 0 (z_putT zT (6 + k_z) v_z) := by
  have n_z : ∀ m_z, m_z ≠ 6 + k_z → z_putT zT (6 + k_z) v_z m_z = zT m_z := fun m_z hm_z => if_neg hm_z
  refine ⟨?_, ?_, ?_, ?_, ?_, fun a_z ha_z => ?_, fun c_z hc_z => ?_⟩
  · rw [z_u2_ne (Or.inr (by omega)), n_z 0 (by omega)]; exact h_z.a0
  · rw [z_u2_ne (Or.inr (by omega)), n_z 1 (by omega)]; exact h_z.a1
  · rw [z_u2_ne (Or.inr (by omega)), n_z 2 (by omega)]; exact h_z.a2
  · rw [z_u2_ne (Or.inr (by omega)), n_z 3 (by omega)]; exact h_z.a3
  · rw [z_u2_ne (Or.inr (by omega)), n_z 5 (by omega)]; exact h_z.a4
  · rw [z_u2_ne (Or.inr (by omega)), n_z 4 (by omega)]; exact h_z.aq a_z ha_z
  · by_cases e_z : c_z = k_z
    · rw [e_z, show 0 + 11 + k_z = 11 + k_z by omega, z_u2_same]; exact (if_pos rfl).symm
    · rw [z_u2_ne (Or.inr (by omega)), n_z (6 + c_z) (by omega)]; exact h_z.aw c_z hc_z
theorem z_rW.p4 {zI : Nat → Nat → Int32} {o : Nat} {zT : Nat → Int32} {v_z : Int32} (h_z : z_rW zI o 0 zT) : z_rW (z_u2 zI o 4 v_z) o 0 (z_putT zT 5 v_z) := by
  have n_z : ∀ m_z, m_z ≠ 5 → z_putT zT 5 v_z m_z = zT m_z := fun m_z hm_z => if_neg hm_z
  refine ⟨?_, ?_, ?_, ?_, ?_, fun a_z ha_z => ?_, fun c_z hc_z => ?_⟩
  · rw [z_u2_ne (Or.inr (by omega)), n_z 0 (by omega)]; exact h_z.a0
  · rw [z_u2_ne (Or.inr (by omega)), n_z 1 (by omega)]; exact h_z.a1
  · rw [z_u2_ne (Or.inr (by omega)), n_z 2 (by omega)]; exact h_z.a2
  · rw [z_u2_ne (Or.inr (by omega)), n_z 3 (by omega)]; exact h_z.a3
  · exact (z_u2_same _ _ _ _).trans (if_pos rfl).symm
  · rw [z_u2_ne (Or.inr (by omega)), n_z 4 (by omega)]; exact h_z.aq a_z ha_z
  · rw [z_u2_ne (Or.inr (by omega)), n_z (6 + c_z) (by omega)]; exact h_z.aw c_z hc_z
theorem z_n11 (j_z : Nat) : (11 : Int32) + nI j_z = nI (11 + j_z) := nI_add 11 j_z
set_option maxHeartbeats 2000000 in
theorem c_X10_lull {g_z : z_U} {d_z : Nat} {zS : z_S} {A_z : z_Ab} (hN_z : z_LM zS) (hR : z_RM (z_I zS) A_z) (hn6 : (z_AV A_z).2.1 ≤ 6) (hu8 : (z_AU A_z).2 ≤ 8) {s_z : Int32} : z_C g_z (d_z + 2) 0 0 mX10_lull [.ref 99, .int s_z] zS (z_MC zS (z_lull A_z s_z)) := by
  refine z_enter [some (.ref 99), some (.int s_z), none] rfl rfl (Nat.le_of_ble_eq_true rfl) rfl (fun zX hM_z => ?_)
  have hB_z : z_B g_z zX RX10 cX10_lull 3 := hM_z.1
  refine z_s 1 hB_z dX10_lull_0 rfl rfl ?_
  refine z_s 2 hB_z dX10_lull_1 rfl rfl ?_
  refine z_callV 5 hB_z hM_z.2.1 kX10_71 dX10_lull_2 rfl (N99 (zS := zS) hN_z) rfl (c_X10_isOne (d_z := 0) hN_z hR.sn (by omega)) (by omega) rfl rfl (Nat.le_of_ble_eq_true rfl) ⟨Nat.le_refl _, Nat.le_refl _⟩ ?_
  rintro _ _ ⟨rfl, w_z, rfl, hw⟩
  refine z_b 8 10 hB_z dX10_lull_5 rfl rfl (by decide) (fun c_5 => ?_) (fun c_5 => ?_)
  ·
    have hs : z_in s_z (z_AV A_z).2.1 := hw.elim (fun z_z => absurd z_z.1 c_5) (fun z_z => z_z.2)
    obtain ⟨j_z, hj, rfl⟩ := hs.of (by omega)
    refine z_s 11 hB_z dX10_lull_10 rfl rfl ?_
    refine z_getR 14 hB_z fX10_28 (N99 (zS := zS) hN_z) dX10_lull_11 rfl rfl (n99_15 (zS := zS) hN_z) ?_
    refine z_s 16 hB_z dX10_lull_14 rfl rfl ?_
    refine z_s 17 hB_z dX10_lull_16 rfl rfl ?_
    refine z_s 18 hB_z dX10_lull_17 rfl rfl ?_
    rw [z_n11]
    refine z_ald 19 hB_z (N106 (zS := zS) hN_z) dX10_lull_18 rfl (vp_in_nI (show 11 + j_z < 17 by omega) (by decide)) ?_
    rw [nI_clamp (by omega), show z_I zS 106 (11 + j_z) = z_AT A_z (6 + j_z) from (congrArg (z_I zS 106) (show 11 + j_z = 0 + 11 + j_z by omega)).trans (hR.nw.aw j_z (by omega))]
    refine z_b 22 25 hB_z dX10_lull_19 rfl rfl (by decide) (fun c_19 => ?_) (fun c_19 => ?_)
    ·
      refine z_s 26 hB_z dX10_lull_25 rfl rfl ?_
      refine z_callV 29 hB_z hM_z.2.1 kX10_183 dX10_lull_26 rfl (N99 (zS := zS) hN_z) rfl (c_X10_note (d_z := 0) hN_z hR hu8) (by omega) rfl rfl (Nat.le_of_ble_eq_true rfl) ⟨Nat.le_refl _, Nat.le_refl _⟩ ?_
      rintro _ _ ⟨rfl, I1, rfl, hR1, hf1⟩
      refine z_s 30 hB_z dX10_lull_29 rfl rfl ?_
      refine z_getR 33 hB_z fX10_28 (N99 (zS := zS) hN_z) dX10_lull_30 rfl rfl (n99_15 (zS := zS) hN_z) ?_
      refine z_s 35 hB_z dX10_lull_33 rfl rfl ?_
      refine z_s 36 hB_z dX10_lull_35 rfl rfl ?_
      refine z_s 37 hB_z dX10_lull_36 rfl rfl ?_
      rw [z_n11]
      refine z_ald 38 hB_z (N106 (zS := zS) hN_z) dX10_lull_37 rfl (vp_in_nI (show 11 + j_z < 17 by omega) (by decide)) ?_
      rw [nI_clamp (by omega), show z_I (z_up zS I1) 106 (11 + j_z) = z_AT A_z (6 + j_z) from (congrArg (I1 106) (show 11 + j_z = 0 + 11 + j_z by omega)).trans (hR1.nw.aw j_z (by omega))]
      refine z_s 39 hB_z dX10_lull_38 rfl rfl ?_
      refine z_s 40 hB_z dX10_lull_39 rfl rfl ?_
      refine z_getR 43 hB_z fX10_28 (N99 (zS := zS) hN_z) dX10_lull_40 rfl rfl (n99_15 (zS := zS) hN_z) ?_
      refine z_s 45 hB_z dX10_lull_43 rfl rfl ?_
      refine z_s 46 hB_z dX10_lull_45 rfl rfl ?_
      refine z_s 47 hB_z dX10_lull_46 rfl rfl ?_
      refine z_s 48 hB_z dX10_lull_47 rfl rfl ?_
      rw [z_n11]
      refine z_ast 49 hB_z (N106 (zS := zS) hN_z) dX10_lull_48 rfl (vp_in_nI (show 11 + j_z < 17 by omega) (by decide)) ?_
      rw [nI_clamp (by omega)]
      refine z_s 50 hB_z dX10_lull_49 rfl rfl ?_
      refine z_iret hM_z dX10_lull_50 rfl ?_ rfl rfl
      have e_z : z_lull A_z (nI j_z) = (z_setT (z_setU A_z (z_push (z_AU A_z) (z_AT A_z) 8)) (z_putT (z_AT A_z) (6 + j_z) 0), z_AT A_z (6 + j_z)) := by
        unfold z_lull
        rw [nI_clamp (by omega)]
        exact (if_pos hs).trans (if_neg c_19)
      rw [e_z]
      exact ⟨rfl, z_u2 I1 106 (11 + j_z) 0, rfl, hR1.ofT (z_f2.rf.u2 rfl) (hR1.nw.pw (by omega)), (hf1.mono (fun q_z k_z h_z => by omega)).u2 (by decide)⟩
    ·
      refine z_s 24 hB_z dX10_lull_22 rfl rfl ?_
      refine z_iret hM_z dX10_lull_24 rfl ?_ rfl rfl
      exact z_MC.of hR ((if_pos hs).trans (if_pos (by rw [nI_clamp (by omega)]; exact c_19)))
  ·
    have hs : ¬ z_in s_z (z_AV A_z).2.1 := hw.elim (fun z_z => z_z.2) (fun z_z => absurd (z_z.1.symm.trans c_5) (by decide))
    refine z_s 9 hB_z dX10_lull_8 rfl rfl ?_
    refine z_iret hM_z dX10_lull_9 rfl ?_ rfl rfl
    exact z_MC.of hR (if_neg hs)

theorem z_bt_bc : ∀ w_z, w_z < 64 → z_bt (nI w_z) 15 = z_bc (nI w_z) := by decide +kernel
theorem z_or64 : ∀ w_z, w_z < 64 → ∀ j_z, j_z < 6 → ∃ x_z, x_z < 64 ∧ nI w_z ||| (1 <<< (nI j_z &&& 31)) = nI x_z := by decide +kernel
set_option maxHeartbeats 2000000 in
theorem c_X10_supper {g_z : z_U} {d_z : Nat} {zS : z_S} {A_z : z_Ab} (hN_z : z_LM zS) (hR : z_RM (z_I zS) A_z) (hn6 : (z_AV A_z).2.1 ≤ 6) (hu8 : (z_AU A_z).2 ≤ 8) (hw5 : ∃ w_z, w_z < 64 ∧ z_AT A_z 5 = nI w_z) {s_z : Int32} : z_C g_z (d_z + 2) 0 0 mX10_supper [.ref 99, .int s_z] zS (z_MC zS (z_supper A_z s_z)) := by
  refine z_enter [some (.ref 99), some (.int s_z)] rfl rfl (Nat.le_of_ble_eq_true rfl) rfl (fun zX hM_z => ?_)
  have hB_z : z_B g_z zX RX10 cX10_supper 2 := hM_z.1
  refine z_s 1 hB_z dX10_supper_0 rfl rfl ?_
  refine z_s 2 hB_z dX10_supper_1 rfl rfl ?_
  refine z_callV 5 hB_z hM_z.2.1 kX10_71 dX10_supper_2 rfl (N99 (zS := zS) hN_z) rfl (c_X10_isOne (d_z := 0) hN_z hR.sn (by omega)) (by omega) rfl rfl (Nat.le_of_ble_eq_true rfl) ⟨Nat.le_refl _, Nat.le_refl _⟩ ?_
  rintro _ _ ⟨rfl, w_z, rfl, hw⟩
  refine z_b 8 10 hB_z dX10_supper_5 rfl rfl (by decide) (fun c_5 => ?_) (fun c_5 => ?_)
  ·
    have hs : z_in s_z (z_AV A_z).2.1 := hw.elim (fun z_z => absurd z_z.1 c_5) (fun z_z => z_z.2)
    obtain ⟨j_z, hj, rfl⟩ := hs.of (by omega)
    refine z_s 11 hB_z dX10_supper_10 rfl rfl ?_
    refine z_getR 14 hB_z fX10_28 (N99 (zS := zS) hN_z) dX10_supper_11 rfl rfl (n99_15 (zS := zS) hN_z) ?_
    refine z_s 15 hB_z dX10_supper_14 rfl rfl ?_
    refine z_ald 16 hB_z (N106 (zS := zS) hN_z) dX10_supper_15 rfl (vp_in_nI (show 4 < 17 by decide) (by decide)) ?_
    rw [show z_I zS 106 (4 : Int32).toNatClampNeg = z_AT A_z 5 from hR.nw.a4]
    refine z_s 17 hB_z dX10_supper_16 rfl rfl ?_
    refine z_callS 20 hB_z hM_z.2.1 kX10_107 dX10_supper_17 rfl (c_X10_has (d_z := 0)) (by omega) rfl rfl (Nat.le_of_ble_eq_true rfl) ⟨Nat.le_refl _, Nat.le_refl _⟩ ?_
    rintro _ _ ⟨rfl, rfl⟩
    refine z_b 23 26 hB_z dX10_supper_20 rfl rfl (by decide) (fun c_20 => ?_) (fun c_20 => ?_)
    ·
      have hno : z_hb (z_AT A_z 5) j_z = false := decide_eq_false (z_of0 c_20)
      refine z_s 27 hB_z dX10_supper_26 rfl rfl ?_
      refine z_callV 30 hB_z hM_z.2.1 kX10_183 dX10_supper_27 rfl (N99 (zS := zS) hN_z) rfl (c_X10_note (d_z := 0) hN_z hR hu8) (by omega) rfl rfl (Nat.le_of_ble_eq_true rfl) ⟨Nat.le_refl _, Nat.le_refl _⟩ ?_
      rintro _ _ ⟨rfl, I1, rfl, hR1, hf1⟩
      refine z_s 31 hB_z dX10_supper_30 rfl rfl ?_
      refine z_getR 34 hB_z fX10_28 (N99 (zS := zS) hN_z) dX10_supper_31 rfl rfl (n99_15 (zS := zS) hN_z) ?_
      refine z_s 35 hB_z dX10_supper_34 rfl rfl ?_
      refine z_s 36 hB_z dX10_supper_35 rfl rfl ?_
      refine z_getR 39 hB_z fX10_28 (N99 (zS := zS) hN_z) dX10_supper_36 rfl rfl (n99_15 (zS := zS) hN_z) ?_
      refine z_s 40 hB_z dX10_supper_39 rfl rfl ?_
      refine z_ald 41 hB_z (N106 (zS := zS) hN_z) dX10_supper_40 rfl (vp_in_nI (show 4 < 17 by decide) (by decide)) ?_
      rw [show z_I (z_up zS I1) 106 (4 : Int32).toNatClampNeg = z_AT A_z 5 from hR1.nw.a4]
      refine z_s 42 hB_z dX10_supper_41 rfl rfl ?_
      refine z_s 43 hB_z dX10_supper_42 rfl rfl ?_
      refine z_s 44 hB_z dX10_supper_43 rfl rfl ?_
      refine z_s 45 hB_z dX10_supper_44 rfl rfl ?_
      refine z_ast 46 hB_z (N106 (zS := zS) hN_z) dX10_supper_45 rfl (vp_in_nI (show 4 < 17 by decide) (by decide)) ?_
      refine z_s 47 hB_z dX10_supper_46 rfl rfl ?_
      refine z_getR 50 hB_z fX10_28 (N99 (zS := zS) hN_z) dX10_supper_47 rfl rfl (n99_15 (zS := zS) hN_z) ?_
      refine z_s 51 hB_z dX10_supper_50 rfl rfl ?_
      refine z_ald 52 hB_z (N106 (zS := zS) hN_z) dX10_supper_51 rfl (vp_in_nI (show 4 < 17 by decide) (by decide)) ?_
      rw [show z_I (z_pI (z_up zS I1) 106 (4 : Int32).toNatClampNeg (z_AT A_z 5 ||| (1 <<< (nI j_z &&& 31)))) 106 (4 : Int32).toNatClampNeg = z_AT A_z 5 ||| (1 <<< (nI j_z &&& 31)) from z_Ieq]
      refine z_callS 55 hB_z hM_z.2.1 kX10_75 dX10_supper_52 rfl (c_X10_bits (d_z := 0)) (by omega) rfl rfl (Nat.le_of_ble_eq_true rfl) ⟨Nat.le_refl _, Nat.le_refl _⟩ ?_
      rintro _ _ ⟨rfl, rfl⟩
      refine z_iret hM_z dX10_supper_55 rfl ?_ rfl rfl
      have e_z : z_supper A_z (nI j_z) = (z_setT (z_setU A_z (z_push (z_AU A_z) (z_AT A_z) 8)) (z_putT (z_AT A_z) 5 (z_AT A_z 5 ||| (1 <<< (nI j_z &&& 31)))), z_bc (z_AT A_z 5 ||| (1 <<< (nI j_z &&& 31)))) := by
        unfold z_supper
        rw [nI_clamp (by omega)]
        exact (if_pos hs).trans (if_neg (by rw [hno]; decide))
      rw [e_z]
      obtain ⟨u_z, hu, eu⟩ := hw5
      obtain ⟨x_z, hx, ex_z⟩ := z_or64 u_z hu j_z (by omega)
      refine ⟨congrArg (fun q_z => some (Value.int q_z)) (by rw [eu, ex_z]; exact z_bt_bc x_z hx), z_u2 I1 106 4 (z_AT A_z 5 ||| (1 <<< (nI j_z &&& 31))), rfl, hR1.ofT (z_f2.rf.u2 rfl) hR1.nw.p4, (hf1.mono (fun q_z k_z h_z => by omega)).u2 (by decide)⟩
    ·
      have hyes : z_hb (z_AT A_z 5) j_z = true := decide_eq_true (z_of1 c_20)
      refine z_s 25 hB_z dX10_supper_23 rfl rfl ?_
      refine z_iret hM_z dX10_supper_25 rfl ?_ rfl rfl
      exact z_MC.of hR ((if_pos hs).trans (if_pos (by rw [nI_clamp (by omega)]; exact hyes)))
  ·
    have hs : ¬ z_in s_z (z_AV A_z).2.1 := hw.elim (fun z_z => z_z.2) (fun z_z => absurd (z_z.1.symm.trans c_5) (by decide))
    refine z_s 9 hB_z dX10_supper_8 rfl rfl ?_
    refine z_iret hM_z dX10_supper_9 rfl ?_ rfl rfl
    exact z_MC.of hR (if_neg hs)

