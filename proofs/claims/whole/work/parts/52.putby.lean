/-! the model: states put by and fetched -/
theorem z_n17 : ∀ u_z, u_z ≤ 8 → (17 : Int32) * nI u_z = nI (17 * u_z) := by decide +kernel
theorem z_rW.cpy {zI : Nat → Nat → Int32} {A_z f_z B_z j_z : Nat} {zT : Nat → Int32} (h_z : z_rW zI A_z f_z zT) : z_rW (z_cpy zI A_z f_z B_z j_z 17) B_z j_z zT := by
  have e_z : ∀ c_z, c_z < 17 → z_cpy zI A_z f_z B_z j_z 17 B_z (j_z + c_z) = zI A_z (f_z + c_z) := fun c_z hc_z => (z_cpy_in (by omega)).trans (by rw [show j_z + c_z - j_z = c_z by omega])
  refine ⟨(e_z 0 (by omega)).trans h_z.a0, (e_z 1 (by omega)).trans h_z.a1, (e_z 2 (by omega)).trans h_z.a2, (e_z 3 (by omega)).trans h_z.a3, (e_z 4 (by omega)).trans h_z.a4, fun a_z ha_z => ?_, fun k_z hk => ?_⟩
  · rw [Nat.add_assoc]
    exact (e_z (5 + a_z) (by omega)).trans ((congrArg (zI A_z) (Nat.add_assoc f_z 5 a_z).symm).trans (h_z.aq a_z ha_z))
  · rw [Nat.add_assoc]
    exact (e_z (11 + k_z) (by omega)).trans ((congrArg (zI A_z) (Nat.add_assoc f_z 11 k_z).symm).trans (h_z.aw k_z hk))
theorem z_f2.cpy {P_z : Nat → Nat → Prop} {zI zI' : Nat → Nat → Int32} {A_z i_z B_z j_z n_z : Nat} (h_z : z_f2 P_z zI zI') (ho : ∀ k_z, P_z B_z k_z) : z_f2 P_z zI (z_cpy zI' A_z i_z B_z j_z n_z) := fun q_z k_z hq => (z_cpy_out (fun e_z => hq (by rw [e_z.1]; exact ho k_z))).trans (h_z q_z k_z hq)
theorem z_Icp {zS : z_S} {zI : Nat → Nat → Int32} {A_z i_z B_z j_z n_z o k_z : Nat} (h_z : o ≠ B_z) : z_I (z_up zS (z_cpy zI A_z i_z B_z j_z n_z)) o k_z = zI o k_z := z_cpy_out (fun e_z => h_z e_z.1)
set_option maxHeartbeats 1000000 in
theorem c_X10_keep {g_z : z_U} {d_z : Nat} {zS : z_S} {A_z : z_Ab} (hN_z : z_LM zS) (hR : z_RM (z_I zS) A_z) (hk2 : (z_AK A_z).2 ≤ 2) : z_C g_z (d_z + 1) 0 0 mX10_keep [.ref 99] zS (z_MC zS (z_keep A_z)) := by
  refine z_enter [some (.ref 99)] rfl rfl (Nat.le_of_ble_eq_true rfl) rfl (fun zX hM_z => ?_)
  have hB_z : z_B g_z zX RX10 cX10_keep 1 := hM_z.1
  refine z_s 1 hB_z dX10_keep_0 rfl rfl ?_
  refine z_getI 4 hB_z fX10_136 (N99 (zS := zS) hN_z) dX10_keep_1 rfl rfl ?_
  rw [hR.kl]
  refine z_s 5 hB_z dX10_keep_4 rfl rfl ?_
  refine z_b 8 11 hB_z dX10_keep_5 rfl rfl (by decide) (fun c_5 => ?_) (fun c_5 => ?_)
  ·
    have hlt : (z_AK A_z).2 < 2 := by
      rcases Nat.lt_or_ge (z_AK A_z).2 2 with z_z | z_z
      · exact z_z
      · exact absurd (show nI (z_AK A_z).2 = 2 by rw [show (z_AK A_z).2 = 2 by omega]; rfl) c_5
    refine z_s 12 hB_z dX10_keep_11 rfl rfl ?_
    refine z_getR 15 hB_z fX10_28 (N99 (zS := zS) hN_z) dX10_keep_12 rfl rfl (n99_15 (zS := zS) hN_z) ?_
    refine z_s 16 hB_z dX10_keep_15 rfl rfl ?_
    refine z_s 17 hB_z dX10_keep_16 rfl rfl ?_
    refine z_getR 20 hB_z fX10_37 (N99 (zS := zS) hN_z) dX10_keep_17 rfl rfl (n99_19 (zS := zS) hN_z) ?_
    refine z_s 22 hB_z dX10_keep_20 rfl rfl ?_
    refine z_s 23 hB_z dX10_keep_22 rfl rfl ?_
    refine z_getI 26 hB_z fX10_136 (N99 (zS := zS) hN_z) dX10_keep_23 rfl rfl ?_
    rw [hR.kl]
    refine z_s 27 hB_z dX10_keep_26 rfl rfl ?_
    refine z_s 29 hB_z dX10_keep_27 rfl rfl ?_
    rw [z_n17 _ (by omega)]
    refine z_callS 32 hB_z hM_z.2.1 kX10_126 dX10_keep_29 rfl (c_X10_bring (d_z := 0) (i_z := 0) (n_z := 17) (N106 hN_z) (N109 hN_z) (Or.inl (by decide)) (by decide) (by omega) (by decide) (by decide)) (by omega) rfl rfl (Nat.le_of_ble_eq_true rfl) ⟨Nat.le_refl _, Nat.le_refl _⟩ ?_
    rintro _ _ ⟨rfl, rfl⟩
    refine z_s 33 hB_z dX10_keep_32 rfl rfl ?_
    refine z_s 34 hB_z dX10_keep_33 rfl rfl ?_
    refine z_getI 37 hB_z fX10_136 (N99 (zS := zS) hN_z) dX10_keep_34 rfl rfl ?_
    rw [show z_I (z_up zS (z_cpy (z_I zS) 106 0 109 (17 * (z_AK A_z).2) 17)) 99 20 = nI (z_AK A_z).2 from (z_Icp (by decide)).trans hR.kl]
    refine z_s 38 hB_z dX10_keep_37 rfl rfl ?_
    refine z_s 39 hB_z dX10_keep_38 rfl rfl ?_
    rw [z_inc]
    refine z_putI 42 hB_z fX10_136 (N99 (zS := zS) hN_z) dX10_keep_39 rfl rfl rfl ?_
    refine z_s 43 hB_z dX10_keep_42 rfl rfl ?_
    refine z_getI 46 hB_z fX10_136 (N99 (zS := zS) hN_z) dX10_keep_43 rfl rfl ?_
    rw [z_Ieq]
    refine z_iret hM_z dX10_keep_46 rfl ?_ rfl rfl
    have e_z : z_keep A_z = (z_setK A_z (z_push (z_AK A_z) (z_AT A_z) 2), nI ((z_AK A_z).2 + 1)) := if_pos hlt
    rw [e_z]
    refine ⟨rfl, z_u2 (z_cpy (z_I zS) 106 0 109 (17 * (z_AK A_z).2) 17) 99 20 (nI ((z_AK A_z).2 + 1)), rfl, ?_, (z_f2.rf.cpy (fun k_z => by decide)).u2 (by decide)⟩
    refine hR.ofK ((z_f2.rf.cpy (fun k_z => Or.inl rfl)).u2 (Or.inr ⟨rfl, rfl⟩)) ?_ (fun j_z hj => ?_)
    · rw [z_u2_same]
      show nI ((z_AK A_z).2 + 1) = nI (if (z_AK A_z).2 < 2 then (z_AK A_z).2 + 1 else 2)
      rw [if_pos hlt]
    · have hj2 : j_z < (z_AK A_z).2 + 1 := by
        have : j_z < (if (z_AK A_z).2 < 2 then (z_AK A_z).2 + 1 else 2) := hj
        rw [if_pos hlt] at this
        exact this
      have e2_z : (z_push (z_AK A_z) (z_AT A_z) 2).1 = fun j_z => if j_z = (z_AK A_z).2 then z_AT A_z else (z_AK A_z).1 j_z := if_pos hlt
      rw [e2_z]
      by_cases q_z : j_z = (z_AK A_z).2
      · rw [q_z]
        show z_rW _ 109 _ (if (z_AK A_z).2 = (z_AK A_z).2 then z_AT A_z else _)
        rw [if_pos rfl]
        exact (z_rW.cpy hR.nw).fr (fun k_z _ _ => z_u2_ne (Or.inl (by decide)))
      · show z_rW _ 109 _ (if j_z = (z_AK A_z).2 then z_AT A_z else (z_AK A_z).1 j_z)
        rw [if_neg q_z]
        exact (hR.ks j_z (by omega)).fr (fun k_z h1 h2 => (z_u2_ne (Or.inl (by decide))).trans (z_cpy_out (by omega)))
  ·
    have hnl : ¬ (z_AK A_z).2 < 2 := fun q_z => absurd ((nI_ltI (by omega) (by decide)).mpr q_z) (by rw [show nI (z_AK A_z).2 = nI 2 from c_5]; decide)
    refine z_s 10 hB_z dX10_keep_8 rfl rfl ?_
    refine z_iret hM_z dX10_keep_10 rfl ?_ rfl rfl
    exact z_MC.of hR (if_neg hnl)

set_option maxHeartbeats 1000000 in
theorem c_X10_undo {g_z : z_U} {d_z : Nat} {zS : z_S} {A_z : z_Ab} (hN_z : z_LM zS) (hR : z_RM (z_I zS) A_z) (hu8 : (z_AU A_z).2 ≤ 8) : z_C g_z (d_z + 1) 0 0 mX10_undo [.ref 99] zS (z_MC zS (z_undo A_z)) := by
  refine z_enter [some (.ref 99)] rfl rfl (Nat.le_of_ble_eq_true rfl) rfl (fun zX hM_z => ?_)
  have hB_z : z_B g_z zX RX10 cX10_undo 1 := hM_z.1
  refine z_s 1 hB_z dX10_undo_0 rfl rfl ?_
  refine z_getI 4 hB_z fX10_133 (N99 (zS := zS) hN_z) dX10_undo_1 rfl rfl ?_
  rw [hR.bl]
  refine z_b 7 10 hB_z dX10_undo_4 rfl rfl (by decide) (fun c_4 => ?_) (fun c_4 => ?_)
  ·
    obtain ⟨u_z, hu⟩ : ∃ u_z, (z_AU A_z).2 = u_z + 1 := ⟨(z_AU A_z).2 - 1, by
      have : (z_AU A_z).2 ≠ 0 := fun q_z => c_4 (by rw [q_z]; rfl)
      omega⟩
    refine z_s 11 hB_z dX10_undo_10 rfl rfl ?_
    refine z_s 12 hB_z dX10_undo_11 rfl rfl ?_
    refine z_getI 15 hB_z fX10_133 (N99 (zS := zS) hN_z) dX10_undo_12 rfl rfl ?_
    rw [hR.bl, hu]
    refine z_s 16 hB_z dX10_undo_15 rfl rfl ?_
    refine z_s 17 hB_z dX10_undo_16 rfl rfl ?_
    rw [z_nIp]
    refine z_putI 20 hB_z fX10_133 (N99 (zS := zS) hN_z) dX10_undo_17 rfl rfl rfl ?_
    refine z_s 21 hB_z dX10_undo_20 rfl rfl ?_
    refine z_getR 24 hB_z fX10_34 (N99 (zS := zS) hN_z) dX10_undo_21 rfl rfl (n99_17 (zS := zS) hN_z) ?_
    refine z_s 26 hB_z dX10_undo_24 rfl rfl ?_
    refine z_s 27 hB_z dX10_undo_26 rfl rfl ?_
    refine z_getI 30 hB_z fX10_133 (N99 (zS := zS) hN_z) dX10_undo_27 rfl rfl ?_
    rw [z_Ieq]
    refine z_s 31 hB_z dX10_undo_30 rfl rfl ?_
    refine z_s 32 hB_z dX10_undo_31 rfl rfl ?_
    refine z_getR 35 hB_z fX10_28 (N99 (zS := zS) hN_z) dX10_undo_32 rfl rfl (n99_15 (zS := zS) hN_z) ?_
    refine z_s 36 hB_z dX10_undo_35 rfl rfl ?_
    refine z_s 38 hB_z dX10_undo_36 rfl rfl ?_
    rw [z_n17 _ (by omega)]
    refine z_callS 41 hB_z hM_z.2.1 kX10_126 dX10_undo_38 rfl (c_X10_bring (zS := z_pI zS 99 18 (nI u_z)) (d_z := 0) (i_z := 17 * u_z) (j_z := 0) (n_z := 17) (N108 hN_z) (N106 hN_z) (Or.inl (by decide)) (by omega) (by decide) (by decide) (by decide)) (by omega) rfl rfl (Nat.le_of_ble_eq_true rfl) ⟨Nat.le_refl _, Nat.le_refl _⟩ ?_
    rintro _ _ ⟨rfl, rfl⟩
    refine z_s 42 hB_z dX10_undo_41 rfl rfl ?_
    refine z_getI 45 hB_z fX10_133 (N99 (zS := zS) hN_z) dX10_undo_42 rfl rfl ?_
    rw [show z_I (z_up (z_pI zS 99 18 (nI u_z)) (z_cpy (z_I (z_pI zS 99 18 (nI u_z))) 108 (17 * u_z) 106 0 17)) 99 18 = nI u_z from (z_Icp (by decide)).trans z_Ieq]
    refine z_iret hM_z dX10_undo_45 rfl ?_ rfl rfl
    have e_z : z_undo A_z = (z_setT (z_setU A_z ((z_AU A_z).1, u_z)) ((z_AU A_z).1 u_z), nI u_z) := (if_neg (by omega)).trans (by rw [hu]; rfl)
    rw [e_z]
    have h1 : z_RM (z_u2 (z_I zS) 99 18 (nI u_z)) (z_setU A_z ((z_AU A_z).1, u_z)) := hR.ofU (z_f2.rf.u2 (Or.inr ⟨rfl, rfl⟩)) (z_u2_same _ _ _ _) (fun j_z hj => (hR.bs j_z (by have : j_z < u_z := hj; omega)).fr (fun k_z _ _ => z_u2_ne (Or.inl (by decide))))
    refine ⟨rfl, z_cpy (z_u2 (z_I zS) 99 18 (nI u_z)) 108 (17 * u_z) 106 0 17, rfl, ?_, (z_f2.rf.u2 (by decide)).cpy (fun k_z => by decide)⟩
    exact h1.ofT (z_f2.rf.cpy (fun k_z => rfl)) (z_rW.cpy ((hR.bs u_z (by omega)).fr (fun k_z _ _ => z_u2_ne (Or.inl (by decide)))))
  ·
    have h0 : (z_AU A_z).2 = 0 := z_nI0 (by omega) c_4
    refine z_s 9 hB_z dX10_undo_7 rfl rfl ?_
    refine z_iret hM_z dX10_undo_9 rfl ?_ rfl rfl
    exact z_MC.of hR (if_pos h0)

set_option maxHeartbeats 1000000 in
theorem c_X10_back {g_z : z_U} {d_z : Nat} {zS : z_S} {A_z : z_Ab} (hN_z : z_LM zS) (hR : z_RM (z_I zS) A_z) (hk2 : (z_AK A_z).2 ≤ 2) : z_C g_z (d_z + 1) 0 0 mX10_back [.ref 99] zS (z_MC zS (z_back A_z)) := by
  refine z_enter [some (.ref 99)] rfl rfl (Nat.le_of_ble_eq_true rfl) rfl (fun zX hM_z => ?_)
  have hB_z : z_B g_z zX RX10 cX10_back 1 := hM_z.1
  refine z_s 1 hB_z dX10_back_0 rfl rfl ?_
  refine z_getI 4 hB_z fX10_136 (N99 (zS := zS) hN_z) dX10_back_1 rfl rfl ?_
  rw [hR.kl]
  refine z_b 7 10 hB_z dX10_back_4 rfl rfl (by decide) (fun c_4 => ?_) (fun c_4 => ?_)
  ·
    obtain ⟨u_z, hu⟩ : ∃ u_z, (z_AK A_z).2 = u_z + 1 := ⟨(z_AK A_z).2 - 1, by
      have : (z_AK A_z).2 ≠ 0 := fun q_z => c_4 (by rw [q_z]; rfl)
      omega⟩
    refine z_s 11 hB_z dX10_back_10 rfl rfl ?_
    refine z_s 12 hB_z dX10_back_11 rfl rfl ?_
    refine z_getI 15 hB_z fX10_136 (N99 (zS := zS) hN_z) dX10_back_12 rfl rfl ?_
    rw [hR.kl, hu]
    refine z_s 16 hB_z dX10_back_15 rfl rfl ?_
    refine z_s 17 hB_z dX10_back_16 rfl rfl ?_
    rw [z_nIp]
    refine z_putI 20 hB_z fX10_136 (N99 (zS := zS) hN_z) dX10_back_17 rfl rfl rfl ?_
    refine z_s 21 hB_z dX10_back_20 rfl rfl ?_
    refine z_getR 24 hB_z fX10_37 (N99 (zS := zS) hN_z) dX10_back_21 rfl rfl (n99_19 (zS := zS) hN_z) ?_
    refine z_s 26 hB_z dX10_back_24 rfl rfl ?_
    refine z_s 27 hB_z dX10_back_26 rfl rfl ?_
    refine z_getI 30 hB_z fX10_136 (N99 (zS := zS) hN_z) dX10_back_27 rfl rfl ?_
    rw [z_Ieq]
    refine z_s 31 hB_z dX10_back_30 rfl rfl ?_
    refine z_s 32 hB_z dX10_back_31 rfl rfl ?_
    refine z_getR 35 hB_z fX10_28 (N99 (zS := zS) hN_z) dX10_back_32 rfl rfl (n99_15 (zS := zS) hN_z) ?_
    refine z_s 36 hB_z dX10_back_35 rfl rfl ?_
    refine z_s 38 hB_z dX10_back_36 rfl rfl ?_
    rw [z_n17 _ (by omega)]
    refine z_callS 41 hB_z hM_z.2.1 kX10_126 dX10_back_38 rfl (c_X10_bring (zS := z_pI zS 99 20 (nI u_z)) (d_z := 0) (i_z := 17 * u_z) (j_z := 0) (n_z := 17) (N109 hN_z) (N106 hN_z) (Or.inl (by decide)) (by omega) (by decide) (by decide) (by decide)) (by omega) rfl rfl (Nat.le_of_ble_eq_true rfl) ⟨Nat.le_refl _, Nat.le_refl _⟩ ?_
    rintro _ _ ⟨rfl, rfl⟩
    refine z_s 42 hB_z dX10_back_41 rfl rfl ?_
    refine z_s 43 hB_z dX10_back_42 rfl rfl ?_
    refine z_putI 46 hB_z fX10_133 (N99 (zS := zS) hN_z) dX10_back_43 rfl rfl rfl ?_
    refine z_s 47 hB_z dX10_back_46 rfl rfl ?_
    refine z_getI 50 hB_z fX10_136 (N99 (zS := zS) hN_z) dX10_back_47 rfl rfl ?_
    rw [show z_I (z_pI (z_up (z_pI zS 99 20 (nI u_z)) (z_cpy (z_I (z_pI zS 99 20 (nI u_z))) 109 (17 * u_z) 106 0 17)) 99 18 0) 99 20 = nI u_z from (z_Ine (Or.inr (by decide))).trans ((z_Icp (by decide)).trans z_Ieq)]
    refine z_iret hM_z dX10_back_50 rfl ?_ rfl rfl
    have e_z : z_back A_z = (z_setT (z_setU (z_setK A_z ((z_AK A_z).1, u_z)) ((z_AU A_z).1, 0)) ((z_AK A_z).1 u_z), nI u_z) := (if_neg (by omega)).trans (by rw [hu]; rfl)
    rw [e_z]
    have h1 : z_RM (z_u2 (z_I zS) 99 20 (nI u_z)) (z_setK A_z ((z_AK A_z).1, u_z)) := hR.ofK (z_f2.rf.u2 (Or.inr ⟨rfl, rfl⟩)) (z_u2_same _ _ _ _) (fun j_z hj => (hR.ks j_z (by have : j_z < u_z := hj; omega)).fr (fun k_z _ _ => z_u2_ne (Or.inl (by decide))))
    have h2 := h1.ofT (x_z := (z_AK A_z).1 u_z) (zI' := z_cpy (z_u2 (z_I zS) 99 20 (nI u_z)) 109 (17 * u_z) 106 0 17) (z_f2.rf.cpy (fun k_z => rfl)) (z_rW.cpy ((hR.ks u_z (by omega)).fr (fun k_z _ _ => z_u2_ne (Or.inl (by decide)))))
    refine ⟨rfl, z_u2 (z_cpy (z_u2 (z_I zS) 99 20 (nI u_z)) 109 (17 * u_z) 106 0 17) 99 18 0, rfl, ?_, ((z_f2.rf.u2 (by decide)).cpy (fun k_z => by decide)).u2 (by decide)⟩
    exact h2.ofU (x_z := ((z_AU A_z).1, 0)) (z_f2.rf.u2 (Or.inr ⟨rfl, rfl⟩)) (z_u2_same _ _ _ _) (fun j_z hj => absurd hj (Nat.not_lt_zero j_z))
  ·
    have h0 : (z_AK A_z).2 = 0 := z_nI0 (by omega) c_4
    refine z_s 9 hB_z dX10_back_7 rfl rfl ?_
    refine z_iret hM_z dX10_back_9 rfl ?_ rfl rfl
    exact z_MC.of hR (if_pos h0)

theorem c_X10_begin {g_z : z_U} {d_z : Nat} {zS : z_S} {A_z : z_Ab} (hN_z : z_LM zS) (hR : z_RM (z_I zS) A_z) : z_C g_z (d_z + 1) 0 0 mX10_begin [.ref 99] zS (fun r_z zS' => r_z = none ∧ ∃ zI', z_up zS zI' = zS' ∧ z_f2 z_scM (z_I zS) zI' ∧ z_rW zI' 107 0 (z_AT A_z) ∧ zI' 99 25 = -4) := by
  refine z_enter [some (.ref 99)] rfl rfl (Nat.le_of_ble_eq_true rfl) rfl (fun zX hM_z => ?_)
  have hB_z : z_B g_z zX RX10 cX10_begin 1 := hM_z.1
  refine z_s 1 hB_z dX10_begin_0 rfl rfl ?_
  refine z_getR 4 hB_z fX10_28 (N99 (zS := zS) hN_z) dX10_begin_1 rfl rfl (n99_15 (zS := zS) hN_z) ?_
  refine z_s 5 hB_z dX10_begin_4 rfl rfl ?_
  refine z_s 6 hB_z dX10_begin_5 rfl rfl ?_
  refine z_getR 9 hB_z fX10_31 (N99 (zS := zS) hN_z) dX10_begin_6 rfl rfl (n99_16 (zS := zS) hN_z) ?_
  refine z_s 10 hB_z dX10_begin_9 rfl rfl ?_
  refine z_s 12 hB_z dX10_begin_10 rfl rfl ?_
  refine z_callS 15 hB_z hM_z.2.1 kX10_126 dX10_begin_12 rfl (c_X10_bring (d_z := 0) (i_z := 0) (j_z := 0) (n_z := 17) (N106 hN_z) (N107 hN_z) (Or.inl (by decide)) (by decide) (by decide) (by decide) (by decide)) (by omega) rfl rfl (Nat.le_of_ble_eq_true rfl) ⟨Nat.le_refl _, Nat.le_refl _⟩ ?_
  rintro _ _ ⟨rfl, rfl⟩
  refine z_s 16 hB_z dX10_begin_15 rfl rfl ?_
  refine z_s 18 hB_z dX10_begin_16 rfl rfl ?_
  refine z_putI 21 hB_z fX10_139 (N99 (zS := zS) hN_z) dX10_begin_18 rfl rfl rfl ?_
  refine z_vret hM_z dX10_begin_21 rfl ?_ rfl rfl
  exact ⟨rfl, z_u2 (z_cpy (z_I zS) 106 0 107 0 17) 99 25 (-4), rfl, (z_f2.rf.cpy (fun k_z => by unfold z_scM; omega)).u2 (by unfold z_scM; omega), (z_rW.cpy hR.nw).fr (fun k_z _ _ => z_u2_ne (Or.inl (by decide))), z_u2_same _ _ _ _⟩

