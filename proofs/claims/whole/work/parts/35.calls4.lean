/-! undone, kept, seen; the questions of the cells -/
theorem z_shelf.size {zS : z_S} {f_z a_z N_z b_z u_z : Nat} {U_z : Nat → Nat → Int32} (h_z : z_shelf zS f_z a_z N_z b_z U_z u_z) : z_I zS f_z 1 = nI u_z ∧ u_z ≤ N_z := by
  obtain ⟨r_z, hs, hz, hu, hU⟩ := h_z
  exact ⟨hz, hu⟩
theorem z_shelf.less {P_z : Nat → Prop} {zS : z_S} {zI' : Nat → Nat → Int32} {f_z a_z N_z b_z u_z v_z : Nat} {U_z : Nat → Nat → Int32} (h_z : z_shelf zS f_z a_z N_z b_z U_z u_z) (hf : z_fr P_z (z_I zS) zI') (h1 : zI' f_z 1 = nI v_z) (hv : v_z ≤ u_z) (h2 : ∀ q_z, b_z ≤ q_z → q_z < b_z + 3 * N_z → ¬ P_z q_z) : z_shelf (z_up zS zI') f_z a_z N_z b_z U_z v_z := by
  obtain ⟨r_z, hs, hz, hu, hU⟩ := h_z
  refine ⟨r_z, hs, h1, by omega, fun j_z hj => ?_⟩
  have := hs.2.2.2.2.1 j_z (by omega)
  exact (hU j_z (by omega)).fr hf ⟨h2 _ (by omega) (by omega), h2 _ (by omega) (by omega)⟩
/-- the top of a shelf taken, and what is less of either -/
def z_undo (A_z : z_Ab) : z_Ab × Int32 := if (z_AU A_z).2 = 0 then (A_z, -2) else (z_setT (z_setU A_z ((z_AU A_z).1, (z_AU A_z).2 - 1)) ((z_AU A_z).1 ((z_AU A_z).2 - 1)), nI ((z_AU A_z).2 - 1))
def z_back (A_z : z_Ab) : z_Ab × Int32 := if (z_AK A_z).2 = 0 then (A_z, -2) else (z_setT (z_setU (z_setK A_z ((z_AK A_z).1, (z_AK A_z).2 - 1)) ((z_AU A_z).1, 0)) ((z_AK A_z).1 ((z_AK A_z).2 - 1)), nI ((z_AK A_z).2 - 1))
def z_keep (A_z : z_Ab) : z_Ab × Int32 := if (z_AK A_z).2 < 2 then (z_setK A_z (z_push (z_AK A_z) (z_AT A_z) 2), nI ((z_AK A_z).2 + 1)) else (A_z, -3)
set_option maxHeartbeats 1000000 in
theorem c_X9_undo {g_z : z_U} {d_z : Nat} {zS : z_S} {A_z : z_Ab} (hC : z_RC zS A_z) : z_C g_z (d_z + 4) 0 0 mX9_undo [.ref 4] zS (z_CP zS (z_undo A_z)) := by
  refine z_enter [some (.ref 4)] rfl rfl (Nat.le_of_ble_eq_true rfl) rfl (fun zX hM_z => ?_)
  have hB_z : z_B g_z zX RX9 cX9_undo 1 := hM_z.1
  obtain ⟨hL, hV, hT_z, hU, hK_z, hS_z, hX⟩ := id hC
  have hn : z_I zS 7 9 = nI (z_AV A_z).2.1 := hV.2.1
  have hm_z : z_I zS 7 10 = nI (z_AV A_z).2.2.1 := hV.2.2.1
  have hn6 := hV.2.2.2.2.1
  have hm10 := hV.2.2.2.2.2
  obtain ⟨hz, hu8⟩ := hU.size
  refine z_s 1 hB_z dX9_undo_0 rfl rfl ?_
  refine z_getR 4 hB_z fX9_59 (L4_z (zS := zS) hL) dX9_undo_1 rfl rfl (r4_7 (zS := zS) hL) ?_
  refine z_getI 7 hB_z fX9_204 (L57 (zS := zS) hL) dX9_undo_4 rfl rfl ?_
  refine z_b 10 13 hB_z dX9_undo_7 rfl rfl (by decide) (fun c_7 => ?_) (fun c_7 => ?_)
  ·
    have hu0 : (z_AU A_z).2 ≠ 0 := fun q_z => c_7 (hz.trans (by rw [q_z]; rfl))
    obtain ⟨u_z, hu⟩ : ∃ u_z, (z_AU A_z).2 = u_z + 1 := ⟨(z_AU A_z).2 - 1, by omega⟩
    rw [hu] at hU
    refine z_s 14 hB_z dX9_undo_13 rfl rfl ?_
    refine z_getR 17 hB_z fX9_59 (L4_z (zS := zS) hL) dX9_undo_14 rfl rfl (r4_7 (zS := zS) hL) ?_
    refine z_s 18 hB_z dX9_undo_17 rfl rfl ?_
    refine z_getR 21 hB_z fX9_47 (L4_z (zS := zS) hL) dX9_undo_18 rfl rfl (r4_5 (zS := zS) hL) ?_
    refine z_callV 24 hB_z hM_z.2.1 kX9_207 dX9_undo_21 rfl (L57 (zS := zS) hL) rfl (c_X4_takeInto (d_z := 0) hU (by decide) (s51 hL) (by decide) (by decide) (by decide)) (by omega) rfl rfl (Nat.le_of_ble_eq_true rfl) ⟨Nat.le_refl _, Nat.le_refl _⟩ ?_
    rintro _ _ ⟨rfl, I2_z, rfl, hf2, hT2, hz2⟩
    refine z_s 25 hB_z dX9_undo_24 rfl rfl ?_
    refine z_getR 28 hB_z fX9_59 (L4_z (zS := zS) hL) dX9_undo_25 rfl rfl (r4_7 (zS := zS) hL) ?_
    refine z_getI 31 hB_z fX9_204 (L57 (zS := zS) hL) dX9_undo_28 rfl rfl ?_
    refine z_iret hM_z dX9_undo_31 rfl ?_ rfl rfl
    unfold z_undo
    rw [if_neg hu0, hu, show u_z + 1 - 1 = u_z by omega]
    refine ⟨congrArg (fun q_z => some (Value.int q_z)) hz2, ⟨hL, hV.fr hf2 (fun q_z a_z b_z => by omega), hT2, hU.less hf2 hz2 (Nat.le_succ u_z) (fun q_z a_z b_z => by omega), hK_z.fr hf2 (by decide) (fun q_z a_z b_z => by omega), hS_z.fr hf2 (fun q_z a_z b_z => by omega), hX.fr hf2 (by decide) (by decide)⟩, z_kM.up hf2 (fun q_z hq => by omega)⟩
  ·
    refine z_s 12 hB_z dX9_undo_10 rfl rfl ?_
    refine z_iret hM_z dX9_undo_12 rfl ?_ rfl rfl
    exact z_CP.of hC (by unfold z_undo; rw [if_pos ((nI_eq (by omega) (by decide)).mp (hz.symm.trans c_7))])

set_option maxHeartbeats 1000000 in
theorem c_X9_keep {g_z : z_U} {d_z : Nat} {zS : z_S} {A_z : z_Ab} (hC : z_RC zS A_z) : z_C g_z (d_z + 4) 0 0 mX9_keep [.ref 4] zS (z_CP zS (z_keep A_z)) := by
  refine z_enter [some (.ref 4)] rfl rfl (Nat.le_of_ble_eq_true rfl) rfl (fun zX hM_z => ?_)
  have hB_z : z_B g_z zX RX9 cX9_keep 1 := hM_z.1
  obtain ⟨hL, hV, hT_z, hU, hK_z, hS_z, hX⟩ := id hC
  have hn : z_I zS 7 9 = nI (z_AV A_z).2.1 := hV.2.1
  have hm_z : z_I zS 7 10 = nI (z_AV A_z).2.2.1 := hV.2.2.1
  have hn6 := hV.2.2.2.2.1
  have hm10 := hV.2.2.2.2.2
  obtain ⟨hz, hu2⟩ := hK_z.size
  refine z_s 1 hB_z dX9_keep_0 rfl rfl ?_
  refine z_getR 4 hB_z fX9_63 (L4_z (zS := zS) hL) dX9_keep_1 rfl rfl (r4_8 (zS := zS) hL) ?_
  refine z_getI 7 hB_z fX9_204 (L83 (zS := zS) hL) dX9_keep_4 rfl rfl ?_
  refine z_s 8 hB_z dX9_keep_7 rfl rfl ?_
  refine z_b 11 14 hB_z dX9_keep_8 rfl rfl (by decide) (fun c_8 => ?_) (fun c_8 => ?_)
  ·
    have hlt : (z_AK A_z).2 < 2 := (nI_ltI (by omega) (by decide)).mp (hz ▸ c_8)
    refine z_s 15 hB_z dX9_keep_14 rfl rfl ?_
    refine z_getR 18 hB_z fX9_63 (L4_z (zS := zS) hL) dX9_keep_15 rfl rfl (r4_8 (zS := zS) hL) ?_
    refine z_s 19 hB_z dX9_keep_18 rfl rfl ?_
    refine z_getR 22 hB_z fX9_47 (L4_z (zS := zS) hL) dX9_keep_19 rfl rfl (r4_5 (zS := zS) hL) ?_
    refine z_callV 25 hB_z hM_z.2.1 kX9_185 dX9_keep_22 rfl (L83 (zS := zS) hL) rfl (c_X4_put (d_z := 0) hK_z (by decide) (by decide) (s51 hL) hT_z (by decide) (by decide) (by decide)) (by omega) rfl rfl (Nat.le_of_ble_eq_true rfl) ⟨Nat.le_refl _, Nat.le_refl _⟩ ?_
    rintro _ _ ⟨rfl, I1, R1, rfl, hf1, hR1, hsh1⟩
    obtain ⟨hC1, hkM1⟩ := hC.ofK (x_z := z_push (z_AK A_z) (z_AT A_z) 2) hf1 hR1 hsh1
    have hL1 := hC1.1
    have hz1 := hsh1.size.1
    rw [if_pos hlt] at hz1
    refine z_s 26 hB_z dX9_keep_25 rfl rfl ?_
    refine z_getR 29 hB_z fX9_63 (L4_z (zS := z_w zS I1 R1) hL1) dX9_keep_26 rfl rfl (r4_8 (zS := z_w zS I1 R1) hL1) ?_
    refine z_getI 32 hB_z fX9_204 (L83 (zS := z_w zS I1 R1) hL1) dX9_keep_29 rfl rfl ?_
    refine z_iret hM_z dX9_keep_32 rfl ?_ rfl rfl
    unfold z_keep
    rw [if_pos hlt]
    exact ⟨congrArg (fun q_z => some (Value.int q_z)) hz1, hC1, hkM1⟩
  ·
    refine z_s 13 hB_z dX9_keep_11 rfl rfl ?_
    refine z_iret hM_z dX9_keep_13 rfl ?_ rfl rfl
    exact z_CP.of hC (by unfold z_keep; rw [if_neg (fun q_z => z_nlt0 c_8 (hz ▸ (nI_ltI (by omega) (by decide)).mpr q_z))])

set_option maxHeartbeats 1000000 in
theorem c_X9_back {g_z : z_U} {d_z : Nat} {zS : z_S} {A_z : z_Ab} (hC : z_RC zS A_z) : z_C g_z (d_z + 4) 0 0 mX9_back [.ref 4] zS (z_CP zS (z_back A_z)) := by
  refine z_enter [some (.ref 4)] rfl rfl (Nat.le_of_ble_eq_true rfl) rfl (fun zX hM_z => ?_)
  have hB_z : z_B g_z zX RX9 cX9_back 1 := hM_z.1
  obtain ⟨hL, hV, hT_z, hU, hK_z, hS_z, hX⟩ := id hC
  have hn : z_I zS 7 9 = nI (z_AV A_z).2.1 := hV.2.1
  have hm_z : z_I zS 7 10 = nI (z_AV A_z).2.2.1 := hV.2.2.1
  have hn6 := hV.2.2.2.2.1
  have hm10 := hV.2.2.2.2.2
  obtain ⟨hz, hu8⟩ := hK_z.size
  refine z_s 1 hB_z dX9_back_0 rfl rfl ?_
  refine z_getR 4 hB_z fX9_63 (L4_z (zS := zS) hL) dX9_back_1 rfl rfl (r4_8 (zS := zS) hL) ?_
  refine z_getI 7 hB_z fX9_204 (L83 (zS := zS) hL) dX9_back_4 rfl rfl ?_
  refine z_b 10 13 hB_z dX9_back_7 rfl rfl (by decide) (fun c_7 => ?_) (fun c_7 => ?_)
  ·
    have hu0 : (z_AK A_z).2 ≠ 0 := fun q_z => c_7 (hz.trans (by rw [q_z]; rfl))
    obtain ⟨u_z, hu⟩ : ∃ u_z, (z_AK A_z).2 = u_z + 1 := ⟨(z_AK A_z).2 - 1, by omega⟩
    rw [hu] at hK_z
    refine z_s 14 hB_z dX9_back_13 rfl rfl ?_
    refine z_getR 17 hB_z fX9_63 (L4_z (zS := zS) hL) dX9_back_14 rfl rfl (r4_8 (zS := zS) hL) ?_
    refine z_s 18 hB_z dX9_back_17 rfl rfl ?_
    refine z_getR 21 hB_z fX9_47 (L4_z (zS := zS) hL) dX9_back_18 rfl rfl (r4_5 (zS := zS) hL) ?_
    refine z_callV 24 hB_z hM_z.2.1 kX9_207 dX9_back_21 rfl (L83 (zS := zS) hL) rfl (c_X4_takeInto (d_z := 0) hK_z (by decide) (s51 hL) (by decide) (by decide) (by decide)) (by omega) rfl rfl (Nat.le_of_ble_eq_true rfl) ⟨Nat.le_refl _, Nat.le_refl _⟩ ?_
    rintro _ _ ⟨rfl, I2_z, rfl, hf2, hT2, hz2⟩
    refine z_s 25 hB_z dX9_back_24 rfl rfl ?_
    refine z_getR 28 hB_z fX9_59 (L4_z (zS := zS) hL) dX9_back_25 rfl rfl (r4_7 (zS := zS) hL) ?_
    refine z_callV 31 hB_z hM_z.2.1 kX9_289 dX9_back_28 rfl (L57 (zS := zS) hL) rfl (c_X4_clear (zS := z_up zS I2_z) (d_z := 0) (L57 hL)) (by omega) rfl rfl (Nat.le_of_ble_eq_true rfl) ⟨Nat.le_refl _, Nat.le_refl _⟩ ?_
    rintro _ _ ⟨rfl, rfl⟩
    have hf3 := hf2.mono (P2_z := fun q_z => q_z = 83 ∨ q_z = 51 ∨ q_z = 53 ∨ q_z = 57) (fun q_z h_z => by omega)
    have hf4 := hf3.u2 (o := 57) (k_z := 1) (v_z := 0) (by decide)
    have hf5 := (z_fr.rf (P_z := fun q_z => q_z = 57) (zI := I2_z)).u2 (o := 57) (k_z := 1) (v_z := 0) rfl
    refine z_s 32 hB_z dX9_back_31 rfl rfl ?_
    refine z_getR 35 hB_z fX9_63 (L4_z (zS := zS) hL) dX9_back_32 rfl rfl (r4_8 (zS := zS) hL) ?_
    refine z_getI 38 hB_z fX9_204 (L83 (zS := zS) hL) dX9_back_35 rfl rfl ?_
    refine z_iret hM_z dX9_back_38 rfl ?_ rfl rfl
    unfold z_back
    rw [if_neg hu0, hu, show u_z + 1 - 1 = u_z by omega]
    refine ⟨congrArg (fun q_z => some (Value.int q_z)) ((z_Ine (Or.inl (by decide))).trans hz2), ⟨hL, hV.fr hf4 (fun q_z a_z b_z => by omega), hT2.fr hf5 (by decide), hU.less hf4 (z_u2_same _ _ _ _) (Nat.zero_le _) (fun q_z a_z b_z => by omega), hK_z.less hf4 ((hf5 83 1 (by decide)).trans hz2) (Nat.le_succ u_z) (fun q_z a_z b_z => by omega), hS_z.fr hf4 (fun q_z a_z b_z => by omega), hX.fr hf4 (by decide) (by decide)⟩, z_kM.up hf4 (fun q_z hq => by omega)⟩
  ·
    refine z_s 12 hB_z dX9_back_10 rfl rfl ?_
    refine z_iret hM_z dX9_back_12 rfl ?_ rfl rfl
    exact z_CP.of hC (by unfold z_back; rw [if_pos ((nI_eq (by omega) (by decide)).mp (hz.symm.trans c_7))])

set_option maxHeartbeats 1000000 in
theorem c_X6_add {g_z : z_U} {d_z : Nat} {zS : z_S} (hL : z_L zS) {s_z t_z v_z : Int32} {n_z : Nat} (hn : z_I zS 91 3 = nI n_z) (h8 : n_z < 8) : z_C g_z (d_z + 1) 0 0 mX6_add [.ref 91, .int s_z, .int t_z, .int v_z] zS (fun r_z zS' => r_z = none ∧ z_pI (z_pI (z_pI (z_pI zS 93 n_z s_z) 95 n_z t_z) 97 n_z (if v_z = 0 then 0 else 1)) 91 3 (nI (n_z + 1)) = zS') := by
  refine z_enter [some (.ref 91), some (.int s_z), some (.int t_z), some (.int v_z)] rfl rfl (Nat.le_of_ble_eq_true rfl) rfl (fun zX hM_z => ?_)
  have hB_z : z_B g_z zX RX6 cX6_add 4 := hM_z.1
  refine z_s 1 hB_z dX6_add_0 rfl rfl ?_
  refine z_getR 4 hB_z fX6_14 (L91 (zS := zS) hL) dX6_add_1 rfl rfl (r91_0 (zS := zS) hL) ?_
  refine z_s 5 hB_z dX6_add_4 rfl rfl ?_
  refine z_getI 8 hB_z fX6_26 (L91 (zS := zS) hL) dX6_add_5 rfl rfl ?_
  refine z_s 9 hB_z dX6_add_8 rfl rfl ?_
  rw [hn]
  refine z_callV 12 hB_z hM_z.2.1 kX6_30 dX6_add_9 rfl (L92 (zS := zS) hL) rfl (c_put (d_z := 0) (w92 hL) (by decide) h8) (by omega) rfl rfl (Nat.le_of_ble_eq_true rfl) ⟨Nat.le_refl _, Nat.le_refl _⟩ ?_
  rintro _ _ ⟨rfl, rfl⟩
  refine z_s 13 hB_z dX6_add_12 rfl rfl ?_
  refine z_getR 16 hB_z fX6_20 (L91 (zS := zS) hL) dX6_add_13 rfl rfl (r91_1 (zS := zS) hL) ?_
  refine z_s 17 hB_z dX6_add_16 rfl rfl ?_
  refine z_getI 20 hB_z fX6_26 (L91 (zS := zS) hL) dX6_add_17 rfl rfl ?_
  refine z_s 21 hB_z dX6_add_20 rfl rfl ?_
  rw [show z_I (z_pI zS 93 n_z s_z) 91 3 = nI n_z from (z_Ine (Or.inl (by decide))).trans hn]
  refine z_callV 24 hB_z hM_z.2.1 kX6_30 dX6_add_21 rfl (L94 (zS := zS) hL) rfl (c_put (zS := z_pI zS 93 n_z s_z) (d_z := 0) (w94 hL) (by decide) h8) (by omega) rfl rfl (Nat.le_of_ble_eq_true rfl) ⟨Nat.le_refl _, Nat.le_refl _⟩ ?_
  rintro _ _ ⟨rfl, rfl⟩
  refine z_s 25 hB_z dX6_add_24 rfl rfl ?_
  refine z_getR 28 hB_z fX6_23 (L91 (zS := zS) hL) dX6_add_25 rfl rfl (r91_2 (zS := zS) hL) ?_
  refine z_s 29 hB_z dX6_add_28 rfl rfl ?_
  refine z_getI 32 hB_z fX6_26 (L91 (zS := zS) hL) dX6_add_29 rfl rfl ?_
  rw [show z_I (z_pI (z_pI zS 93 n_z s_z) 95 n_z t_z) 91 3 = nI n_z from (z_Ine (Or.inl (by decide))).trans ((z_Ine (Or.inl (by decide))).trans hn)]
  refine z_s 33 hB_z dX6_add_32 rfl rfl ?_
  refine z_b 36 40 hB_z dX6_add_33 rfl rfl (by decide) (fun c_33 => ?_) (fun c_33 => ?_)
  ·
    have ev_z : (if v_z = 0 then (0 : Int32) else 1) = 0 := if_pos c_33
    refine z_s 41 hB_z dX6_add_40 rfl rfl ?_
    refine z_callV 44 hB_z hM_z.2.1 kX6_30 dX6_add_41 rfl (L96 (zS := zS) hL) rfl (c_put (zS := z_pI (z_pI zS 93 n_z s_z) 95 n_z t_z) (d_z := 0) (w96 hL) (by decide) h8) (by omega) rfl rfl (Nat.le_of_ble_eq_true rfl) ⟨Nat.le_refl _, Nat.le_refl _⟩ ?_
    rintro _ _ ⟨rfl, rfl⟩
    refine z_s 45 hB_z dX6_add_44 rfl rfl ?_
    refine z_s 46 hB_z dX6_add_45 rfl rfl ?_
    refine z_getI 49 hB_z fX6_26 (L91 (zS := zS) hL) dX6_add_46 rfl rfl ?_
    rw [show z_I (z_pI (z_pI (z_pI zS 93 n_z s_z) 95 n_z t_z) 97 n_z _) 91 3 = nI n_z from (z_Ine (Or.inl (by decide))).trans ((z_Ine (Or.inl (by decide))).trans ((z_Ine (Or.inl (by decide))).trans hn))]
    refine z_s 50 hB_z dX6_add_49 rfl rfl ?_
    refine z_s 51 hB_z dX6_add_50 rfl rfl ?_
    rw [z_inc]
    refine z_putI 54 hB_z fX6_26 (L91 (zS := zS) hL) dX6_add_51 rfl rfl rfl ?_
    refine z_vret hM_z dX6_add_54 rfl ?_ rfl rfl
    rw [ev_z]
    exact ⟨rfl, rfl⟩
  ·
    have ev_z : (if v_z = 0 then (0 : Int32) else 1) = 1 := if_neg c_33
    refine z_s 37 hB_z dX6_add_36 rfl rfl ?_
    refine z_j 41 hB_z dX6_add_37 (by decide) ?_
    refine z_callV 44 hB_z hM_z.2.1 kX6_30 dX6_add_41 rfl (L96 (zS := zS) hL) rfl (c_put (zS := z_pI (z_pI zS 93 n_z s_z) 95 n_z t_z) (d_z := 0) (w96 hL) (by decide) h8) (by omega) rfl rfl (Nat.le_of_ble_eq_true rfl) ⟨Nat.le_refl _, Nat.le_refl _⟩ ?_
    rintro _ _ ⟨rfl, rfl⟩
    refine z_s 45 hB_z dX6_add_44 rfl rfl ?_
    refine z_s 46 hB_z dX6_add_45 rfl rfl ?_
    refine z_getI 49 hB_z fX6_26 (L91 (zS := zS) hL) dX6_add_46 rfl rfl ?_
    rw [show z_I (z_pI (z_pI (z_pI zS 93 n_z s_z) 95 n_z t_z) 97 n_z _) 91 3 = nI n_z from (z_Ine (Or.inl (by decide))).trans ((z_Ine (Or.inl (by decide))).trans ((z_Ine (Or.inl (by decide))).trans hn))]
    refine z_s 50 hB_z dX6_add_49 rfl rfl ?_
    refine z_s 51 hB_z dX6_add_50 rfl rfl ?_
    rw [z_inc]
    refine z_putI 54 hB_z fX6_26 (L91 (zS := zS) hL) dX6_add_51 rfl rfl rfl ?_
    refine z_vret hM_z dX6_add_54 rfl ?_ rfl rfl
    rw [ev_z]
    exact ⟨rfl, rfl⟩

def z_see (A_z : z_Ab) (s_z t_z v_z : Int32) : z_Ab × Int32 := if (0 ≤ s_z ∧ s_z < nI (z_AV A_z).2.1) ∧ 0 ≤ t_z ∧ t_z ≤ 99 then (if (z_AS A_z).2.2.2 < 8 then (z_setS A_z (fun i_z => if i_z = (z_AS A_z).2.2.2 then s_z else (z_AS A_z).1 i_z, fun i_z => if i_z = (z_AS A_z).2.2.2 then t_z else (z_AS A_z).2.1 i_z, fun i_z => if i_z = (z_AS A_z).2.2.2 then (if v_z = 0 then 0 else 1) else (z_AS A_z).2.2.1 i_z, (z_AS A_z).2.2.2 + 1), nI ((z_AS A_z).2.2.2 + 1)) else (A_z, -3)) else (A_z, -1)
def z_forget (A_z : z_Ab) : z_Ab × Int32 := (z_setS A_z ((z_AS A_z).1, (z_AS A_z).2.1, (z_AS A_z).2.2.1, 0), nI (z_AS A_z).2.2.2)
theorem z_rS_add {zI : Nat → Nat → Int32} {q_z : (Nat → Int32) × (Nat → Int32) × (Nat → Int32) × Nat} {s_z t_z v_z : Int32} (h_z : z_rS zI q_z) (h8 : q_z.2.2.2 < 8) : z_rS (z_u2 (z_u2 (z_u2 (z_u2 zI 93 q_z.2.2.2 s_z) 95 q_z.2.2.2 t_z) 97 q_z.2.2.2 v_z) 91 3 (nI (q_z.2.2.2 + 1))) (fun i_z => if i_z = q_z.2.2.2 then s_z else q_z.1 i_z, fun i_z => if i_z = q_z.2.2.2 then t_z else q_z.2.1 i_z, fun i_z => if i_z = q_z.2.2.2 then v_z else q_z.2.2.1 i_z, q_z.2.2.2 + 1) := by
  refine ⟨z_u2_same _ _ _ _, h8, fun i_z hi_z => ?_⟩
  have hi_z' : i_z < q_z.2.2.2 + 1 := hi_z
  dsimp only
  by_cases e_z : i_z = q_z.2.2.2
  · rw [if_pos e_z, if_pos e_z, if_pos e_z, e_z]
    exact ⟨(z_u2_ne (Or.inl (by decide))).trans ((z_u2_ne (Or.inl (by decide))).trans ((z_u2_ne (Or.inl (by decide))).trans (z_u2_same _ _ _ _))), (z_u2_ne (Or.inl (by decide))).trans ((z_u2_ne (Or.inl (by decide))).trans (z_u2_same _ _ _ _)), (z_u2_ne (Or.inl (by decide))).trans (z_u2_same _ _ _ _)⟩
  · have k_z := h_z.2.2 i_z (by omega)
    rw [if_neg e_z, if_neg e_z, if_neg e_z]
    exact ⟨(z_u2_ne (Or.inl (by decide))).trans ((z_u2_ne (Or.inl (by decide))).trans ((z_u2_ne (Or.inl (by decide))).trans ((z_u2_ne (Or.inr e_z)).trans k_z.1))), (z_u2_ne (Or.inl (by decide))).trans ((z_u2_ne (Or.inl (by decide))).trans ((z_u2_ne (Or.inr e_z)).trans ((z_u2_ne (Or.inl (by decide))).trans k_z.2.1))), (z_u2_ne (Or.inl (by decide))).trans ((z_u2_ne (Or.inr e_z)).trans ((z_u2_ne (Or.inl (by decide))).trans ((z_u2_ne (Or.inl (by decide))).trans k_z.2.2)))⟩
set_option maxHeartbeats 1000000 in
theorem c_X9_see {g_z : z_U} {d_z : Nat} {zS : z_S} {A_z : z_Ab} (hC : z_RC zS A_z) {s_z t_z v_z : Int32} : z_C g_z (d_z + 2) 0 0 mX9_see [.ref 4, .int s_z, .int t_z, .int v_z] zS (z_CP zS (z_see A_z s_z t_z v_z)) := by
  refine z_enter [some (.ref 4), some (.int s_z), some (.int t_z), some (.int v_z)] rfl rfl (Nat.le_of_ble_eq_true rfl) rfl (fun zX hM_z => ?_)
  have hB_z : z_B g_z zX RX9 cX9_see 4 := hM_z.1
  obtain ⟨hL, hV, hT_z, hU, hK_z, hS_z, hX⟩ := id hC
  have hn : z_I zS 7 9 = nI (z_AV A_z).2.1 := hV.2.1
  have hm_z : z_I zS 7 10 = nI (z_AV A_z).2.2.1 := hV.2.2.1
  have hn6 := hV.2.2.2.2.1
  have hm10 := hV.2.2.2.2.2
  have hz := hS_z.1
  have h8 := hS_z.2.1
  refine z_s 1 hB_z dX9_see_0 rfl rfl ?_
  refine z_s 2 hB_z dX9_see_1 rfl rfl ?_
  refine z_callV 5 hB_z hM_z.2.1 kX9_110 dX9_see_2 rfl (L4_z (zS := zS) hL) rfl (c_X9_isStaff (d_z := 0) hL hn) (by omega) rfl rfl (Nat.le_of_ble_eq_true rfl) ⟨Nat.le_refl _, Nat.le_refl _⟩ ?_
  rintro _ _ ⟨rfl, v1_z, rfl, hv1⟩
  refine z_b 8 18 hB_z dX9_see_5 rfl rfl (by decide) (fun c_5 => ?_) (fun c_5 => ?_)
  ·
    refine z_s 19 hB_z dX9_see_18 rfl rfl ?_
    refine z_iret hM_z dX9_see_19 rfl ?_ rfl rfl
    rcases hv1 with ⟨_, w1_z⟩ | ⟨w0_z, _⟩
    · exact z_CP.of hC (by unfold z_see; rw [if_neg (fun q_z => w1_z q_z.1)])
    · rw [w0_z] at c_5; exact absurd c_5 (by decide)
  ·
    rcases hv1 with ⟨w0_z, _⟩ | ⟨_, w1_z⟩
    · exact absurd w0_z c_5
    refine z_s 9 hB_z dX9_see_8 rfl rfl ?_
    refine z_b 12 18 hB_z dX9_see_9 rfl rfl (by decide) (fun c_9 => ?_) (fun c_9 => ?_)
    ·
      refine z_s 19 hB_z dX9_see_18 rfl rfl ?_
      refine z_iret hM_z dX9_see_19 rfl ?_ rfl rfl
      exact z_CP.of hC (by unfold z_see; rw [if_neg (fun q_z => z_nlt0 q_z.2.1 c_9)])
    ·
      refine z_s 13 hB_z dX9_see_12 rfl rfl ?_
      refine z_s 15 hB_z dX9_see_13 rfl rfl ?_
      refine z_b 18 20 hB_z dX9_see_15 rfl rfl (by decide) (fun c_15 => ?_) (fun c_15 => ?_)
      ·
        refine z_s 21 hB_z dX9_see_20 rfl rfl ?_
        refine z_getR 24 hB_z fX9_69 (L4_z (zS := zS) hL) dX9_see_21 rfl rfl (r4_9 (zS := zS) hL) ?_
        refine z_getI 27 hB_z fX9_256 (L91 (zS := zS) hL) dX9_see_24 rfl rfl ?_
        refine z_s 29 hB_z dX9_see_27 rfl rfl ?_
        refine z_b 32 35 hB_z dX9_see_29 rfl rfl (by decide) (fun c_29 => ?_) (fun c_29 => ?_)
        ·
          have hlt : (z_AS A_z).2.2.2 < 8 := (nI_ltI (by omega) (by decide)).mp (hz ▸ c_29)
          refine z_s 36 hB_z dX9_see_35 rfl rfl ?_
          refine z_getR 39 hB_z fX9_69 (L4_z (zS := zS) hL) dX9_see_36 rfl rfl (r4_9 (zS := zS) hL) ?_
          refine z_s 40 hB_z dX9_see_39 rfl rfl ?_
          refine z_s 41 hB_z dX9_see_40 rfl rfl ?_
          refine z_s 42 hB_z dX9_see_41 rfl rfl ?_
          refine z_callV 45 hB_z hM_z.2.1 kX9_257 dX9_see_42 rfl (L91 (zS := zS) hL) rfl (c_X6_add (d_z := 0) hL hz hlt) (by omega) rfl rfl (Nat.le_of_ble_eq_true rfl) ⟨Nat.le_refl _, Nat.le_refl _⟩ ?_
          rintro _ _ ⟨rfl, rfl⟩
          refine z_s 46 hB_z dX9_see_45 rfl rfl ?_
          refine z_getR 49 hB_z fX9_69 (L4_z (zS := zS) hL) dX9_see_46 rfl rfl (r4_9 (zS := zS) hL) ?_
          refine z_getI 52 hB_z fX9_256 (L91 (zS := zS) hL) dX9_see_49 rfl rfl ?_
          refine z_iret hM_z dX9_see_52 rfl ?_ rfl rfl
          unfold z_see
          rw [if_pos ⟨w1_z, c_9, c_15⟩, if_pos hlt, z_Ieq]
          have hf : z_fr (fun q_z => 91 ≤ q_z ∧ q_z < 98) (z_I zS) (z_u2 (z_u2 (z_u2 (z_u2 (z_I zS) 93 (z_AS A_z).2.2.2 s_z) 95 (z_AS A_z).2.2.2 t_z) 97 (z_AS A_z).2.2.2 (if v_z = 0 then 0 else 1)) 91 3 (nI ((z_AS A_z).2.2.2 + 1))) := (((z_fr.rf.u2 (by decide)).u2 (by decide)).u2 (by decide)).u2 (by decide)
          exact ⟨rfl, hC.ofS hf (z_rS_add hS_z hlt), z_kM.up hf (fun q_z hq => by omega)⟩
        ·
          refine z_s 34 hB_z dX9_see_32 rfl rfl ?_
          refine z_iret hM_z dX9_see_34 rfl ?_ rfl rfl
          exact z_CP.of hC (by unfold z_see; rw [if_pos ⟨w1_z, c_9, c_15⟩, if_neg (fun q_z => z_nlt0 c_29 (hz ▸ (nI_ltI (by omega) (by decide)).mpr q_z))])
      ·
        refine z_s 19 hB_z dX9_see_18 rfl rfl ?_
        refine z_iret hM_z dX9_see_19 rfl ?_ rfl rfl
        exact z_CP.of hC (by unfold z_see; rw [if_neg (fun q_z => z_nle0 c_15 q_z.2.2)])

theorem c_X6_clear {g_z : z_U} {d_z : Nat} {zS : z_S} (hL : z_L zS) : z_C g_z (d_z) 0 0 mX6_clear [.ref 91] zS (fun r_z zS' => r_z = none ∧ z_pI zS 91 3 0 = zS') := by
  refine z_enter [some (.ref 91)] rfl rfl (Nat.le_of_ble_eq_true rfl) rfl (fun zX hM_z => ?_)
  have hB_z : z_B g_z zX RX6 cX6_clear 1 := hM_z.1
  refine z_s 1 hB_z dX6_clear_0 rfl rfl ?_
  refine z_s 2 hB_z dX6_clear_1 rfl rfl ?_
  refine z_putI 5 hB_z fX6_26 (L91 (zS := zS) hL) dX6_clear_2 rfl rfl rfl ?_
  refine z_vret hM_z dX6_clear_5 rfl ?_ rfl rfl
  exact ⟨rfl, rfl⟩

theorem c_X9_forget {g_z : z_U} {d_z : Nat} {zS : z_S} {A_z : z_Ab} (hC : z_RC zS A_z) : z_C g_z (d_z + 1) 0 0 mX9_forget [.ref 4] zS (z_CP zS (z_forget A_z)) := by
  refine z_enter [some (.ref 4), none] rfl rfl (Nat.le_of_ble_eq_true rfl) rfl (fun zX hM_z => ?_)
  have hB_z : z_B g_z zX RX9 cX9_forget 2 := hM_z.1
  obtain ⟨hL, hV, hT_z, hU, hK_z, hS_z, hX⟩ := id hC
  have hn : z_I zS 7 9 = nI (z_AV A_z).2.1 := hV.2.1
  have hm_z : z_I zS 7 10 = nI (z_AV A_z).2.2.1 := hV.2.2.1
  have hn6 := hV.2.2.2.2.1
  have hm10 := hV.2.2.2.2.2
  refine z_s 1 hB_z dX9_forget_0 rfl rfl ?_
  refine z_getR 4 hB_z fX9_69 (L4_z (zS := zS) hL) dX9_forget_1 rfl rfl (r4_9 (zS := zS) hL) ?_
  refine z_getI 7 hB_z fX9_256 (L91 (zS := zS) hL) dX9_forget_4 rfl rfl ?_
  refine z_s 8 hB_z dX9_forget_7 rfl rfl ?_
  refine z_s 9 hB_z dX9_forget_8 rfl rfl ?_
  refine z_getR 12 hB_z fX9_69 (L4_z (zS := zS) hL) dX9_forget_9 rfl rfl (r4_9 (zS := zS) hL) ?_
  refine z_callV 15 hB_z hM_z.2.1 kX9_260 dX9_forget_12 rfl (L91 (zS := zS) hL) rfl (c_X6_clear (d_z := 0) hL) (by omega) rfl rfl (Nat.le_of_ble_eq_true rfl) ⟨Nat.le_refl _, Nat.le_refl _⟩ ?_
  rintro _ _ ⟨rfl, rfl⟩
  refine z_s 16 hB_z dX9_forget_15 rfl rfl ?_
  refine z_iret hM_z dX9_forget_16 rfl ?_ rfl rfl
  have hf : z_fr (fun q_z => 91 ≤ q_z ∧ q_z < 98) (z_I zS) (z_u2 (z_I zS) 91 3 0) := z_fr.rf.u2 (by decide)
  exact ⟨by rw [hS_z.1]; rfl, hC.ofS hf ⟨z_u2_same _ _ _ _, Nat.zero_le _, fun i_z hi_z => absurd hi_z (Nat.not_lt_zero i_z)⟩, z_kM.up hf (fun q_z hq => by omega)⟩

/-- the first of the nights from the n-th on (m are looked at) with a ham: how many; whose -/
def z_hm1 (zV : z_V) (zT : Nat → Int32) (n_z : Nat) : z_N := z_dayO zV (z_gob zV (n_z - 1) zT) (z_hasDog zV (z_gob zV (n_z - 1) zT 0))
def z_ham1 (zV : z_V) (zT : Nat → Int32) (what : Int32) : Nat → Nat → Int32
  | 0, _ => -4
  | m_z + 1, n_z => if 0 < (z_hm1 zV zT n_z).2.2.1 then (if what = 0 then nI n_z else (z_hm1 zV zT n_z).2.2.2.1) else z_ham1 zV zT what m_z (n_z + 1)
theorem z_ham1_step (zV : z_V) (zT : Nat → Int32) (what : Int32) {j_z : Nat} (hj : j_z < 28) : z_ham1 zV zT what (28 - j_z) (j_z + 1) = if 0 < (z_hm1 zV zT (j_z + 1)).2.2.1 then (if what = 0 then nI (j_z + 1) else (z_hm1 zV zT (j_z + 1)).2.2.2.1) else z_ham1 zV zT what (28 - (j_z + 1)) (j_z + 1 + 1) := by
  rw [show 28 - j_z = (28 - (j_z + 1)) + 1 by omega]; rfl
theorem z_scr7 : ∀ q_z : Nat, 7 ≤ q_z → q_z < 7 + 19 → ¬ z_scr q_z := fun q_z a_z b_z z_z => by
  unfold z_scr at z_z
  omega
def z_ansHam (A_z : z_Ab) (what : Int32) : Int32 := if 0 ≤ what ∧ what ≤ 1 then z_ham1 (z_AV A_z) (z_AT A_z) what 28 1 else -1
set_option maxHeartbeats 1000000 in
theorem c_X9_ham {g_z : z_U} {d_z : Nat} {zS : z_S} {A_z : z_Ab} (hC : z_RC zS A_z) {what : Int32} : z_C g_z (d_z + 5) 0 0 mX9_ham [.ref 4, .int what] zS (z_QP zS (z_ansHam A_z what)) := by
  refine z_enter [some (.ref 4), some (.int what), none] rfl rfl (Nat.le_of_ble_eq_true rfl) rfl (fun zX hM_z => ?_)
  have hB_z : z_B g_z zX RX9 cX9_ham 3 := hM_z.1
  obtain ⟨hL, hV, hT_z, hU, hK_z, hS_z, hX⟩ := id hC
  have hn : z_I zS 7 9 = nI (z_AV A_z).2.1 := hV.2.1
  have hm_z : z_I zS 7 10 = nI (z_AV A_z).2.2.1 := hV.2.2.1
  have hn6 := hV.2.2.2.2.1
  have hm10 := hV.2.2.2.2.2
  have loop := z_loop (fun j_z => ∀ I1, z_fr z_scr (z_I zS) I1 → z_rT I1 54 (z_gob (z_AV A_z) j_z (z_AT A_z)) → z_ansHam A_z what = z_ham1 (z_AV A_z) (z_AT A_z) what (28 - j_z) (j_z + 1) → z_W g_z zX 24 [some (.ref 4), some (.int what), some (.int (nI (j_z + 1)))] [] 0 0 (z_up zS I1)) 28 (fun j_z hj ih_z I1 hf hT1 hA => by
    refine z_s 25 hB_z dX9_ham_24 rfl rfl ?_
    refine z_s 27 hB_z dX9_ham_25 rfl rfl ?_
    refine z_b 30 71 hB_z dX9_ham_27 rfl rfl (by decide) (fun c_27 => ?_) (fun c_27 => ?_)
    ·
      have hj28 : j_z = 28 := by
        have := (nI_ltI (by decide) (by omega)).mp (show nI 28 < nI (j_z + 1) from c_27)
        omega
      refine z_s 73 hB_z dX9_ham_71 rfl rfl ?_
      refine z_iret hM_z dX9_ham_73 rfl ?_ rfl rfl
      refine ⟨by rw [hA, hj28]; rfl, I1, rfl, hf⟩
    ·
      have hjs : j_z < 28 := by
        have := (nI_leI (by omega) (by decide)).mp (show nI (j_z + 1) ≤ nI 28 from c_27)
        omega
      have est := z_ham1_step (z_AV A_z) (z_AT A_z) what hjs
      refine z_s 31 hB_z dX9_ham_30 rfl rfl ?_
      refine z_s 32 hB_z dX9_ham_31 rfl rfl ?_
      refine z_getR 35 hB_z fX9_51 (L4_z (zS := zS) hL) dX9_ham_32 rfl rfl (r4_6 (zS := zS) hL) ?_
      refine z_s 36 hB_z dX9_ham_35 rfl rfl ?_
      refine z_callV 39 hB_z hM_z.2.1 kX9_189 dX9_ham_36 rfl (L4_z (zS := zS) hL) rfl (c_X9_goBy (zS := z_up zS I1) (d_z := 0) hL (hV.fr hf z_scr7) (by decide) (s54 hL) hT1 (n_z := 1) (by decide)) (by omega) rfl rfl (Nat.le_of_ble_eq_true rfl) ⟨Nat.le_refl _, Nat.le_refl _⟩ ?_
      rintro _ _ ⟨rfl, I3, rfl, hf3, hT3, hl3⟩
      obtain ⟨w3_z, hN3⟩ := hl3 (by decide)
      have e5_z : z_I (z_up zS I3) 48 5 = (z_hm1 (z_AV A_z) (z_AT A_z) (j_z + 1)).2.2.1 := hN3.2.2.2.1
      have e6_z : z_I (z_up zS I3) 48 6 = (z_hm1 (z_AV A_z) (z_AT A_z) (j_z + 1)).2.2.2.1 := hN3.2.2.2.2.1
      refine z_s 40 hB_z dX9_ham_39 rfl rfl ?_
      refine z_getR 43 hB_z fX9_40 (L4_z (zS := zS) hL) dX9_ham_40 rfl rfl (r4_4 (zS := zS) hL) ?_
      refine z_getI 46 hB_z fX9_222 (L48 (zS := zS) hL) dX9_ham_43 rfl rfl ?_
      refine z_b 49 65 hB_z dX9_ham_46 rfl rfl (by decide) (fun c_46 => ?_) (fun c_46 => ?_)
      ·
        refine z_s 68 hB_z dX9_ham_65 rfl rfl ?_
        refine z_j 24 hB_z dX9_ham_68 (by decide) ?_
        rw [if_neg (fun q_z => z_nlt0 c_46 (show 0 < z_I (z_up zS I3) 48 5 by rw [e5_z]; exact q_z))] at est
        exact z_eq (ih_z hjs I3 (hf.tr (hf3.mono z_scrG)) hT3 (hA.trans est)) (by rw [← z_inc (j_z + 1)]; rfl) rfl rfl
      ·
        refine z_s 50 hB_z dX9_ham_49 rfl rfl ?_
        refine z_b 53 57 hB_z dX9_ham_50 rfl rfl (by decide) (fun c_50 => ?_) (fun c_50 => ?_)
        ·
          refine z_s 58 hB_z dX9_ham_57 rfl rfl ?_
          refine z_getR 61 hB_z fX9_40 (L4_z (zS := zS) hL) dX9_ham_58 rfl rfl (r4_4 (zS := zS) hL) ?_
          refine z_getI 64 hB_z fX9_223 (L48 (zS := zS) hL) dX9_ham_61 rfl rfl ?_
          refine z_iret hM_z dX9_ham_64 rfl ?_ rfl rfl
          have c46_z : 0 < (z_hm1 (z_AV A_z) (z_AT A_z) (j_z + 1)).2.2.1 := e5_z ▸ c_46
          rw [if_pos c46_z, if_neg c_50] at est
          exact ⟨by rw [hA, est]; exact congrArg (fun q_z => some (Value.int q_z)) e6_z, I3, rfl, hf.tr (hf3.mono z_scrG)⟩
        ·
          refine z_s 54 hB_z dX9_ham_53 rfl rfl ?_
          refine z_j 64 hB_z dX9_ham_54 (by decide) ?_
          refine z_iret hM_z dX9_ham_64 rfl ?_ rfl rfl
          have c46_z : 0 < (z_hm1 (z_AV A_z) (z_AT A_z) (j_z + 1)).2.2.1 := e5_z ▸ c_46
          rw [if_pos c46_z, if_pos c_50] at est
          exact ⟨by rw [hA, est], I3, rfl, hf.tr (hf3.mono z_scrG)⟩) 0 (Nat.zero_le 28)
  refine z_s 1 hB_z dX9_ham_0 rfl rfl ?_
  refine z_b 4 9 hB_z dX9_ham_1 rfl rfl (by decide) (fun c_1 => ?_) (fun c_1 => ?_)
  ·
    refine z_s 10 hB_z dX9_ham_9 rfl rfl ?_
    refine z_iret hM_z dX9_ham_10 rfl ?_ rfl rfl
    exact ⟨by unfold z_ansHam; rw [if_neg (fun q_z => z_nlt0 q_z.1 c_1)], z_I zS, rfl, z_fr.rf⟩
  ·
    refine z_s 5 hB_z dX9_ham_4 rfl rfl ?_
    refine z_s 6 hB_z dX9_ham_5 rfl rfl ?_
    refine z_b 9 11 hB_z dX9_ham_6 rfl rfl (by decide) (fun c_6 => ?_) (fun c_6 => ?_)
    ·
      refine z_s 12 hB_z dX9_ham_11 rfl rfl ?_
      refine z_getR 15 hB_z fX9_51 (L4_z (zS := zS) hL) dX9_ham_12 rfl rfl (r4_6 (zS := zS) hL) ?_
      refine z_s 16 hB_z dX9_ham_15 rfl rfl ?_
      refine z_getR 19 hB_z fX9_47 (L4_z (zS := zS) hL) dX9_ham_16 rfl rfl (r4_5 (zS := zS) hL) ?_
      refine z_callV 22 hB_z hM_z.2.1 kX9_210 dX9_ham_19 rfl (L54 (zS := zS) hL) rfl (c_X7_copy (d_z := 0) (s54 hL) (s51 hL) (by decide) (by decide)) (by omega) rfl rfl (Nat.le_of_ble_eq_true rfl) ⟨Nat.le_refl _, Nat.le_refl _⟩ ?_
      rintro _ _ ⟨rfl, I2_z, rfl, hf2, hT2⟩
      refine z_s 23 hB_z dX9_ham_22 rfl rfl ?_
      refine z_s 24 hB_z dX9_ham_23 rfl rfl ?_
      exact z_eq (loop I2_z (hf2.mono z_scrT) (hT2 _ hT_z) (by unfold z_ansHam; rw [if_pos ⟨c_1, c_6⟩])) rfl rfl rfl
    ·
      refine z_s 10 hB_z dX9_ham_9 rfl rfl ?_
      refine z_iret hM_z dX9_ham_10 rfl ?_ rfl rfl
      exact ⟨by unfold z_ansHam; rw [if_neg (fun q_z => z_nle0 c_6 q_z.2)], z_I zS, rfl, z_fr.rf⟩

