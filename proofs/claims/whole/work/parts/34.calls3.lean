/-! suppers, quarrels, the woken, undone, kept, seen -/
def z_putT (zT : Nat → Int32) (k_z : Nat) (v_z : Int32) : Nat → Int32 := fun i_z => if i_z = k_z then v_z else zT i_z
theorem z_rT.put5 {zI : Nat → Nat → Int32} {o k_z : Nat} {zT : Nat → Int32} {v_z : Int32} (h_z : z_rT zI o zT) (hk : k_z < 6) : z_rT (z_u2 zI o k_z v_z) o (z_putT zT k_z v_z) := by
  refine ⟨fun i_z hi_z => ?_, fun i_z hi_z => ?_⟩
  · unfold z_putT
    by_cases e_z : i_z = k_z
    · rw [e_z, z_u2_same, if_pos rfl]
    · rw [z_u2_ne (Or.inr e_z), if_neg e_z]; exact h_z.1 i_z hi_z
  · unfold z_putT
    rw [z_u2_ne (Or.inl (by omega)), if_neg (by omega)]; exact h_z.2 i_z hi_z
theorem z_rT.putA {zI : Nat → Nat → Int32} {o k_z : Nat} {zT : Nat → Int32} {v_z : Int32} (h_z : z_rT zI o zT) : z_rT (z_u2 zI (o + 2) k_z v_z) o (z_putT zT (6 + k_z) v_z) := by
  refine ⟨fun i_z hi_z => ?_, fun i_z hi_z => ?_⟩
  · unfold z_putT
    rw [z_u2_ne (Or.inl (by omega)), if_neg (by omega)]; exact h_z.1 i_z hi_z
  · unfold z_putT
    by_cases e_z : i_z = k_z
    · rw [e_z, z_u2_same, if_pos rfl]
    · rw [z_u2_ne (Or.inr e_z), if_neg (by omega)]; exact h_z.2 i_z hi_z
def z_supper (A_z : z_Ab) (s_z : Int32) : z_Ab × Int32 := if 0 ≤ s_z ∧ s_z < nI (z_AV A_z).2.1 then (if z_hb (z_AT A_z 5) s_z.toNatClampNeg = true then (A_z, -2) else (z_setT (z_setU A_z (z_push (z_AU A_z) (z_AT A_z) 8)) (z_putT (z_AT A_z) 5 (z_AT A_z 5 ||| (1 <<< (s_z &&& 31)))), z_bc (z_AT A_z 5 ||| (1 <<< (s_z &&& 31))))) else (A_z, -1)
def z_pr (a_z b_z : Nat) : Nat := if a_z < b_z then 6 * a_z + b_z else 6 * b_z + a_z
def z_settle (A_z : z_Ab) (a_z b_z : Int32) : z_Ab × Int32 := if (0 ≤ a_z ∧ a_z < nI (z_AV A_z).2.1) ∧ (0 ≤ b_z ∧ b_z < nI (z_AV A_z).2.1) ∧ a_z ≠ b_z then (if z_hb (z_AT A_z 4) (z_pr a_z.toNatClampNeg b_z.toNatClampNeg) = false ∧ 6 ≤ z_bc (z_AT A_z 4) then (A_z, -3) else (z_setT (z_setU A_z (z_push (z_AU A_z) (z_AT A_z) 8)) (z_putT (z_AT A_z) 4 (z_AT A_z 4 ^^^ (1 <<< (nI (z_pr a_z.toNatClampNeg b_z.toNatClampNeg) &&& 31)))), if z_hb (z_AT A_z 4 ^^^ (1 <<< (nI (z_pr a_z.toNatClampNeg b_z.toNatClampNeg) &&& 31))) (z_pr a_z.toNatClampNeg b_z.toNatClampNeg) = true then 1 else 0)) else (A_z, -1)
def z_lull (A_z : z_Ab) (s_z : Int32) : z_Ab × Int32 := if 0 ≤ s_z ∧ s_z < nI (z_AV A_z).2.1 then (if z_AT A_z (6 + s_z.toNatClampNeg) = 0 then (A_z, -2) else (z_setT (z_setU A_z (z_push (z_AU A_z) (z_AT A_z) 8)) (z_putT (z_AT A_z) (6 + s_z.toNatClampNeg) 0), z_AT A_z (6 + s_z.toNatClampNeg))) else (A_z, -1)
theorem c_pr {g_z : z_U} {d_z : Nat} {zS : z_S} {a_z b_z : Nat} (h_z : a_z ≠ b_z) (ha_z : a_z < 6) (hb_z : b_z < 6) : z_C g_z d_z 0 0 mX9_pair [.int (nI a_z), .int (nI b_z)] zS (fun r_z zS' => zS = zS' ∧ r_z = some (.int (nI (z_pr a_z b_z)))) := by
  have e_z := c_X9_pair (g_z := g_z) (zS := zS) (d_z := d_z) (a_z := nI a_z) (b_z := nI b_z)
  have e2_z : (if nI a_z < nI b_z then 6 * nI a_z + nI b_z else 6 * nI b_z + nI a_z) = nI (z_pr a_z b_z) := by
    have e3_z : ∀ a_z, a_z < 6 → ∀ b_z, b_z < 6 → 6 * nI a_z + nI b_z = nI (6 * a_z + b_z) := by decide +kernel
    unfold z_pr
    by_cases q_z : a_z < b_z
    · rw [if_pos q_z, if_pos ((nI_ltI (by omega) (by omega)).mpr q_z)]; exact e3_z a_z ha_z b_z hb_z
    · rw [if_neg q_z, if_neg (fun z_z => q_z ((nI_ltI (by omega) (by omega)).mp z_z))]; exact e3_z b_z hb_z a_z ha_z
  rw [e2_z] at e_z
  exact e_z
set_option maxHeartbeats 1000000 in
theorem c_X9_supper {g_z : z_U} {d_z : Nat} {zS : z_S} {A_z : z_Ab} (hC : z_RC zS A_z) {s_z : Int32} : z_C g_z (d_z + 4) 0 0 mX9_supper [.ref 4, .int s_z] zS (z_CP zS (z_supper A_z s_z)) := by
  refine z_enter [some (.ref 4), some (.int s_z)] rfl rfl (Nat.le_of_ble_eq_true rfl) rfl (fun zX hM_z => ?_)
  have hB_z : z_B g_z zX RX9 cX9_supper 2 := hM_z.1
  obtain ⟨hL, hV, hT_z, hU, hK_z, hS_z, hX⟩ := id hC
  have hn : z_I zS 7 9 = nI (z_AV A_z).2.1 := hV.2.1
  have hm_z : z_I zS 7 10 = nI (z_AV A_z).2.2.1 := hV.2.2.1
  have hn6 := hV.2.2.2.2.1
  have hm10 := hV.2.2.2.2.2
  refine z_s 1 hB_z dX9_supper_0 rfl rfl ?_
  refine z_s 2 hB_z dX9_supper_1 rfl rfl ?_
  refine z_callV 5 hB_z hM_z.2.1 kX9_110 dX9_supper_2 rfl (L4_z (zS := zS) hL) rfl (c_X9_isStaff (d_z := 0) hL hn) (by omega) rfl rfl (Nat.le_of_ble_eq_true rfl) ⟨Nat.le_refl _, Nat.le_refl _⟩ ?_
  rintro _ _ ⟨rfl, v1_z, rfl, hv1⟩
  refine z_b 8 10 hB_z dX9_supper_5 rfl rfl (by decide) (fun c_5 => ?_) (fun c_5 => ?_)
  ·
    rcases hv1 with ⟨w0_z, _⟩ | ⟨_, w1_z⟩
    · exact absurd w0_z c_5
    obtain ⟨j_z, hj, rfl⟩ := w1_z.of (by omega)
    refine z_s 11 hB_z dX9_supper_10 rfl rfl ?_
    refine z_getR 14 hB_z fX9_47 (L4_z (zS := zS) hL) dX9_supper_11 rfl rfl (r4_5 (zS := zS) hL) ?_
    refine z_getI 17 hB_z fX9_143 (L51 (zS := zS) hL) dX9_supper_14 rfl rfl ?_
    refine z_s 18 hB_z dX9_supper_17 rfl rfl ?_
    have e5_z : z_I zS 51 5 = z_AT A_z 5 := hT_z.1 5 (by decide)
    rw [e5_z]
    refine z_callS 21 hB_z hM_z.2.1 kX9_193 dX9_supper_18 rfl (c_has (d_z := 0)) (by omega) rfl rfl (Nat.le_of_ble_eq_true rfl) ⟨Nat.le_refl _, Nat.le_refl _⟩ ?_
    rintro _ _ ⟨rfl, rfl⟩
    refine z_b 24 27 hB_z dX9_supper_21 rfl rfl (by decide) (fun c_21 => ?_) (fun c_21 => ?_)
    ·
      refine z_s 28 hB_z dX9_supper_27 rfl rfl ?_
      refine z_getR 31 hB_z fX9_59 (L4_z (zS := zS) hL) dX9_supper_28 rfl rfl (r4_7 (zS := zS) hL) ?_
      refine z_s 32 hB_z dX9_supper_31 rfl rfl ?_
      refine z_getR 35 hB_z fX9_47 (L4_z (zS := zS) hL) dX9_supper_32 rfl rfl (r4_5 (zS := zS) hL) ?_
      refine z_callV 38 hB_z hM_z.2.1 kX9_185 dX9_supper_35 rfl (L57 (zS := zS) hL) rfl (c_X4_put (d_z := 0) hU (by decide) (by decide) (s51 hL) hT_z (by decide) (by decide) (by decide)) (by omega) rfl rfl (Nat.le_of_ble_eq_true rfl) ⟨Nat.le_refl _, Nat.le_refl _⟩ ?_
      rintro _ _ ⟨rfl, I1, R1, rfl, hf1, hR1, hsh1⟩
      obtain ⟨hC1, hkM1⟩ := hC.ofU (x_z := z_push (z_AU A_z) (z_AT A_z) 8) hf1 hR1 hsh1
      obtain ⟨hL1, hV1, hT1, hU1, hK1, hS1, hX1⟩ := id hC1
      have e6_z : z_I (z_w zS I1 R1) 51 5 = z_AT A_z 5 := hT1.1 5 (by decide)
      refine z_s 39 hB_z dX9_supper_38 rfl rfl ?_
      refine z_getR 42 hB_z fX9_47 (L4_z (zS := z_w zS I1 R1) hL1) dX9_supper_39 rfl rfl (r4_5 (zS := z_w zS I1 R1) hL1) ?_
      refine z_s 43 hB_z dX9_supper_42 rfl rfl ?_
      refine z_getI 46 hB_z fX9_143 (L51 (zS := z_w zS I1 R1) hL1) dX9_supper_43 rfl rfl ?_
      refine z_s 47 hB_z dX9_supper_46 rfl rfl ?_
      refine z_s 48 hB_z dX9_supper_47 rfl rfl ?_
      refine z_s 49 hB_z dX9_supper_48 rfl rfl ?_
      refine z_s 50 hB_z dX9_supper_49 rfl rfl ?_
      refine z_putI 53 hB_z fX9_143 (L51 (zS := z_w zS I1 R1) hL1) dX9_supper_50 rfl rfl rfl ?_
      refine z_s 54 hB_z dX9_supper_53 rfl rfl ?_
      refine z_getR 57 hB_z fX9_47 (L4_z (zS := z_w zS I1 R1) hL1) dX9_supper_54 rfl rfl (r4_5 (zS := z_w zS I1 R1) hL1) ?_
      refine z_getI 60 hB_z fX9_143 (L51 (zS := z_w zS I1 R1) hL1) dX9_supper_57 rfl rfl ?_
      rw [z_Ieq]
      refine z_callS 63 hB_z hM_z.2.1 kX9_196 dX9_supper_60 rfl (c_J6_bitCount_0f7a4 (d_z := 0)) (by omega) rfl rfl (Nat.le_of_ble_eq_true rfl) ⟨Nat.le_refl _, Nat.le_refl _⟩ ?_
      rintro _ _ ⟨rfl, rfl⟩
      refine z_iret hM_z dX9_supper_63 rfl ?_ rfl rfl
      unfold z_supper
      rw [if_pos w1_z, nI_clamp (by omega), if_neg (by rw [z_if0 c_21]; exact Bool.false_ne_true), e6_z]
      exact ⟨rfl, hC1.ofT (zI' := z_u2 I1 51 5 (z_AT A_z 5 ||| (1 <<< (nI j_z &&& 31)))) (z_fr.rf.u2 (Or.inr (Or.inl rfl))) (hT1.put5 (by decide)), hkM1.tr (z_kM.up (zS := z_w zS I1 R1) (P_z := fun q_z => q_z = 51) (z_fr.rf.u2 rfl) (fun q_z hq z_z => by omega))⟩
    ·
      refine z_s 26 hB_z dX9_supper_24 rfl rfl ?_
      refine z_iret hM_z dX9_supper_26 rfl ?_ rfl rfl
      exact z_CP.of hC (by unfold z_supper; rw [if_pos w1_z, nI_clamp (by omega), if_pos (z_if1 c_21)])
  ·
    refine z_s 9 hB_z dX9_supper_8 rfl rfl ?_
    refine z_iret hM_z dX9_supper_9 rfl ?_ rfl rfl
    rcases hv1 with ⟨_, w1_z⟩ | ⟨w0_z, _⟩
    · exact z_CP.of hC (by unfold z_supper; rw [if_neg w1_z])
    · rw [w0_z] at c_5; exact absurd c_5 (by decide)

set_option maxHeartbeats 1000000 in
theorem c_X9_lull {g_z : z_U} {d_z : Nat} {zS : z_S} {A_z : z_Ab} (hC : z_RC zS A_z) {s_z : Int32} : z_C g_z (d_z + 4) 0 0 mX9_lull [.ref 4, .int s_z] zS (z_CP zS (z_lull A_z s_z)) := by
  refine z_enter [some (.ref 4), some (.int s_z), none] rfl rfl (Nat.le_of_ble_eq_true rfl) rfl (fun zX hM_z => ?_)
  have hB_z : z_B g_z zX RX9 cX9_lull 3 := hM_z.1
  obtain ⟨hL, hV, hT_z, hU, hK_z, hS_z, hX⟩ := id hC
  have hn : z_I zS 7 9 = nI (z_AV A_z).2.1 := hV.2.1
  have hm_z : z_I zS 7 10 = nI (z_AV A_z).2.2.1 := hV.2.2.1
  have hn6 := hV.2.2.2.2.1
  have hm10 := hV.2.2.2.2.2
  refine z_s 1 hB_z dX9_lull_0 rfl rfl ?_
  refine z_s 2 hB_z dX9_lull_1 rfl rfl ?_
  refine z_callV 5 hB_z hM_z.2.1 kX9_110 dX9_lull_2 rfl (L4_z (zS := zS) hL) rfl (c_X9_isStaff (d_z := 0) hL hn) (by omega) rfl rfl (Nat.le_of_ble_eq_true rfl) ⟨Nat.le_refl _, Nat.le_refl _⟩ ?_
  rintro _ _ ⟨rfl, v1_z, rfl, hv1⟩
  refine z_b 8 10 hB_z dX9_lull_5 rfl rfl (by decide) (fun c_5 => ?_) (fun c_5 => ?_)
  ·
    rcases hv1 with ⟨w0_z, _⟩ | ⟨_, w1_z⟩
    · exact absurd w0_z c_5
    obtain ⟨j_z, hj, rfl⟩ := w1_z.of (by omega)
    refine z_s 11 hB_z dX9_lull_10 rfl rfl ?_
    refine z_getR 14 hB_z fX9_47 (L4_z (zS := zS) hL) dX9_lull_11 rfl rfl (r4_5 (zS := zS) hL) ?_
    refine z_getR 17 hB_z fX9_140 (L51 (zS := zS) hL) dX9_lull_14 rfl rfl (r51_6 (zS := zS) hL) ?_
    refine z_s 18 hB_z dX9_lull_17 rfl rfl ?_
    refine z_callV 21 hB_z hM_z.2.1 kX9_118 dX9_lull_18 rfl (L52 (zS := zS) hL) rfl (c_at (d_z := 0) (w52 hL) (by decide) (by omega)) (by omega) rfl rfl (Nat.le_of_ble_eq_true rfl) ⟨Nat.le_refl _, Nat.le_refl _⟩ ?_
    rintro _ _ ⟨rfl, rfl⟩
    have e5_z : z_I zS 53 j_z = z_AT A_z (6 + j_z) := hT_z.2 j_z (by omega)
    rw [e5_z]
    refine z_s 22 hB_z dX9_lull_21 rfl rfl ?_
    refine z_s 23 hB_z dX9_lull_22 rfl rfl ?_
    refine z_b 26 29 hB_z dX9_lull_23 rfl rfl (by decide) (fun c_23 => ?_) (fun c_23 => ?_)
    ·
      refine z_s 30 hB_z dX9_lull_29 rfl rfl ?_
      refine z_getR 33 hB_z fX9_59 (L4_z (zS := zS) hL) dX9_lull_30 rfl rfl (r4_7 (zS := zS) hL) ?_
      refine z_s 34 hB_z dX9_lull_33 rfl rfl ?_
      refine z_getR 37 hB_z fX9_47 (L4_z (zS := zS) hL) dX9_lull_34 rfl rfl (r4_5 (zS := zS) hL) ?_
      refine z_callV 40 hB_z hM_z.2.1 kX9_185 dX9_lull_37 rfl (L57 (zS := zS) hL) rfl (c_X4_put (d_z := 0) hU (by decide) (by decide) (s51 hL) hT_z (by decide) (by decide) (by decide)) (by omega) rfl rfl (Nat.le_of_ble_eq_true rfl) ⟨Nat.le_refl _, Nat.le_refl _⟩ ?_
      rintro _ _ ⟨rfl, I1, R1, rfl, hf1, hR1, hsh1⟩
      obtain ⟨hC1, hkM1⟩ := hC.ofU (x_z := z_push (z_AU A_z) (z_AT A_z) 8) hf1 hR1 hsh1
      obtain ⟨hL1, hV1, hT1, hU1, hK1, hS1, hX1⟩ := id hC1
      refine z_s 41 hB_z dX9_lull_40 rfl rfl ?_
      refine z_getR 44 hB_z fX9_47 (L4_z (zS := z_w zS I1 R1) hL1) dX9_lull_41 rfl rfl (r4_5 (zS := z_w zS I1 R1) hL1) ?_
      refine z_getR 47 hB_z fX9_140 (L51 (zS := z_w zS I1 R1) hL1) dX9_lull_44 rfl rfl (r51_6 (zS := z_w zS I1 R1) hL1) ?_
      refine z_s 48 hB_z dX9_lull_47 rfl rfl ?_
      refine z_s 49 hB_z dX9_lull_48 rfl rfl ?_
      refine z_callV 52 hB_z hM_z.2.1 kX9_201 dX9_lull_49 rfl (L52 (zS := z_w zS I1 R1) hL1) rfl (c_put (zS := z_w zS I1 R1) (d_z := 0) (w52 hL1) (by decide) (by omega)) (by omega) rfl rfl (Nat.le_of_ble_eq_true rfl) ⟨Nat.le_refl _, Nat.le_refl _⟩ ?_
      rintro _ _ ⟨rfl, rfl⟩
      refine z_s 53 hB_z dX9_lull_52 rfl rfl ?_
      refine z_iret hM_z dX9_lull_53 rfl ?_ rfl rfl
      unfold z_lull
      rw [if_pos w1_z, nI_clamp (by omega), if_neg c_23]
      exact ⟨rfl, hC1.ofT (zI' := z_u2 I1 53 j_z 0) (z_fr.rf.u2 (Or.inr (Or.inr rfl))) (z_rT.putA (o := 51) hT1), hkM1.tr (z_kM.up (zS := z_w zS I1 R1) (P_z := fun q_z => q_z = 53) (z_fr.rf.u2 rfl) (fun q_z hq z_z => by omega))⟩
    ·
      refine z_s 28 hB_z dX9_lull_26 rfl rfl ?_
      refine z_iret hM_z dX9_lull_28 rfl ?_ rfl rfl
      exact z_CP.of hC (by unfold z_lull; rw [if_pos w1_z, nI_clamp (by omega), if_pos c_23])
  ·
    refine z_s 9 hB_z dX9_lull_8 rfl rfl ?_
    refine z_iret hM_z dX9_lull_9 rfl ?_ rfl rfl
    rcases hv1 with ⟨_, w1_z⟩ | ⟨w0_z, _⟩
    · exact z_CP.of hC (by unfold z_lull; rw [if_neg w1_z])
    · rw [w0_z] at c_5; exact absurd c_5 (by decide)

set_option maxHeartbeats 1000000 in
theorem c_X9_settle {g_z : z_U} {d_z : Nat} {zS : z_S} {A_z : z_Ab} (hC : z_RC zS A_z) {a_z b_z : Int32} : z_C g_z (d_z + 4) 0 0 mX9_settle [.ref 4, .int a_z, .int b_z] zS (z_CP zS (z_settle A_z a_z b_z)) := by
  refine z_enter [some (.ref 4), some (.int a_z), some (.int b_z), none] rfl rfl (Nat.le_of_ble_eq_true rfl) rfl (fun zX hM_z => ?_)
  have hB_z : z_B g_z zX RX9 cX9_settle 4 := hM_z.1
  obtain ⟨hL, hV, hT_z, hU, hK_z, hS_z, hX⟩ := id hC
  have hn : z_I zS 7 9 = nI (z_AV A_z).2.1 := hV.2.1
  have hm_z : z_I zS 7 10 = nI (z_AV A_z).2.2.1 := hV.2.2.1
  have hn6 := hV.2.2.2.2.1
  have hm10 := hV.2.2.2.2.2
  refine z_s 1 hB_z dX9_settle_0 rfl rfl ?_
  refine z_s 2 hB_z dX9_settle_1 rfl rfl ?_
  refine z_s 3 hB_z dX9_settle_2 rfl rfl ?_
  refine z_callV 6 hB_z hM_z.2.1 kX9_170 dX9_settle_3 rfl (L4_z (zS := zS) hL) rfl (c_X9_areTwoStaff (d_z := 0) hL hn) (by omega) rfl rfl (Nat.le_of_ble_eq_true rfl) ⟨Nat.le_refl _, Nat.le_refl _⟩ ?_
  rintro _ _ ⟨rfl, v1_z, rfl, hv1⟩
  refine z_b 9 11 hB_z dX9_settle_6 rfl rfl (by decide) (fun c_6 => ?_) (fun c_6 => ?_)
  ·
    rcases hv1 with ⟨w0_z, _⟩ | ⟨_, w1_z, w2_z, w3_z⟩
    · exact absurd w0_z c_6
    obtain ⟨i_z, hi_z, rfl⟩ := w1_z.of (by omega)
    obtain ⟨j_z, hj, rfl⟩ := w2_z.of (by omega)
    have hij : i_z ≠ j_z := fun q_z => w3_z (by rw [q_z])
    have hp31 : z_pr i_z j_z < 31 := by unfold z_pr; split <;> omega
    have e4_z : z_I zS 51 4 = z_AT A_z 4 := hT_z.1 4 (by decide)
    refine z_s 12 hB_z dX9_settle_11 rfl rfl ?_
    refine z_s 13 hB_z dX9_settle_12 rfl rfl ?_
    refine z_callS 16 hB_z hM_z.2.1 kX9_176 dX9_settle_13 rfl (c_pr (d_z := 0) hij (by omega) (by omega)) (by omega) rfl rfl (Nat.le_of_ble_eq_true rfl) ⟨Nat.le_refl _, Nat.le_refl _⟩ ?_
    rintro _ _ ⟨rfl, rfl⟩
    refine z_s 17 hB_z dX9_settle_16 rfl rfl ?_
    refine z_s 18 hB_z dX9_settle_17 rfl rfl ?_
    refine z_getR 21 hB_z fX9_47 (L4_z (zS := zS) hL) dX9_settle_18 rfl rfl (r4_5 (zS := zS) hL) ?_
    refine z_getI 24 hB_z fX9_173 (L51 (zS := zS) hL) dX9_settle_21 rfl rfl ?_
    refine z_s 25 hB_z dX9_settle_24 rfl rfl ?_
    rw [e4_z]
    refine z_callS 28 hB_z hM_z.2.1 kX9_193 dX9_settle_25 rfl (c_has (d_z := 0)) (by omega) rfl rfl (Nat.le_of_ble_eq_true rfl) ⟨Nat.le_refl _, Nat.le_refl _⟩ ?_
    rintro _ _ ⟨rfl, rfl⟩
    refine z_b 31 49 hB_z dX9_settle_28 rfl rfl (by decide) (fun c_28 => ?_) (fun c_28 => ?_)
    ·
      refine z_s 50 hB_z dX9_settle_49 rfl rfl ?_
      refine z_getR 53 hB_z fX9_59 (L4_z (zS := zS) hL) dX9_settle_50 rfl rfl (r4_7 (zS := zS) hL) ?_
      refine z_s 54 hB_z dX9_settle_53 rfl rfl ?_
      refine z_getR 57 hB_z fX9_47 (L4_z (zS := zS) hL) dX9_settle_54 rfl rfl (r4_5 (zS := zS) hL) ?_
      refine z_callV 60 hB_z hM_z.2.1 kX9_185 dX9_settle_57 rfl (L57 (zS := zS) hL) rfl (c_X4_put (d_z := 0) hU (by decide) (by decide) (s51 hL) hT_z (by decide) (by decide) (by decide)) (by omega) rfl rfl (Nat.le_of_ble_eq_true rfl) ⟨Nat.le_refl _, Nat.le_refl _⟩ ?_
      rintro _ _ ⟨rfl, I1, R1, rfl, hf1, hR1, hsh1⟩
      obtain ⟨hC1, hkM1⟩ := hC.ofU (x_z := z_push (z_AU A_z) (z_AT A_z) 8) hf1 hR1 hsh1
      obtain ⟨hL1, hV1, hT1, hU1, hK1, hS1, hX1⟩ := id hC1
      have e6_z : z_I (z_w zS I1 R1) 51 4 = z_AT A_z 4 := hT1.1 4 (by decide)
      have hno : ¬ (z_hb (z_AT A_z 4) (z_pr i_z j_z) = false ∧ 6 ≤ z_bc (z_AT A_z 4)) := fun q_z => by rw [z_if1 c_28] at q_z; exact Bool.noConfusion q_z.1
      refine z_s 61 hB_z dX9_settle_60 rfl rfl ?_
      refine z_getR 64 hB_z fX9_47 (L4_z (zS := z_w zS I1 R1) hL1) dX9_settle_61 rfl rfl (r4_5 (zS := z_w zS I1 R1) hL1) ?_
      refine z_s 65 hB_z dX9_settle_64 rfl rfl ?_
      refine z_getI 68 hB_z fX9_173 (L51 (zS := z_w zS I1 R1) hL1) dX9_settle_65 rfl rfl ?_
      refine z_s 69 hB_z dX9_settle_68 rfl rfl ?_
      refine z_s 70 hB_z dX9_settle_69 rfl rfl ?_
      refine z_s 71 hB_z dX9_settle_70 rfl rfl ?_
      refine z_s 72 hB_z dX9_settle_71 rfl rfl ?_
      refine z_putI 75 hB_z fX9_173 (L51 (zS := z_w zS I1 R1) hL1) dX9_settle_72 rfl rfl rfl ?_
      refine z_s 76 hB_z dX9_settle_75 rfl rfl ?_
      refine z_getR 79 hB_z fX9_47 (L4_z (zS := z_w zS I1 R1) hL1) dX9_settle_76 rfl rfl (r4_5 (zS := z_w zS I1 R1) hL1) ?_
      refine z_getI 82 hB_z fX9_173 (L51 (zS := z_w zS I1 R1) hL1) dX9_settle_79 rfl rfl ?_
      refine z_s 83 hB_z dX9_settle_82 rfl rfl ?_
      rw [z_Ieq, e6_z]
      refine z_callS 86 hB_z hM_z.2.1 kX9_136 dX9_settle_83 rfl (c_bit (d_z := 0)) (by omega) rfl rfl (Nat.le_of_ble_eq_true rfl) ⟨Nat.le_refl _, Nat.le_refl _⟩ ?_
      rintro _ _ ⟨rfl, rfl⟩
      refine z_iret hM_z dX9_settle_86 rfl ?_ rfl rfl
      unfold z_settle
      rw [if_pos ⟨w1_z, w2_z, w3_z⟩, nI_clamp (by omega), nI_clamp (by omega), if_neg hno]
      exact ⟨rfl, hC1.ofT (zI' := z_u2 I1 51 4 (z_AT A_z 4 ^^^ (1 <<< (nI (z_pr i_z j_z) &&& 31)))) (z_fr.rf.u2 (Or.inr (Or.inl rfl))) (hT1.put5 (by decide)), hkM1.tr (z_kM.up (zS := z_w zS I1 R1) (P_z := fun q_z => q_z = 51) (z_fr.rf.u2 rfl) (fun q_z hq z_z => by omega))⟩
    ·
      refine z_s 32 hB_z dX9_settle_31 rfl rfl ?_
      refine z_getR 35 hB_z fX9_47 (L4_z (zS := zS) hL) dX9_settle_32 rfl rfl (r4_5 (zS := zS) hL) ?_
      refine z_getI 38 hB_z fX9_173 (L51 (zS := zS) hL) dX9_settle_35 rfl rfl ?_
      rw [e4_z]
      refine z_callS 41 hB_z hM_z.2.1 kX9_196 dX9_settle_38 rfl (c_J6_bitCount_0f7a4 (d_z := 0)) (by omega) rfl rfl (Nat.le_of_ble_eq_true rfl) ⟨Nat.le_refl _, Nat.le_refl _⟩ ?_
      rintro _ _ ⟨rfl, rfl⟩
      refine z_s 43 hB_z dX9_settle_41 rfl rfl ?_
      refine z_b 46 49 hB_z dX9_settle_43 rfl rfl (by decide) (fun c_43 => ?_) (fun c_43 => ?_)
      ·
        refine z_s 50 hB_z dX9_settle_49 rfl rfl ?_
        refine z_getR 53 hB_z fX9_59 (L4_z (zS := zS) hL) dX9_settle_50 rfl rfl (r4_7 (zS := zS) hL) ?_
        refine z_s 54 hB_z dX9_settle_53 rfl rfl ?_
        refine z_getR 57 hB_z fX9_47 (L4_z (zS := zS) hL) dX9_settle_54 rfl rfl (r4_5 (zS := zS) hL) ?_
        refine z_callV 60 hB_z hM_z.2.1 kX9_185 dX9_settle_57 rfl (L57 (zS := zS) hL) rfl (c_X4_put (d_z := 0) hU (by decide) (by decide) (s51 hL) hT_z (by decide) (by decide) (by decide)) (by omega) rfl rfl (Nat.le_of_ble_eq_true rfl) ⟨Nat.le_refl _, Nat.le_refl _⟩ ?_
        rintro _ _ ⟨rfl, I1, R1, rfl, hf1, hR1, hsh1⟩
        obtain ⟨hC1, hkM1⟩ := hC.ofU (x_z := z_push (z_AU A_z) (z_AT A_z) 8) hf1 hR1 hsh1
        obtain ⟨hL1, hV1, hT1, hU1, hK1, hS1, hX1⟩ := id hC1
        have e6_z : z_I (z_w zS I1 R1) 51 4 = z_AT A_z 4 := hT1.1 4 (by decide)
        have hno : ¬ (z_hb (z_AT A_z 4) (z_pr i_z j_z) = false ∧ 6 ≤ z_bc (z_AT A_z 4)) := fun q_z => z_nle0 c_43 q_z.2
        refine z_s 61 hB_z dX9_settle_60 rfl rfl ?_
        refine z_getR 64 hB_z fX9_47 (L4_z (zS := z_w zS I1 R1) hL1) dX9_settle_61 rfl rfl (r4_5 (zS := z_w zS I1 R1) hL1) ?_
        refine z_s 65 hB_z dX9_settle_64 rfl rfl ?_
        refine z_getI 68 hB_z fX9_173 (L51 (zS := z_w zS I1 R1) hL1) dX9_settle_65 rfl rfl ?_
        refine z_s 69 hB_z dX9_settle_68 rfl rfl ?_
        refine z_s 70 hB_z dX9_settle_69 rfl rfl ?_
        refine z_s 71 hB_z dX9_settle_70 rfl rfl ?_
        refine z_s 72 hB_z dX9_settle_71 rfl rfl ?_
        refine z_putI 75 hB_z fX9_173 (L51 (zS := z_w zS I1 R1) hL1) dX9_settle_72 rfl rfl rfl ?_
        refine z_s 76 hB_z dX9_settle_75 rfl rfl ?_
        refine z_getR 79 hB_z fX9_47 (L4_z (zS := z_w zS I1 R1) hL1) dX9_settle_76 rfl rfl (r4_5 (zS := z_w zS I1 R1) hL1) ?_
        refine z_getI 82 hB_z fX9_173 (L51 (zS := z_w zS I1 R1) hL1) dX9_settle_79 rfl rfl ?_
        refine z_s 83 hB_z dX9_settle_82 rfl rfl ?_
        rw [z_Ieq, e6_z]
        refine z_callS 86 hB_z hM_z.2.1 kX9_136 dX9_settle_83 rfl (c_bit (d_z := 0)) (by omega) rfl rfl (Nat.le_of_ble_eq_true rfl) ⟨Nat.le_refl _, Nat.le_refl _⟩ ?_
        rintro _ _ ⟨rfl, rfl⟩
        refine z_iret hM_z dX9_settle_86 rfl ?_ rfl rfl
        unfold z_settle
        rw [if_pos ⟨w1_z, w2_z, w3_z⟩, nI_clamp (by omega), nI_clamp (by omega), if_neg hno]
        exact ⟨rfl, hC1.ofT (zI' := z_u2 I1 51 4 (z_AT A_z 4 ^^^ (1 <<< (nI (z_pr i_z j_z) &&& 31)))) (z_fr.rf.u2 (Or.inr (Or.inl rfl))) (hT1.put5 (by decide)), hkM1.tr (z_kM.up (zS := z_w zS I1 R1) (P_z := fun q_z => q_z = 51) (z_fr.rf.u2 rfl) (fun q_z hq z_z => by omega))⟩
      ·
        refine z_s 48 hB_z dX9_settle_46 rfl rfl ?_
        refine z_iret hM_z dX9_settle_48 rfl ?_ rfl rfl
        exact z_CP.of hC (by unfold z_settle; rw [if_pos ⟨w1_z, w2_z, w3_z⟩, nI_clamp (by omega), nI_clamp (by omega), if_pos ⟨z_if0 c_28, c_43⟩])
  ·
    refine z_s 10 hB_z dX9_settle_9 rfl rfl ?_
    refine z_iret hM_z dX9_settle_10 rfl ?_ rfl rfl
    rcases hv1 with ⟨_, w1_z⟩ | ⟨w0_z, _⟩
    · exact z_CP.of hC (by unfold z_settle; rw [if_neg w1_z])
    · rw [w0_z] at c_6; exact absurd c_6 (by decide)

