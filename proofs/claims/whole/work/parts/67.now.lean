/-! the model: states as they can be; settle; this night; nights that go by -/
def z_OA (zT : Nat → Int32) : Prop := ∀ k_z, k_z < 6 → ∃ a_z, a_z < 4 ∧ zT (6 + k_z) = nI a_z
def z_OT (zT : Nat → Int32) : Prop := z_OA zT ∧ z_OQ (zT 4) ∧ z_qn (zT 4) ≤ 6 ∧ ∃ w_z, w_z < 64 ∧ zT 5 = nI w_z
theorem z_cl3 : ∀ a_z, a_z < 4 → ∃ b_z, b_z < 4 ∧ (if nI a_z - 1 < 0 then (0 : Int32) else nI a_z - 1) = nI b_z := by decide +kernel
theorem z_OA.nx {zV : z_V} {zT : Nat → Int32} {dog : Bool} (h_z : z_OA zT) : z_OA (z_nx1 zV zT dog) := by
  intro k_z hk
  obtain ⟨a_z, ha_z, e_z⟩ := h_z k_z hk
  unfold z_nx1
  by_cases q_z : k_z < zV.2.1
  · rw [z_cls1_aw q_z]
    by_cases z_z : z_hb (z_dayO zV zT dog).1 k_z = true
    · rw [if_pos z_z]; exact ⟨3, by decide, rfl⟩
    · rw [if_neg z_z, e_z]; exact z_cl3 a_z ha_z
  · unfold z_cls1
    rw [if_neg (by omega), if_neg (by omega), if_neg (by omega), if_neg (by omega), if_neg (by omega), if_neg (by omega), if_neg (by omega)]
    exact ⟨a_z, ha_z, e_z⟩
theorem z_nx1_4 (zV : z_V) (zT : Nat → Int32) (dog : Bool) : z_nx1 zV zT dog 4 = zT 4 := rfl
theorem z_nx1_5 (zV : z_V) (zT : Nat → Int32) (dog : Bool) : z_nx1 zV zT dog 5 = 0 := rfl
theorem z_OT.nx {zV : z_V} {zT : Nat → Int32} {dog : Bool} (h_z : z_OT zT) : z_OT (z_nx1 zV zT dog) :=
  ⟨h_z.1.nx, by rw [z_nx1_4]; exact h_z.2.1, by rw [z_nx1_4]; exact h_z.2.2.1, 0, by decide, z_nx1_5 zV zT dog⟩
theorem z_OA.gob {zV : z_V} {zT : Nat → Int32} (h_z : z_OA zT) : ∀ n_z, z_OA (z_gob zV n_z zT)
  | 0 => h_z
  | n_z + 1 => (z_OA.gob h_z n_z).nx
theorem z_OT.gob {zV : z_V} {zT : Nat → Int32} (h_z : z_OT zT) : ∀ n_z, z_OT (z_gob zV n_z zT)
  | 0 => h_z
  | n_z + 1 => (z_OT.gob h_z n_z).nx
theorem z_OA.put {zT : Nat → Int32} (h_z : z_OA zT) {k_z : Nat} (hk : k_z < 6) {v_z : Int32} : z_OA (z_putT zT k_z v_z) := fun j_z hj => by
  obtain ⟨a_z, ha_z, e_z⟩ := h_z j_z hj
  exact ⟨a_z, ha_z, (if_neg (by omega)).trans e_z⟩
theorem z_OA.to {zT : Nat → Int32} (h_z : z_OA zT) {n_z : Nat} (hn : n_z ≤ 6) : ∀ k_z, k_z < n_z → ∃ a_z, a_z < 4 ∧ zT (6 + k_z) = nI a_z := fun k_z hk => h_z k_z (by omega)
theorem z_PLN_sc : ∀ q_z k_z, z_PLN q_z k_z → z_scM q_z k_z := fun q_z k_z h_z => by
  unfold z_PLN at h_z
  unfold z_scM
  omega
theorem z_PGM_sc : ∀ q_z k_z, z_PGM 107 q_z k_z → z_scM q_z k_z := fun q_z k_z h_z => by
  rcases h_z with h_z | h_z
  · exact z_PLN_sc q_z k_z h_z
  · unfold z_scM
    omega
theorem z_MQ.ok {zS : z_S} {x_z y_z : Int32} {zI' : Nat → Nat → Int32} (h_z : x_z = y_z) (hf : z_f2 z_scM (z_I zS) zI') : z_MQ zS y_z (some (.int x_z)) (z_up zS zI') := by
  subst h_z
  exact ⟨rfl, zI', rfl, hf⟩
theorem z_MQ.rf {zS : z_S} {x_z y_z : Int32} (h_z : x_z = y_z) : z_MQ zS y_z (some (.int x_z)) zS := z_MQ.ok h_z z_f2.rf
theorem z_sh1 (x_z : Int32) (i_z : Nat) : x_z >>> (nI i_z &&& 31) &&& 1 = if z_hb x_z i_z = true then 1 else 0 := by
  unfold z_hb
  rcases z_bit01 (x_z >>> (nI i_z &&& 31)) with e_z | e_z
  · rw [e_z]; rfl
  · rw [e_z]; rfl
theorem z_u25 {zI : Nat → Nat → Int32} {v_z : Int32} : z_f2 z_scM zI (z_u2 zI 99 25 v_z) := z_f2.rf.u2 (by unfold z_scM; omega)
theorem z_f25 {v_z : Int32} {zI zI' : Nat → Nat → Int32} (h_z : z_f2 z_scM (z_u2 zI 99 25 v_z) zI') : z_f2 z_scM zI zI' := z_f2.tr z_u25 h_z
theorem c_X10_layNow {g_z : z_U} {d_z : Nat} {zS : z_S} {A_z : z_Ab} (hN_z : z_LM zS) (hR : z_RM (z_I zS) A_z) (hO : z_OV (z_AV A_z)) : z_C g_z (d_z + 3) 0 0 mX10_layNow [.ref 99] zS (fun r_z zS' => r_z = none ∧ ∃ zI', z_up zS zI' = zS' ∧ z_f2 z_scM (z_I zS) zI' ∧ zI' 99 23 = z_wlk (z_AV A_z) (z_AT A_z) (z_hasDog (z_AV A_z) (z_AT A_z 0)) ∧ zI' 99 24 = (z_dayO (z_AV A_z) (z_AT A_z) (z_hasDog (z_AV A_z) (z_AT A_z 0))).1 ∧ ∀ q_z, q_z < (z_AV A_z).2.2.1 → zI' 111 q_z = (z_dayO (z_AV A_z) (z_AT A_z) (z_hasDog (z_AV A_z) (z_AT A_z 0))).2.2.2.2.2.2 q_z) := by
  refine z_enter [some (.ref 99)] rfl rfl (Nat.le_of_ble_eq_true rfl) rfl (fun zX hM_z => ?_)
  have hB_z : z_B g_z zX RX10 cX10_layNow 1 := hM_z.1
  have hR1 := hR.scr (z_u25 (v_z := -4))
  have hm10 := hO.2.2.1
  refine z_s 1 hB_z dX10_layNow_0 rfl rfl ?_
  refine z_s 3 hB_z dX10_layNow_1 rfl rfl ?_
  refine z_putI 6 hB_z fX10_139 (N99 (zS := zS) hN_z) dX10_layNow_3 rfl rfl rfl ?_
  refine z_s 7 hB_z dX10_layNow_6 rfl rfl ?_
  refine z_s 8 hB_z dX10_layNow_7 rfl rfl ?_
  refine z_getR 11 hB_z fX10_28 (N99 (zS := zS) hN_z) dX10_layNow_8 rfl rfl (n99_15 (zS := zS) hN_z) ?_
  refine z_s 13 hB_z dX10_layNow_11 rfl rfl ?_
  refine z_s 14 hB_z dX10_layNow_13 rfl rfl ?_
  refine z_callV 17 hB_z hM_z.2.1 kX10_170 dX10_layNow_14 rfl (N99 (zS := zS) hN_z) rfl (c_X10_layNight (zS := z_pI zS 99 25 (-4)) (d_z := 0) hN_z hO hR1.mv (db := -4) z_Ieq (N106 hN_z) (Or.inl rfl) hR1.nw (dog := z_hasDog (z_AV A_z) (z_AT A_z 0)) (if_pos rfl)) (by omega) rfl rfl (Nat.le_of_ble_eq_true rfl) ⟨Nat.le_refl _, Nat.le_refl _⟩ ?_
  rintro _ _ ⟨rfl, I1, rfl, hf1, hw1, hD1⟩
  refine z_vret hM_z dX10_layNow_17 rfl ?_ rfl rfl
  obtain ⟨m1_z, m2_z, m3_z, m4_z, m5_z, m6_z, -⟩ := z_mn_day (z_AV A_z) (z_AT A_z 0) (z_wkd (z_AV A_z) (z_AT A_z) (z_hasDog (z_AV A_z) (z_AT A_z 0)) (z_AV A_z).2.1) 0 (z_AV A_z).2.2.1 hm10
  exact ⟨rfl, I1, rfl, z_f25 (hf1.mono z_PLN_sc), hw1, hD1.1.trans m1_z, fun q_z hq => (hD1.2.2.2.2 q_z hq).trans (m5_z q_z hq)⟩

theorem c_X10_woken {g_z : z_U} {d_z : Nat} {zS : z_S} {A_z : z_Ab} (hN_z : z_LM zS) (hR : z_RM (z_I zS) A_z) (hO : z_OV (z_AV A_z)) : z_C g_z (d_z + 4) 0 0 mX10_woken [.ref 99] zS (z_MQ zS ((z_dayO (z_AV A_z) (z_AT A_z) (z_hasDog (z_AV A_z) (z_AT A_z 0))).1)) := by
  refine z_enter [some (.ref 99)] rfl rfl (Nat.le_of_ble_eq_true rfl) rfl (fun zX hM_z => ?_)
  have hB_z : z_B g_z zX RX10 cX10_woken 1 := hM_z.1
  refine z_s 1 hB_z dX10_woken_0 rfl rfl ?_
  refine z_callV 4 hB_z hM_z.2.1 kX10_174 dX10_woken_1 rfl (N99 (zS := zS) hN_z) rfl (c_X10_layNow (d_z := 0) hN_z hR hO) (by omega) rfl rfl (Nat.le_of_ble_eq_true rfl) ⟨Nat.le_refl _, Nat.le_refl _⟩ ?_
  rintro _ _ ⟨rfl, I1, rfl, hf1, hw1, h24, hby⟩
  refine z_s 5 hB_z dX10_woken_4 rfl rfl ?_
  refine z_getI 8 hB_z fX10_152 (N99 (zS := zS) hN_z) dX10_woken_5 rfl rfl ?_
  rw [show z_I (z_up zS I1) 99 24 = _ from h24]
  refine z_iret hM_z dX10_woken_8 rfl ?_ rfl rfl
  exact z_MQ.ok rfl hf1

theorem z_stf {A_z : z_Ab} {s_z : Nat} (hs : z_in (nI s_z) (z_AV A_z).2.1) (h6 : s_z < 6) {j_z : Nat} (hj : j_z ≤ 6) : z_ansStaff A_z (nI s_z) (nI j_z) = if j_z < 4 then (z_AV A_z).1 j_z s_z else if j_z = 4 then (if z_hb (z_wlk (z_AV A_z) (z_AT A_z) (z_hasDog (z_AV A_z) (z_AT A_z 0))) s_z = true then 1 else 0) else if j_z = 5 then z_AT A_z (6 + s_z) else (if z_hb (z_AT A_z 5) s_z = true then 1 else 0) := by
  unfold z_ansStaff
  rw [if_pos ⟨hs, nI_pos' (by omega), (nI_leI (by omega) (by decide)).mpr hj⟩, nI_clamp (by omega)]
  rcases (show j_z = 0 ∨ j_z = 1 ∨ j_z = 2 ∨ j_z = 3 ∨ j_z = 4 ∨ j_z = 5 ∨ j_z = 6 by omega) with rfl | rfl | rfl | rfl | rfl | rfl | rfl
  · rw [if_pos (show nI 0 = 0 from rfl), if_pos (show 0 < 4 by decide)]
  · rw [if_neg (show ¬ nI 1 = 0 by decide), if_pos (show nI 1 = 1 from rfl), if_pos (show 1 < 4 by decide)]
  · rw [if_neg (show ¬ nI 2 = 0 by decide), if_neg (show ¬ nI 2 = 1 by decide), if_pos (show nI 2 = 2 from rfl), if_pos (show 2 < 4 by decide)]
  · rw [if_neg (show ¬ nI 3 = 0 by decide), if_neg (show ¬ nI 3 = 1 by decide), if_neg (show ¬ nI 3 = 2 by decide), if_pos (show nI 3 = 3 from rfl), if_pos (show 3 < 4 by decide)]
  · rw [if_neg (show ¬ nI 4 = 0 by decide), if_neg (show ¬ nI 4 = 1 by decide), if_neg (show ¬ nI 4 = 2 by decide), if_neg (show ¬ nI 4 = 3 by decide), if_pos (show nI 4 = 4 from rfl), if_neg (show ¬ 4 < 4 by decide), if_pos (show 4 = 4 from rfl)]
  · rw [if_neg (show ¬ nI 5 = 0 by decide), if_neg (show ¬ nI 5 = 1 by decide), if_neg (show ¬ nI 5 = 2 by decide), if_neg (show ¬ nI 5 = 3 by decide), if_neg (show ¬ nI 5 = 4 by decide), if_pos (show nI 5 = 5 from rfl), if_neg (show ¬ 5 < 4 by decide), if_neg (show ¬ 5 = 4 by decide), if_pos (show 5 = 5 from rfl)]
  · rw [if_neg (show ¬ nI 6 = 0 by decide), if_neg (show ¬ nI 6 = 1 by decide), if_neg (show ¬ nI 6 = 2 by decide), if_neg (show ¬ nI 6 = 3 by decide), if_neg (show ¬ nI 6 = 4 by decide), if_neg (show ¬ nI 6 = 5 by decide), if_neg (show ¬ 6 < 4 by decide), if_neg (show ¬ 6 = 4 by decide), if_neg (show ¬ 6 = 5 by decide)]
theorem z_cst {A_z : z_Ab} {c_z : Nat} (hc_z : z_in (nI c_z) (z_AV A_z).2.2.1) (h10 : c_z < 10) {j_z : Nat} (hj : j_z ≤ 5) : z_ansCust A_z (nI c_z) (nI j_z) = if j_z < 4 then (z_AV A_z).1 (4 + j_z) c_z else if j_z = 4 then (if z_comes (z_AV A_z) (z_AT A_z 0) c_z = true then 1 else 0) else (z_dayO (z_AV A_z) (z_AT A_z) (z_hasDog (z_AV A_z) (z_AT A_z 0))).2.2.2.2.2.2 c_z := by
  unfold z_ansCust
  rw [if_pos ⟨hc_z, nI_pos' (by omega), (nI_leI (by omega) (by decide)).mpr hj⟩, nI_clamp (by omega)]
  rcases (show j_z = 0 ∨ j_z = 1 ∨ j_z = 2 ∨ j_z = 3 ∨ j_z = 4 ∨ j_z = 5 by omega) with rfl | rfl | rfl | rfl | rfl | rfl
  · rw [if_pos (show nI 0 = 0 from rfl), if_pos (show 0 < 4 by decide)]
  · rw [if_neg (show ¬ nI 1 = 0 by decide), if_pos (show nI 1 = 1 from rfl), if_pos (show 1 < 4 by decide)]
  · rw [if_neg (show ¬ nI 2 = 0 by decide), if_neg (show ¬ nI 2 = 1 by decide), if_pos (show nI 2 = 2 from rfl), if_pos (show 2 < 4 by decide)]
  · rw [if_neg (show ¬ nI 3 = 0 by decide), if_neg (show ¬ nI 3 = 1 by decide), if_neg (show ¬ nI 3 = 2 by decide), if_pos (show nI 3 = 3 from rfl), if_pos (show 3 < 4 by decide)]
  · rw [if_neg (show ¬ nI 4 = 0 by decide), if_neg (show ¬ nI 4 = 1 by decide), if_neg (show ¬ nI 4 = 2 by decide), if_neg (show ¬ nI 4 = 3 by decide), if_pos (show nI 4 = 4 from rfl), if_neg (show ¬ 4 < 4 by decide), if_pos (show 4 = 4 from rfl)]
  · rw [if_neg (show ¬ nI 5 = 0 by decide), if_neg (show ¬ nI 5 = 1 by decide), if_neg (show ¬ nI 5 = 2 by decide), if_neg (show ¬ nI 5 = 3 by decide), if_neg (show ¬ nI 5 = 4 by decide), if_neg (show ¬ 5 < 4 by decide), if_neg (show ¬ 5 = 4 by decide)]
set_option maxHeartbeats 1000000 in
theorem c_X10_staff {g_z : z_U} {d_z : Nat} {zS : z_S} {A_z : z_Ab} (hN_z : z_LM zS) (hR : z_RM (z_I zS) A_z) (hO : z_OV (z_AV A_z)) {s_z what : Int32} : z_C g_z (d_z + 4) 0 0 mX10_staff [.ref 99, .int s_z, .int what] zS (z_MQ zS (z_ansStaff A_z s_z what)) := by
  refine z_enter [some (.ref 99), some (.int s_z), some (.int what)] rfl rfl (Nat.le_of_ble_eq_true rfl) rfl (fun zX hM_z => ?_)
  have hB_z : z_B g_z zX RX10 cX10_staff 3 := hM_z.1
  have hn6 := hO.2.1
  refine z_s 1 hB_z dX10_staff_0 rfl rfl ?_
  refine z_s 2 hB_z dX10_staff_1 rfl rfl ?_
  refine z_callV 5 hB_z hM_z.2.1 kX10_71 dX10_staff_2 rfl (N99 (zS := zS) hN_z) rfl (c_X10_isOne (d_z := 0) hN_z hR.sn (by omega)) (by omega) rfl rfl (Nat.le_of_ble_eq_true rfl) ⟨Nat.le_refl _, Nat.le_refl _⟩ ?_
  rintro _ _ ⟨rfl, w_z, rfl, hw⟩
  refine z_b 8 18 hB_z dX10_staff_5 rfl rfl (by decide) (fun c_5 => ?_) (fun c_5 => ?_)
  ·
    have hs : ¬ z_in s_z (z_AV A_z).2.1 := hw.elim (fun z_z => z_z.2) (fun z_z => absurd (z_z.1.symm.trans c_5) (by decide))
    refine z_s 19 hB_z dX10_staff_18 rfl rfl ?_
    refine z_iret hM_z dX10_staff_19 rfl ?_ rfl rfl
    exact z_MQ.rf (if_neg (fun q_z => hs q_z.1)).symm
  ·
    have hs : z_in s_z (z_AV A_z).2.1 := hw.elim (fun z_z => absurd z_z.1 c_5) (fun z_z => z_z.2)
    obtain ⟨s_z, hs6, rfl⟩ := hs.of (by omega)
    refine z_s 9 hB_z dX10_staff_8 rfl rfl ?_
    refine z_s 10 hB_z dX10_staff_9 rfl rfl ?_
    refine z_s 12 hB_z dX10_staff_10 rfl rfl ?_
    refine z_callS 15 hB_z hM_z.2.1 kX10_67 dX10_staff_12 rfl (c_X10_in (d_z := 0)) (by omega) rfl rfl (Nat.le_of_ble_eq_true rfl) ⟨Nat.le_refl _, Nat.le_refl _⟩ ?_
    rintro _ _ ⟨rfl, rfl⟩
    refine z_b 18 20 hB_z dX10_staff_15 rfl rfl (by decide) (fun c_15 => ?_) (fun c_15 => ?_)
    ·
      obtain ⟨j_z, hj, rfl⟩ := z_le28 (z_of1 c_15).1 (m_z := 6) (by decide) (z_of1 c_15).2
      refine z_s 21 hB_z dX10_staff_20 rfl rfl ?_
      refine z_s 22 hB_z dX10_staff_21 rfl rfl ?_
      refine z_b 25 36 hB_z dX10_staff_22 rfl rfl (by decide) (fun c_22 => ?_) (fun c_22 => ?_)
      ·
        have hj4 : 4 ≤ j_z := (nI_leI (by decide) (by omega)).mp (show nI 4 ≤ nI j_z from c_22)
        refine z_s 37 hB_z dX10_staff_36 rfl rfl ?_
        refine z_callV 40 hB_z hM_z.2.1 kX10_174 dX10_staff_37 rfl (N99 (zS := zS) hN_z) rfl (c_X10_layNow (d_z := 0) hN_z hR hO) (by omega) rfl rfl (Nat.le_of_ble_eq_true rfl) ⟨Nat.le_refl _, Nat.le_refl _⟩ ?_
        rintro _ _ ⟨rfl, I1, rfl, hf1, hw1, h24, hby⟩
        refine z_s 41 hB_z dX10_staff_40 rfl rfl ?_
        refine z_s 42 hB_z dX10_staff_41 rfl rfl ?_
        refine z_b 45 56 hB_z dX10_staff_42 rfl rfl (by decide) (fun c_42 => ?_) (fun c_42 => ?_)
        ·
          have hjn4 : ¬ j_z = 4 := fun z_z => c_42 (by rw [z_z]; rfl)
          refine z_s 57 hB_z dX10_staff_56 rfl rfl ?_
          refine z_s 58 hB_z dX10_staff_57 rfl rfl ?_
          refine z_b 61 73 hB_z dX10_staff_58 rfl rfl (by decide) (fun c_58 => ?_) (fun c_58 => ?_)
          ·
            have hjn5 : ¬ j_z = 5 := fun z_z => c_58 (by rw [z_z]; rfl)
            refine z_s 74 hB_z dX10_staff_73 rfl rfl ?_
            refine z_getR 77 hB_z fX10_28 (N99 (zS := zS) hN_z) dX10_staff_74 rfl rfl (n99_15 (zS := zS) hN_z) ?_
            refine z_s 78 hB_z dX10_staff_77 rfl rfl ?_
            refine z_ald 79 hB_z (N106 (zS := zS) hN_z) dX10_staff_78 rfl (vp_in_nI (show 4 < 17 by decide) (by decide)) ?_
            rw [z_c4, show z_I (z_up zS I1) 106 4 = z_AT A_z 5 from (hR.scr hf1).nw.a4]
            refine z_s 80 hB_z dX10_staff_79 rfl rfl ?_
            refine z_s 81 hB_z dX10_staff_80 rfl rfl ?_
            refine z_s 82 hB_z dX10_staff_81 rfl rfl ?_
            refine z_s 83 hB_z dX10_staff_82 rfl rfl ?_
            refine z_iret hM_z dX10_staff_83 rfl ?_ rfl rfl
            exact z_MQ.ok (by rw [z_stf hs (by omega) hj, if_neg (by omega), if_neg hjn4, if_neg hjn5, z_sh1]) hf1
          ·
            have hje : j_z = 5 := by
              have h1 := (nI_leI (show j_z < 2 ^ 31 by omega) (show 5 < 2 ^ 31 by decide)).mp (by rw [show nI j_z = nI 5 from c_58]; exact Int32.le_refl _)
              have h2 := (nI_leI (show 5 < 2 ^ 31 by decide) (show j_z < 2 ^ 31 by omega)).mp (by rw [show nI j_z = nI 5 from c_58]; exact Int32.le_refl _)
              omega
            refine z_s 62 hB_z dX10_staff_61 rfl rfl ?_
            refine z_getR 65 hB_z fX10_28 (N99 (zS := zS) hN_z) dX10_staff_62 rfl rfl (n99_15 (zS := zS) hN_z) ?_
            refine z_s 67 hB_z dX10_staff_65 rfl rfl ?_
            refine z_s 68 hB_z dX10_staff_67 rfl rfl ?_
            refine z_s 69 hB_z dX10_staff_68 rfl rfl ?_
            rw [z_n11]
            refine z_ald 70 hB_z (N106 (zS := zS) hN_z) dX10_staff_69 rfl (vp_in_nI (show 11 + s_z < 17 by omega) (by decide)) ?_
            rw [nI_clamp (by omega), show z_I (z_up zS I1) 106 (11 + s_z) = z_AT A_z (6 + s_z) from (congrArg (I1 106) (show 11 + s_z = 0 + 11 + s_z by omega)).trans ((hR.scr hf1).nw.aw s_z (by omega))]
            refine z_j 83 hB_z dX10_staff_70 (by decide) ?_
            refine z_iret hM_z dX10_staff_83 rfl ?_ rfl rfl
            exact z_MQ.ok (by rw [z_stf hs (by omega) hj, if_neg (by omega), if_neg hjn4, if_pos hje]) hf1
        ·
          have hje : j_z = 4 := by
            have h1 := (nI_leI (show j_z < 2 ^ 31 by omega) (show 4 < 2 ^ 31 by decide)).mp (by rw [show nI j_z = nI 4 from c_42]; exact Int32.le_refl _)
            have h2 := (nI_leI (show 4 < 2 ^ 31 by decide) (show j_z < 2 ^ 31 by omega)).mp (by rw [show nI j_z = nI 4 from c_42]; exact Int32.le_refl _)
            omega
          refine z_s 46 hB_z dX10_staff_45 rfl rfl ?_
          refine z_getI 49 hB_z fX10_142 (N99 (zS := zS) hN_z) dX10_staff_46 rfl rfl ?_
          rw [show z_I (z_up zS I1) 99 23 = _ from hw1]
          refine z_s 50 hB_z dX10_staff_49 rfl rfl ?_
          refine z_s 51 hB_z dX10_staff_50 rfl rfl ?_
          refine z_s 52 hB_z dX10_staff_51 rfl rfl ?_
          refine z_s 53 hB_z dX10_staff_52 rfl rfl ?_
          refine z_j 83 hB_z dX10_staff_53 (by decide) ?_
          refine z_iret hM_z dX10_staff_83 rfl ?_ rfl rfl
          exact z_MQ.ok (by rw [z_stf hs (by omega) hj, if_neg (by omega), if_pos hje, z_sh1]) hf1
      ·
        have hj4 : j_z < 4 := (nI_ltI (by omega) (by decide)).mp (show nI j_z < nI 4 from c_22)
        refine z_s 26 hB_z dX10_staff_25 rfl rfl ?_
        refine z_getR 29 hB_z fX10_22 (N99 (zS := zS) hN_z) dX10_staff_26 rfl rfl (n99_13 (zS := zS) hN_z) ?_
        refine z_s 30 hB_z dX10_staff_29 rfl rfl ?_
        refine z_s 31 hB_z dX10_staff_30 rfl rfl ?_
        refine z_s 32 hB_z dX10_staff_31 rfl rfl ?_
        refine z_s 33 hB_z dX10_staff_32 rfl rfl ?_
        refine z_s 34 hB_z dX10_staff_33 rfl rfl ?_
        rw [z_n4 _ (by omega), z_nIa]
        refine z_ald 35 hB_z (N104 (zS := zS) hN_z) dX10_staff_34 rfl (vp_in_nI (show 4 * s_z + j_z < 24 by omega) (by decide)) ?_
        rw [nI_clamp (by omega), show z_I zS 104 (4 * s_z + j_z) = (z_AV A_z).1 j_z s_z from hR.so s_z hs6 j_z hj4]
        refine z_iret hM_z dX10_staff_35 rfl ?_ rfl rfl
        exact z_MQ.rf (by rw [z_stf hs (by omega) hj, if_pos hj4])
    ·
      refine z_s 19 hB_z dX10_staff_18 rfl rfl ?_
      refine z_iret hM_z dX10_staff_19 rfl ?_ rfl rfl
      exact z_MQ.rf (if_neg (fun q_z => z_of0 c_15 q_z.2)).symm

set_option maxHeartbeats 1000000 in
theorem c_X10_customer {g_z : z_U} {d_z : Nat} {zS : z_S} {A_z : z_Ab} (hN_z : z_LM zS) (hR : z_RM (z_I zS) A_z) (hO : z_OV (z_AV A_z)) {s_z what : Int32} : z_C g_z (d_z + 4) 0 0 mX10_customer [.ref 99, .int s_z, .int what] zS (z_MQ zS (z_ansCust A_z s_z what)) := by
  refine z_enter [some (.ref 99), some (.int s_z), some (.int what)] rfl rfl (Nat.le_of_ble_eq_true rfl) rfl (fun zX hM_z => ?_)
  have hB_z : z_B g_z zX RX10 cX10_customer 3 := hM_z.1
  have hm10 := hO.2.2.1
  refine z_s 1 hB_z dX10_customer_0 rfl rfl ?_
  refine z_s 2 hB_z dX10_customer_1 rfl rfl ?_
  refine z_callV 5 hB_z hM_z.2.1 kX10_177 dX10_customer_2 rfl (N99 (zS := zS) hN_z) rfl (c_X10_isGuest (d_z := 0) hN_z hR.sm (by omega)) (by omega) rfl rfl (Nat.le_of_ble_eq_true rfl) ⟨Nat.le_refl _, Nat.le_refl _⟩ ?_
  rintro _ _ ⟨rfl, w_z, rfl, hw⟩
  refine z_b 8 17 hB_z dX10_customer_5 rfl rfl (by decide) (fun c_5 => ?_) (fun c_5 => ?_)
  ·
    have hs : ¬ z_in s_z (z_AV A_z).2.2.1 := hw.elim (fun z_z => z_z.2) (fun z_z => absurd (z_z.1.symm.trans c_5) (by decide))
    refine z_s 18 hB_z dX10_customer_17 rfl rfl ?_
    refine z_iret hM_z dX10_customer_18 rfl ?_ rfl rfl
    exact z_MQ.rf (if_neg (fun q_z => hs q_z.1)).symm
  ·
    have hs : z_in s_z (z_AV A_z).2.2.1 := hw.elim (fun z_z => absurd z_z.1 c_5) (fun z_z => z_z.2)
    obtain ⟨s_z, hs6, rfl⟩ := hs.of (by omega)
    refine z_s 9 hB_z dX10_customer_8 rfl rfl ?_
    refine z_s 10 hB_z dX10_customer_9 rfl rfl ?_
    refine z_s 11 hB_z dX10_customer_10 rfl rfl ?_
    refine z_callS 14 hB_z hM_z.2.1 kX10_67 dX10_customer_11 rfl (c_X10_in (d_z := 0)) (by omega) rfl rfl (Nat.le_of_ble_eq_true rfl) ⟨Nat.le_refl _, Nat.le_refl _⟩ ?_
    rintro _ _ ⟨rfl, rfl⟩
    refine z_b 17 19 hB_z dX10_customer_14 rfl rfl (by decide) (fun c_14 => ?_) (fun c_14 => ?_)
    ·
      obtain ⟨j_z, hj, rfl⟩ := z_le28 (z_of1 c_14).1 (m_z := 5) (by decide) (z_of1 c_14).2
      refine z_s 20 hB_z dX10_customer_19 rfl rfl ?_
      refine z_s 21 hB_z dX10_customer_20 rfl rfl ?_
      refine z_b 24 35 hB_z dX10_customer_21 rfl rfl (by decide) (fun c_21 => ?_) (fun c_21 => ?_)
      ·
        have hj4 : 4 ≤ j_z := (nI_leI (by decide) (by omega)).mp (show nI 4 ≤ nI j_z from c_21)
        refine z_s 36 hB_z dX10_customer_35 rfl rfl ?_
        refine z_callV 39 hB_z hM_z.2.1 kX10_174 dX10_customer_36 rfl (N99 (zS := zS) hN_z) rfl (c_X10_layNow (d_z := 0) hN_z hR hO) (by omega) rfl rfl (Nat.le_of_ble_eq_true rfl) ⟨Nat.le_refl _, Nat.le_refl _⟩ ?_
        rintro _ _ ⟨rfl, I1, rfl, hf1, hw1, h24, hby⟩
        refine z_s 40 hB_z dX10_customer_39 rfl rfl ?_
        refine z_s 41 hB_z dX10_customer_40 rfl rfl ?_
        refine z_b 44 53 hB_z dX10_customer_41 rfl rfl (by decide) (fun c_41 => ?_) (fun c_41 => ?_)
        ·
          have hjn5 : ¬ j_z = 5 := fun z_z => c_41 (by rw [z_z]; rfl)
          refine z_s 54 hB_z dX10_customer_53 rfl rfl ?_
          refine z_getR 57 hB_z fX10_25 (N99 (zS := zS) hN_z) dX10_customer_54 rfl rfl (n99_14 (zS := zS) hN_z) ?_
          refine z_s 58 hB_z dX10_customer_57 rfl rfl ?_
          refine z_s 59 hB_z dX10_customer_58 rfl rfl ?_
          refine z_s 60 hB_z dX10_customer_59 rfl rfl ?_
          rw [z_n4 _ (by omega)]
          refine z_ald 61 hB_z (N105 (zS := zS) hN_z) dX10_customer_60 rfl (vp_in_nI (show 4 * s_z < 40 by omega) (by decide)) ?_
          rw [nI_clamp (by omega), show z_I (z_up zS I1) 105 (4 * s_z) = (z_AV A_z).1 4 s_z from (hR.scr hf1).sg s_z hs6 0 (by decide)]
          refine z_s 62 hB_z dX10_customer_61 rfl rfl ?_
          refine z_getR 65 hB_z fX10_28 (N99 (zS := zS) hN_z) dX10_customer_62 rfl rfl (n99_15 (zS := zS) hN_z) ?_
          refine z_s 66 hB_z dX10_customer_65 rfl rfl ?_
          refine z_ald 67 hB_z (N106 (zS := zS) hN_z) dX10_customer_66 rfl (vp_in_nI (show 0 < 17 by decide) (by decide)) ?_
          rw [z_c0, show z_I (z_up zS I1) 106 0 = z_AT A_z 0 from (hR.scr hf1).nw.a0]
          refine z_s 69 hB_z dX10_customer_67 rfl rfl ?_
          refine z_irem 70 hB_z dX10_customer_69 rfl (by decide) ?_
          refine z_b 73 77 hB_z dX10_customer_70 rfl rfl (by decide) (fun c_70 => ?_) (fun c_70 => ?_)
          ·
            refine z_s 78 hB_z dX10_customer_77 rfl rfl ?_
            refine z_iret hM_z dX10_customer_78 rfl ?_ rfl rfl
            exact z_MQ.ok (by rw [z_cst hs (by omega) hj, if_neg (by omega), if_pos (by omega)]; exact z_bie (p_z := z_comes (z_AV A_z) (z_AT A_z 0) s_z = true) (fun z_z => c_70 ((of_decide_eq_true z_z).trans z_m14))) hf1
          ·
            refine z_s 74 hB_z dX10_customer_73 rfl rfl ?_
            refine z_j 78 hB_z dX10_customer_74 (by decide) ?_
            refine z_iret hM_z dX10_customer_78 rfl ?_ rfl rfl
            exact z_MQ.ok (by rw [z_cst hs (by omega) hj, if_neg (by omega), if_pos (by omega)]; exact z_bif (p_z := z_comes (z_AV A_z) (z_AT A_z 0) s_z = true) (decide_eq_true (c_70.trans z_m14.symm))) hf1
        ·
          have hje : j_z = 5 := by
            have h1 := (nI_leI (show j_z < 2 ^ 31 by omega) (show 5 < 2 ^ 31 by decide)).mp (by rw [show nI j_z = nI 5 from c_41]; exact Int32.le_refl _)
            have h2 := (nI_leI (show 5 < 2 ^ 31 by decide) (show j_z < 2 ^ 31 by omega)).mp (by rw [show nI j_z = nI 5 from c_41]; exact Int32.le_refl _)
            omega
          refine z_s 45 hB_z dX10_customer_44 rfl rfl ?_
          refine z_getR 48 hB_z fX10_43 (N99 (zS := zS) hN_z) dX10_customer_45 rfl rfl (n99_29 (zS := zS) hN_z) ?_
          refine z_s 49 hB_z dX10_customer_48 rfl rfl ?_
          refine z_ald 50 hB_z (N111 (zS := zS) hN_z) dX10_customer_49 rfl (vp_in_nI (show s_z < 10 by omega) (by decide)) ?_
          rw [nI_clamp (by omega), show z_I (z_up zS I1) 111 s_z = _ from hby s_z hs6]
          refine z_j 78 hB_z dX10_customer_50 (by decide) ?_
          refine z_iret hM_z dX10_customer_78 rfl ?_ rfl rfl
          exact z_MQ.ok (by rw [z_cst hs (by omega) hj, if_neg (by omega), if_neg (by omega)]) hf1
      ·
        have hj4 : j_z < 4 := (nI_ltI (by omega) (by decide)).mp (show nI j_z < nI 4 from c_21)
        refine z_s 25 hB_z dX10_customer_24 rfl rfl ?_
        refine z_getR 28 hB_z fX10_25 (N99 (zS := zS) hN_z) dX10_customer_25 rfl rfl (n99_14 (zS := zS) hN_z) ?_
        refine z_s 29 hB_z dX10_customer_28 rfl rfl ?_
        refine z_s 30 hB_z dX10_customer_29 rfl rfl ?_
        refine z_s 31 hB_z dX10_customer_30 rfl rfl ?_
        refine z_s 32 hB_z dX10_customer_31 rfl rfl ?_
        refine z_s 33 hB_z dX10_customer_32 rfl rfl ?_
        rw [z_n4 _ (by omega), z_nIa]
        refine z_ald 34 hB_z (N105 (zS := zS) hN_z) dX10_customer_33 rfl (vp_in_nI (show 4 * s_z + j_z < 40 by omega) (by decide)) ?_
        rw [nI_clamp (by omega), show z_I zS 105 (4 * s_z + j_z) = (z_AV A_z).1 (4 + j_z) s_z from hR.sg s_z hs6 j_z hj4]
        refine z_iret hM_z dX10_customer_34 rfl ?_ rfl rfl
        exact z_MQ.rf (by rw [z_cst hs (by omega) hj, if_pos hj4])
    ·
      refine z_s 18 hB_z dX10_customer_17 rfl rfl ?_
      refine z_iret hM_z dX10_customer_18 rfl ?_ rfl rfl
      exact z_MQ.rf (if_neg (fun q_z => z_of0 c_14 q_z.2)).symm

theorem z_wlk_lt {zV : z_V} (hn : zV.2.1 ≤ 6) (zT : Nat → Int32) (dog : Bool) : ∃ x_z, x_z < 64 ∧ z_wlk zV zT dog = nI x_z := by
  cases dog with
  | true => exact ⟨0, by decide, rfl⟩
  | false =>
    obtain ⟨x_z, hx, e_z⟩ := z_wk_lt zV zT zV.2.1 hn
    have h64 : 2 ^ zV.2.1 ≤ 2 ^ 6 := Nat.pow_le_pow_right (by decide) hn
    exact ⟨x_z, by omega, e_z⟩
set_option maxHeartbeats 1000000 in
theorem c_X10_count {g_z : z_U} {d_z : Nat} {zS : z_S} {A_z : z_Ab} (hN_z : z_LM zS) (hR : z_RM (z_I zS) A_z) (hO : z_OV (z_AV A_z)) (hT_z : z_OT (z_AT A_z)) {what : Int32} : z_C g_z (d_z + 4) 0 0 mX10_count [.ref 99, .int what] zS (z_MQ zS (z_ansCount A_z what)) := by
  refine z_enter [some (.ref 99), some (.int what)] rfl rfl (Nat.le_of_ble_eq_true rfl) rfl (fun zX hM_z => ?_)
  have hB_z : z_B g_z zX RX10 cX10_count 2 := hM_z.1
  refine z_s 1 hB_z dX10_count_0 rfl rfl ?_
  by_cases hw : 0 ≤ what ∧ what ≤ nI 11
  · obtain ⟨k_z, hk, rfl⟩ := z_le28 hw.1 (m_z := 11) (by decide) hw.2
    rcases (show k_z = 0 ∨ k_z = 1 ∨ k_z = 2 ∨ k_z = 3 ∨ k_z = 4 ∨ k_z = 5 ∨ k_z = 6 ∨ k_z = 7 ∨ k_z = 8 ∨ k_z = 9 ∨ k_z = 10 ∨ k_z = 11 by omega) with rfl | rfl | rfl | rfl | rfl | rfl | rfl | rfl | rfl | rfl | rfl | rfl
    · refine z_tsw hB_z dX10_count_1 64 (by decide) (by decide) ?_
      refine z_s 65 hB_z dX10_count_64 rfl rfl ?_
      refine z_getI 68 hB_z fX10_50 (N99 (zS := zS) hN_z) dX10_count_65 rfl rfl ?_
      refine z_iret hM_z dX10_count_68 rfl ?_ rfl rfl
      exact z_MQ.rf (by unfold z_ansCount; rw [if_pos (show nI 0 = 0 from rfl)]; exact hR.sn)
    · refine z_tsw hB_z dX10_count_1 69 (by decide) (by decide) ?_
      refine z_s 70 hB_z dX10_count_69 rfl rfl ?_
      refine z_getI 73 hB_z fX10_61 (N99 (zS := zS) hN_z) dX10_count_70 rfl rfl ?_
      refine z_iret hM_z dX10_count_73 rfl ?_ rfl rfl
      exact z_MQ.rf (by unfold z_ansCount; rw [if_neg (show ¬ nI 1 = 0 by decide), if_pos (show nI 1 = 1 from rfl)]; exact hR.sm)
    · refine z_tsw hB_z dX10_count_1 74 (by decide) (by decide) ?_
      refine z_s 75 hB_z dX10_count_74 rfl rfl ?_
      refine z_getR 78 hB_z fX10_28 (N99 (zS := zS) hN_z) dX10_count_75 rfl rfl (n99_15 (zS := zS) hN_z) ?_
      refine z_s 79 hB_z dX10_count_78 rfl rfl ?_
      refine z_callS 82 hB_z hM_z.2.1 kX10_111 dX10_count_79 rfl (c_X10_quarrelsIn (d_z := 0) (f_z := 5) (N106 hN_z) (by decide) (by decide)) (by omega) rfl rfl (Nat.le_of_ble_eq_true rfl) ⟨Nat.le_refl _, Nat.le_refl _⟩ ?_
      rintro _ _ ⟨rfl, rfl⟩
      rw [z_sb_qr (zI := z_I zS) (o := 106) (f_z := 5) (Q_z := z_AT A_z 4) (fun a_z ha_z => (congrArg (z_I zS 106) (show 5 + a_z = 0 + 5 + a_z by omega)).trans (hR.nw.aq a_z ha_z))]
      refine z_iret hM_z dX10_count_82 rfl ?_ rfl rfl
      exact z_MQ.rf (by unfold z_ansCount; rw [if_neg (show ¬ nI 2 = 0 by decide), if_neg (show ¬ nI 2 = 1 by decide), if_pos (show nI 2 = 2 from rfl)]; exact hT_z.2.1.bc.symm)
    · refine z_tsw hB_z dX10_count_1 83 (by decide) (by decide) ?_
      refine z_s 84 hB_z dX10_count_83 rfl rfl ?_
      refine z_getR 87 hB_z fX10_28 (N99 (zS := zS) hN_z) dX10_count_84 rfl rfl (n99_15 (zS := zS) hN_z) ?_
      refine z_s 88 hB_z dX10_count_87 rfl rfl ?_
      refine z_ald 89 hB_z (N106 (zS := zS) hN_z) dX10_count_88 rfl (vp_in_nI (show 0 < 17 by decide) (by decide)) ?_
      rw [z_c0, show z_I zS 106 0 = z_AT A_z 0 from hR.nw.a0]
      refine z_iret hM_z dX10_count_89 rfl ?_ rfl rfl
      exact z_MQ.rf (by unfold z_ansCount; rw [if_neg (show ¬ nI 3 = 0 by decide), if_neg (show ¬ nI 3 = 1 by decide), if_neg (show ¬ nI 3 = 2 by decide), if_pos (show nI 3 = 3 from rfl)])
    · refine z_tsw hB_z dX10_count_1 90 (by decide) (by decide) ?_
      refine z_s 91 hB_z dX10_count_90 rfl rfl ?_
      refine z_callV 94 hB_z hM_z.2.1 kX10_174 dX10_count_91 rfl (N99 (zS := zS) hN_z) rfl (c_X10_layNow (d_z := 0) hN_z hR hO) (by omega) rfl rfl (Nat.le_of_ble_eq_true rfl) ⟨Nat.le_refl _, Nat.le_refl _⟩ ?_
      rintro _ _ ⟨rfl, I1, rfl, hf1, hw1, h24, hby⟩
      refine z_s 95 hB_z dX10_count_94 rfl rfl ?_
      refine z_getI 98 hB_z fX10_142 (N99 (zS := zS) hN_z) dX10_count_95 rfl rfl ?_
      rw [show z_I (z_up zS I1) 99 23 = _ from hw1]
      refine z_callS 101 hB_z hM_z.2.1 kX10_75 dX10_count_98 rfl (c_X10_bits (d_z := 0)) (by omega) rfl rfl (Nat.le_of_ble_eq_true rfl) ⟨Nat.le_refl _, Nat.le_refl _⟩ ?_
      rintro _ _ ⟨rfl, rfl⟩
      refine z_iret hM_z dX10_count_101 rfl ?_ rfl rfl
      exact z_MQ.ok (by unfold z_ansCount; rw [if_neg (show ¬ nI 4 = 0 by decide), if_neg (show ¬ nI 4 = 1 by decide), if_neg (show ¬ nI 4 = 2 by decide), if_neg (show ¬ nI 4 = 3 by decide), if_pos (show nI 4 = 4 from rfl)]; obtain ⟨x_z, hx, e_z⟩ := z_wlk_lt hO.2.1 (z_AT A_z) (z_hasDog (z_AV A_z) (z_AT A_z 0)); rw [e_z]; exact z_bt_bc x_z hx) hf1
    · refine z_tsw hB_z dX10_count_1 102 (by decide) (by decide) ?_
      refine z_s 103 hB_z dX10_count_102 rfl rfl ?_
      refine z_getR 106 hB_z fX10_28 (N99 (zS := zS) hN_z) dX10_count_103 rfl rfl (n99_15 (zS := zS) hN_z) ?_
      refine z_s 107 hB_z dX10_count_106 rfl rfl ?_
      refine z_ald 108 hB_z (N106 (zS := zS) hN_z) dX10_count_107 rfl (vp_in_nI (show 1 < 17 by decide) (by decide)) ?_
      rw [z_c1, show z_I zS 106 1 = z_AT A_z 1 from hR.nw.a1]
      refine z_iret hM_z dX10_count_108 rfl ?_ rfl rfl
      exact z_MQ.rf (by unfold z_ansCount; rw [if_neg (show ¬ nI 5 = 0 by decide), if_neg (show ¬ nI 5 = 1 by decide), if_neg (show ¬ nI 5 = 2 by decide), if_neg (show ¬ nI 5 = 3 by decide), if_neg (show ¬ nI 5 = 4 by decide), if_pos (show nI 5 = 5 from rfl)])
    · refine z_tsw hB_z dX10_count_1 109 (by decide) (by decide) ?_
      refine z_s 110 hB_z dX10_count_109 rfl rfl ?_
      refine z_getR 113 hB_z fX10_28 (N99 (zS := zS) hN_z) dX10_count_110 rfl rfl (n99_15 (zS := zS) hN_z) ?_
      refine z_s 114 hB_z dX10_count_113 rfl rfl ?_
      refine z_ald 115 hB_z (N106 (zS := zS) hN_z) dX10_count_114 rfl (vp_in_nI (show 2 < 17 by decide) (by decide)) ?_
      rw [z_c2, show z_I zS 106 2 = z_AT A_z 2 from hR.nw.a2]
      refine z_iret hM_z dX10_count_115 rfl ?_ rfl rfl
      exact z_MQ.rf (by unfold z_ansCount; rw [if_neg (show ¬ nI 6 = 0 by decide), if_neg (show ¬ nI 6 = 1 by decide), if_neg (show ¬ nI 6 = 2 by decide), if_neg (show ¬ nI 6 = 3 by decide), if_neg (show ¬ nI 6 = 4 by decide), if_neg (show ¬ nI 6 = 5 by decide), if_pos (show nI 6 = 6 from rfl)])
    · refine z_tsw hB_z dX10_count_1 116 (by decide) (by decide) ?_
      refine z_s 117 hB_z dX10_count_116 rfl rfl ?_
      refine z_getR 120 hB_z fX10_28 (N99 (zS := zS) hN_z) dX10_count_117 rfl rfl (n99_15 (zS := zS) hN_z) ?_
      refine z_s 121 hB_z dX10_count_120 rfl rfl ?_
      refine z_ald 122 hB_z (N106 (zS := zS) hN_z) dX10_count_121 rfl (vp_in_nI (show 3 < 17 by decide) (by decide)) ?_
      rw [z_c3, show z_I zS 106 3 = z_AT A_z 3 from hR.nw.a3]
      refine z_iret hM_z dX10_count_122 rfl ?_ rfl rfl
      exact z_MQ.rf (by unfold z_ansCount; rw [if_neg (show ¬ nI 7 = 0 by decide), if_neg (show ¬ nI 7 = 1 by decide), if_neg (show ¬ nI 7 = 2 by decide), if_neg (show ¬ nI 7 = 3 by decide), if_neg (show ¬ nI 7 = 4 by decide), if_neg (show ¬ nI 7 = 5 by decide), if_neg (show ¬ nI 7 = 6 by decide), if_pos (show nI 7 = 7 from rfl)])
    · refine z_tsw hB_z dX10_count_1 123 (by decide) (by decide) ?_
      refine z_s 124 hB_z dX10_count_123 rfl rfl ?_
      refine z_getI 127 hB_z fX10_130 (N99 (zS := zS) hN_z) dX10_count_124 rfl rfl ?_
      refine z_iret hM_z dX10_count_127 rfl ?_ rfl rfl
      exact z_MQ.rf (by unfold z_ansCount; rw [if_neg (show ¬ nI 8 = 0 by decide), if_neg (show ¬ nI 8 = 1 by decide), if_neg (show ¬ nI 8 = 2 by decide), if_neg (show ¬ nI 8 = 3 by decide), if_neg (show ¬ nI 8 = 4 by decide), if_neg (show ¬ nI 8 = 5 by decide), if_neg (show ¬ nI 8 = 6 by decide), if_neg (show ¬ nI 8 = 7 by decide), if_pos (show nI 8 = 8 from rfl)]; exact hR.el)
    · refine z_tsw hB_z dX10_count_1 128 (by decide) (by decide) ?_
      refine z_s 129 hB_z dX10_count_128 rfl rfl ?_
      refine z_getI 132 hB_z fX10_133 (N99 (zS := zS) hN_z) dX10_count_129 rfl rfl ?_
      refine z_iret hM_z dX10_count_132 rfl ?_ rfl rfl
      exact z_MQ.rf (by unfold z_ansCount; rw [if_neg (show ¬ nI 9 = 0 by decide), if_neg (show ¬ nI 9 = 1 by decide), if_neg (show ¬ nI 9 = 2 by decide), if_neg (show ¬ nI 9 = 3 by decide), if_neg (show ¬ nI 9 = 4 by decide), if_neg (show ¬ nI 9 = 5 by decide), if_neg (show ¬ nI 9 = 6 by decide), if_neg (show ¬ nI 9 = 7 by decide), if_neg (show ¬ nI 9 = 8 by decide), if_pos (show nI 9 = 9 from rfl)]; exact hR.bl)
    · refine z_tsw hB_z dX10_count_1 133 (by decide) (by decide) ?_
      refine z_s 134 hB_z dX10_count_133 rfl rfl ?_
      refine z_getI 137 hB_z fX10_136 (N99 (zS := zS) hN_z) dX10_count_134 rfl rfl ?_
      refine z_iret hM_z dX10_count_137 rfl ?_ rfl rfl
      exact z_MQ.rf (by unfold z_ansCount; rw [if_neg (show ¬ nI 10 = 0 by decide), if_neg (show ¬ nI 10 = 1 by decide), if_neg (show ¬ nI 10 = 2 by decide), if_neg (show ¬ nI 10 = 3 by decide), if_neg (show ¬ nI 10 = 4 by decide), if_neg (show ¬ nI 10 = 5 by decide), if_neg (show ¬ nI 10 = 6 by decide), if_neg (show ¬ nI 10 = 7 by decide), if_neg (show ¬ nI 10 = 8 by decide), if_neg (show ¬ nI 10 = 9 by decide), if_pos (show nI 10 = 10 from rfl)]; exact hR.kl)
    · refine z_tsw hB_z dX10_count_1 138 (by decide) (by decide) ?_
      refine z_s 139 hB_z dX10_count_138 rfl rfl ?_
      refine z_getI 142 hB_z fX10_79 (N99 (zS := zS) hN_z) dX10_count_139 rfl rfl ?_
      refine z_iret hM_z dX10_count_142 rfl ?_ rfl rfl
      exact z_MQ.rf (by unfold z_ansCount; rw [if_neg (show ¬ nI 11 = 0 by decide), if_neg (show ¬ nI 11 = 1 by decide), if_neg (show ¬ nI 11 = 2 by decide), if_neg (show ¬ nI 11 = 3 by decide), if_neg (show ¬ nI 11 = 4 by decide), if_neg (show ¬ nI 11 = 5 by decide), if_neg (show ¬ nI 11 = 6 by decide), if_neg (show ¬ nI 11 = 7 by decide), if_neg (show ¬ nI 11 = 8 by decide), if_neg (show ¬ nI 11 = 9 by decide), if_neg (show ¬ nI 11 = 10 by decide), if_pos (show nI 11 = 11 from rfl)]; exact hR.xl)
  · have ho : what.toInt < 0 ∨ 11 < what.toInt := z_tout (m_z := 11) (by decide) hw
    refine z_tsw hB_z dX10_count_1 143 (by rw [if_pos ho]; decide) (fun q1_z q2_z => by rcases ho with h_z | h_z <;> omega) ?_
    refine z_s 144 hB_z dX10_count_143 rfl rfl ?_
    refine z_iret hM_z dX10_count_144 rfl ?_ rfl rfl
    exact z_MQ.rf (by unfold z_ansCount; rw [if_neg (fun q_z => hw (by rw [q_z]; decide))]; rw [if_neg (fun q_z => hw (by rw [q_z]; decide))]; rw [if_neg (fun q_z => hw (by rw [q_z]; decide))]; rw [if_neg (fun q_z => hw (by rw [q_z]; decide))]; rw [if_neg (fun q_z => hw (by rw [q_z]; decide))]; rw [if_neg (fun q_z => hw (by rw [q_z]; decide))]; rw [if_neg (fun q_z => hw (by rw [q_z]; decide))]; rw [if_neg (fun q_z => hw (by rw [q_z]; decide))]; rw [if_neg (fun q_z => hw (by rw [q_z]; decide))]; rw [if_neg (fun q_z => hw (by rw [q_z]; decide))]; rw [if_neg (fun q_z => hw (by rw [q_z]; decide))]; rw [if_neg (fun q_z => hw (by rw [q_z]; decide))])

