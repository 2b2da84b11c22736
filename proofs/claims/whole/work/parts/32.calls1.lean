/-! the whole object: what its cells tell (A), and the calls, one by one -/
/-- shop; state; undone states, how many; kept states, how many; seen: who, when, walked, how many; the text, how long -/
abbrev z_Ab : Type := z_V × (Nat → Int32) × ((Nat → Nat → Int32) × Nat) × ((Nat → Nat → Int32) × Nat) × ((Nat → Int32) × (Nat → Int32) × (Nat → Int32) × Nat) × ((Nat → Int32) × Nat)
def z_AV (A_z : z_Ab) : z_V := A_z.1
def z_AT (A_z : z_Ab) : Nat → Int32 := A_z.2.1
def z_AU (A_z : z_Ab) : (Nat → Nat → Int32) × Nat := A_z.2.2.1
def z_AK (A_z : z_Ab) : (Nat → Nat → Int32) × Nat := A_z.2.2.2.1
def z_AS (A_z : z_Ab) : (Nat → Int32) × (Nat → Int32) × (Nat → Int32) × Nat := A_z.2.2.2.2.1
def z_AX (A_z : z_Ab) : (Nat → Int32) × Nat := A_z.2.2.2.2.2
def z_rS (zI : Nat → Nat → Int32) (q_z : (Nat → Int32) × (Nat → Int32) × (Nat → Int32) × Nat) : Prop := zI 91 3 = nI q_z.2.2.2 ∧ q_z.2.2.2 ≤ 8 ∧ ∀ i_z, i_z < q_z.2.2.2 → zI 93 i_z = q_z.1 i_z ∧ zI 95 i_z = q_z.2.1 i_z ∧ zI 97 i_z = q_z.2.2.1 i_z
def z_rX (zI : Nat → Nat → Int32) (q_z : (Nat → Int32) × Nat) : Prop := zI 5 1 = nI q_z.2 ∧ q_z.2 ≤ 200 ∧ ∀ i_z, i_z < q_z.2 → zI 6 i_z = q_z.1 i_z
def z_RC (zS : z_S) (A_z : z_Ab) : Prop := z_L zS ∧ z_rV (z_I zS) 7 (z_AV A_z) ∧ z_rT (z_I zS) 51 (z_AT A_z) ∧ z_shelf zS 57 58 8 59 (z_AU A_z).1 (z_AU A_z).2 ∧ z_shelf zS 83 84 2 85 (z_AK A_z).1 (z_AK A_z).2 ∧ z_rS (z_I zS) (z_AS A_z) ∧ z_rX (z_I zS) (z_AX A_z)
/-- cells that tell nothing: draft, reader, night, trial, choice -/
def z_scr : Nat → Prop := fun q_z => (26 ≤ q_z ∧ q_z < 51) ∨ (54 ≤ q_z ∧ q_z < 57) ∨ q_z = 98
theorem z_shelf.fr {P_z : Nat → Prop} {zS : z_S} {zI' : Nat → Nat → Int32} {f_z a_z N_z b_z u_z : Nat} {U_z : Nat → Nat → Int32} (h_z : z_shelf zS f_z a_z N_z b_z U_z u_z) (hf : z_fr P_z (z_I zS) zI') (h1 : ¬ P_z f_z) (h2 : ∀ q_z, b_z ≤ q_z → q_z < b_z + 3 * N_z → ¬ P_z q_z) : z_shelf (z_up zS zI') f_z a_z N_z b_z U_z u_z := by
  obtain ⟨r_z, hs, hz, hu, hU⟩ := h_z
  refine ⟨r_z, hs, (hf f_z 1 h1).trans hz, hu, fun j_z hj => ?_⟩
  have := hs.2.2.2.2.1 j_z (by omega)
  exact (hU j_z hj).fr hf ⟨h2 _ (by omega) (by omega), h2 _ (by omega) (by omega)⟩
theorem z_rS.fr {P_z : Nat → Prop} {zI zI' : Nat → Nat → Int32} {q_z : (Nat → Int32) × (Nat → Int32) × (Nat → Int32) × Nat} (h_z : z_rS zI q_z) (hf : z_fr P_z zI zI') (hP : ∀ x_z, 91 ≤ x_z → x_z < 98 → ¬ P_z x_z) : z_rS zI' q_z :=
  ⟨(hf _ _ (hP 91 (by decide) (by decide))).trans h_z.1, h_z.2.1, fun i_z hi_z => ⟨(hf _ _ (hP 93 (by decide) (by decide))).trans (h_z.2.2 i_z hi_z).1, (hf _ _ (hP 95 (by decide) (by decide))).trans (h_z.2.2 i_z hi_z).2.1, (hf _ _ (hP 97 (by decide) (by decide))).trans (h_z.2.2 i_z hi_z).2.2⟩⟩
theorem z_rX.fr {P_z : Nat → Prop} {zI zI' : Nat → Nat → Int32} {q_z : (Nat → Int32) × Nat} (h_z : z_rX zI q_z) (hf : z_fr P_z zI zI') (h5 : ¬ P_z 5) (h6 : ¬ P_z 6) : z_rX zI' q_z :=
  ⟨(hf _ _ h5).trans h_z.1, h_z.2.1, fun i_z hi_z => (hf _ _ h6).trans (h_z.2.2 i_z hi_z)⟩
theorem z_RC.scr {zS : z_S} {A_z : z_Ab} {zI' : Nat → Nat → Int32} (h_z : z_RC zS A_z) (hf : z_fr z_scr (z_I zS) zI') : z_RC (z_up zS zI') A_z := by
  obtain ⟨h1, h2, h3, h4, h5, h6, h7⟩ := h_z
  have hn : ∀ q_z : Nat, q_z < 26 ∨ (51 ≤ q_z ∧ q_z < 54) ∨ (57 ≤ q_z ∧ q_z < 98) → ¬ z_scr q_z := fun q_z hq z_z => by
    unfold z_scr at z_z
    omega
  exact ⟨h1, h2.fr hf (fun q_z a_z b_z => hn q_z (by omega)), h3.fr hf ⟨hn _ (by omega), hn _ (by omega)⟩, h4.fr hf (hn _ (by omega)) (fun q_z a_z b_z => hn q_z (by omega)), h5.fr hf (hn _ (by omega)) (fun q_z a_z b_z => hn q_z (by omega)), h6.fr hf (fun q_z a_z b_z => hn q_z (by omega)), h7.fr hf (hn _ (by omega)) (hn _ (by omega))⟩
/-- an answer, and only such cells changed -/
def z_QP (zS : z_S) (x_z : Int32) : Option Value → z_S → Prop := fun r_z zS' => r_z = some (.int x_z) ∧ ∃ zI', z_up zS zI' = zS' ∧ z_fr z_scr (z_I zS) zI'
theorem z_scrN : ∀ q_z, z_PN q_z → z_scr q_z := fun q_z h_z => by
  unfold z_scr
  rcases h_z with h_z | h_z <;> omega
theorem z_scrG : ∀ q_z, z_PG 54 q_z → z_scr q_z := fun q_z h_z => by
  unfold z_scr
  rcases h_z with (h_z | h_z) | h_z | h_z <;> omega
theorem z_scrT : ∀ q_z, (q_z = 54 ∨ q_z = 54 + 2) → z_scr q_z := fun q_z h_z => by
  unfold z_scr
  omega
/-- what a changing call leaves to the other side -/
def z_kM (zS zS' : z_S) : Prop := z_kd zS' = z_kd zS ∧ z_nx zS' = z_nx zS ∧ (∀ q_z k_z, 99 ≤ q_z → z_I zS' q_z k_z = z_I zS q_z k_z) ∧ ∀ q_z k_z, 99 ≤ q_z → z_R zS' q_z k_z = z_R zS q_z k_z
theorem z_kM.up {zS : z_S} {zI' : Nat → Nat → Int32} {P_z : Nat → Prop} (hf : z_fr P_z (z_I zS) zI') (hP : ∀ q_z, 99 ≤ q_z → ¬ P_z q_z) : z_kM zS (z_up zS zI') := ⟨rfl, rfl, fun q_z k_z hq => hf q_z k_z (hP q_z hq), fun _ _ _ => rfl⟩
theorem z_kM.tr {zS zS' S2 : z_S} (h_z : z_kM zS zS') (h2 : z_kM zS' S2) : z_kM zS S2 := ⟨h2.1.trans h_z.1, h2.2.1.trans h_z.2.1, fun q_z k_z hq => (h2.2.2.1 q_z k_z hq).trans (h_z.2.2.1 q_z k_z hq), fun q_z k_z hq => (h2.2.2.2 q_z k_z hq).trans (h_z.2.2.2 q_z k_z hq)⟩
abbrev z_in (s_z : Int32) (n_z : Nat) : Prop := 0 ≤ s_z ∧ s_z < nI n_z
theorem z_in.of {s_z : Int32} {n_z : Nat} (h_z : z_in s_z n_z) (hn : n_z < 2 ^ 31) : ∃ j_z, j_z < n_z ∧ s_z = nI j_z := by
  obtain ⟨j_z, hj, rfl⟩ := nI_of (z_nlt0 h_z.1)
  exact ⟨j_z, (nI_ltI hj hn).mp h_z.2, rfl⟩
theorem z_in.to {j_z n_z : Nat} (h_z : j_z < n_z) (hn : n_z < 2 ^ 31) : z_in (nI j_z) n_z := ⟨nI_pos' (by omega), (nI_ltI (by omega) hn).mpr h_z⟩
theorem c_X9_isStaff {g_z : z_U} {d_z : Nat} {zS : z_S} (hL : z_L zS) {n_z : Nat} (hn : z_I zS 7 9 = nI n_z) {s_z : Int32} : z_C g_z (d_z) 0 0 mX9_isStaff [.ref 4, .int s_z] zS (fun r_z zS' => zS = zS' ∧ ∃ v_z : Int32, r_z = some (.int v_z) ∧ (v_z = 0 ∧ ¬ z_in s_z n_z ∨ v_z = 1 ∧ z_in s_z n_z)) := by
  refine z_enter [some (.ref 4), some (.int s_z)] rfl rfl (Nat.le_of_ble_eq_true rfl) rfl (fun zX hM_z => ?_)
  have hB_z : z_B g_z zX RX9 cX9_isStaff 2 := hM_z.1
  refine z_s 1 hB_z dX9_isStaff_0 rfl rfl ?_
  refine z_b 4 19 hB_z dX9_isStaff_1 rfl rfl (by decide) (fun c_1 => ?_) (fun c_1 => ?_)
  ·
    refine z_s 20 hB_z dX9_isStaff_19 rfl rfl ?_
    refine z_zret hM_z dX9_isStaff_20 rfl (by decide) ?_ rfl rfl
    exact ⟨rfl, 0, rfl, Or.inl ⟨rfl, fun q_z => z_nlt0 q_z.1 c_1⟩⟩
  ·
    refine z_s 5 hB_z dX9_isStaff_4 rfl rfl ?_
    refine z_s 6 hB_z dX9_isStaff_5 rfl rfl ?_
    refine z_getR 9 hB_z fX9_19 (L4_z (zS := zS) hL) dX9_isStaff_6 rfl rfl (r4_1 (zS := zS) hL) ?_
    refine z_getI 12 hB_z fX9_107 (L7 (zS := zS) hL) dX9_isStaff_9 rfl rfl ?_
    refine z_b 15 19 hB_z dX9_isStaff_12 rfl rfl (by decide) (fun c_12 => ?_) (fun c_12 => ?_)
    ·
      refine z_s 20 hB_z dX9_isStaff_19 rfl rfl ?_
      refine z_zret hM_z dX9_isStaff_20 rfl (by decide) ?_ rfl rfl
      exact ⟨rfl, 0, rfl, Or.inl ⟨rfl, fun q_z => by rw [hn] at c_12; exact z_nlt0 c_12 q_z.2⟩⟩
    ·
      refine z_s 16 hB_z dX9_isStaff_15 rfl rfl ?_
      refine z_j 20 hB_z dX9_isStaff_16 (by decide) ?_
      refine z_zret hM_z dX9_isStaff_20 rfl (by decide) ?_ rfl rfl
      exact ⟨rfl, 1, rfl, Or.inr ⟨rfl, c_1, by rw [← hn]; exact c_12⟩⟩

theorem c_X9_isCustomer {g_z : z_U} {d_z : Nat} {zS : z_S} (hL : z_L zS) {n_z : Nat} (hn : z_I zS 7 10 = nI n_z) {s_z : Int32} : z_C g_z (d_z) 0 0 mX9_isCustomer [.ref 4, .int s_z] zS (fun r_z zS' => zS = zS' ∧ ∃ v_z : Int32, r_z = some (.int v_z) ∧ (v_z = 0 ∧ ¬ z_in s_z n_z ∨ v_z = 1 ∧ z_in s_z n_z)) := by
  refine z_enter [some (.ref 4), some (.int s_z)] rfl rfl (Nat.le_of_ble_eq_true rfl) rfl (fun zX hM_z => ?_)
  have hB_z : z_B g_z zX RX9 cX9_isCustomer 2 := hM_z.1
  refine z_s 1 hB_z dX9_isCustomer_0 rfl rfl ?_
  refine z_b 4 19 hB_z dX9_isCustomer_1 rfl rfl (by decide) (fun c_1 => ?_) (fun c_1 => ?_)
  ·
    refine z_s 20 hB_z dX9_isCustomer_19 rfl rfl ?_
    refine z_zret hM_z dX9_isCustomer_20 rfl (by decide) ?_ rfl rfl
    exact ⟨rfl, 0, rfl, Or.inl ⟨rfl, fun q_z => z_nlt0 q_z.1 c_1⟩⟩
  ·
    refine z_s 5 hB_z dX9_isCustomer_4 rfl rfl ?_
    refine z_s 6 hB_z dX9_isCustomer_5 rfl rfl ?_
    refine z_getR 9 hB_z fX9_19 (L4_z (zS := zS) hL) dX9_isCustomer_6 rfl rfl (r4_1 (zS := zS) hL) ?_
    refine z_getI 12 hB_z fX9_290 (L7 (zS := zS) hL) dX9_isCustomer_9 rfl rfl ?_
    refine z_b 15 19 hB_z dX9_isCustomer_12 rfl rfl (by decide) (fun c_12 => ?_) (fun c_12 => ?_)
    ·
      refine z_s 20 hB_z dX9_isCustomer_19 rfl rfl ?_
      refine z_zret hM_z dX9_isCustomer_20 rfl (by decide) ?_ rfl rfl
      exact ⟨rfl, 0, rfl, Or.inl ⟨rfl, fun q_z => by rw [hn] at c_12; exact z_nlt0 c_12 q_z.2⟩⟩
    ·
      refine z_s 16 hB_z dX9_isCustomer_15 rfl rfl ?_
      refine z_j 20 hB_z dX9_isCustomer_16 (by decide) ?_
      refine z_zret hM_z dX9_isCustomer_20 rfl (by decide) ?_ rfl rfl
      exact ⟨rfl, 1, rfl, Or.inr ⟨rfl, c_1, by rw [← hn]; exact c_12⟩⟩

theorem c_X9_areTwoStaff {g_z : z_U} {d_z : Nat} {zS : z_S} (hL : z_L zS) {n_z : Nat} (hn : z_I zS 7 9 = nI n_z) {a_z b_z : Int32} : z_C g_z (d_z + 1) 0 0 mX9_areTwoStaff [.ref 4, .int a_z, .int b_z] zS (fun r_z zS' => zS = zS' ∧ ∃ v_z : Int32, r_z = some (.int v_z) ∧ (v_z = 0 ∧ ¬ (z_in a_z n_z ∧ z_in b_z n_z ∧ a_z ≠ b_z) ∨ v_z = 1 ∧ z_in a_z n_z ∧ z_in b_z n_z ∧ a_z ≠ b_z)) := by
  refine z_enter [some (.ref 4), some (.int a_z), some (.int b_z)] rfl rfl (Nat.le_of_ble_eq_true rfl) rfl (fun zX hM_z => ?_)
  have hB_z : z_B g_z zX RX9 cX9_areTwoStaff 3 := hM_z.1
  refine z_s 1 hB_z dX9_areTwoStaff_0 rfl rfl ?_
  refine z_s 2 hB_z dX9_areTwoStaff_1 rfl rfl ?_
  refine z_callV 5 hB_z hM_z.2.1 kX9_110 dX9_areTwoStaff_2 rfl (L4_z (zS := zS) hL) rfl (c_X9_isStaff (d_z := 0) hL hn) (by omega) rfl rfl (Nat.le_of_ble_eq_true rfl) ⟨Nat.le_refl _, Nat.le_refl _⟩ ?_
  rintro _ _ ⟨rfl, v1_z, rfl, hv1⟩
  refine z_b 8 25 hB_z dX9_areTwoStaff_5 rfl rfl (by decide) (fun c_5 => ?_) (fun c_5 => ?_)
  ·
    refine z_s 26 hB_z dX9_areTwoStaff_25 rfl rfl ?_
    refine z_zret hM_z dX9_areTwoStaff_26 rfl (by decide) ?_ rfl rfl
    rcases hv1 with ⟨_, w1_z⟩ | ⟨w0_z, w1_z⟩
    · exact ⟨rfl, 0, rfl, Or.inl ⟨rfl, fun q_z => w1_z q_z.1⟩⟩
    · rw [w0_z] at c_5; exact absurd c_5 (by decide)
  ·
    refine z_s 9 hB_z dX9_areTwoStaff_8 rfl rfl ?_
    refine z_s 10 hB_z dX9_areTwoStaff_9 rfl rfl ?_
    refine z_callV 13 hB_z hM_z.2.1 kX9_110 dX9_areTwoStaff_10 rfl (L4_z (zS := zS) hL) rfl (c_X9_isStaff (d_z := 0) hL hn) (by omega) rfl rfl (Nat.le_of_ble_eq_true rfl) ⟨Nat.le_refl _, Nat.le_refl _⟩ ?_
    rintro _ _ ⟨rfl, v2, rfl, hv2⟩
    refine z_b 16 25 hB_z dX9_areTwoStaff_13 rfl rfl (by decide) (fun c_13 => ?_) (fun c_13 => ?_)
    ·
      refine z_s 26 hB_z dX9_areTwoStaff_25 rfl rfl ?_
      refine z_zret hM_z dX9_areTwoStaff_26 rfl (by decide) ?_ rfl rfl
      rcases hv2 with ⟨_, w1_z⟩ | ⟨w0_z, w1_z⟩
      · exact ⟨rfl, 0, rfl, Or.inl ⟨rfl, fun q_z => w1_z q_z.2.1⟩⟩
      · rw [w0_z] at c_13; exact absurd c_13 (by decide)
    ·
      refine z_s 17 hB_z dX9_areTwoStaff_16 rfl rfl ?_
      refine z_s 18 hB_z dX9_areTwoStaff_17 rfl rfl ?_
      refine z_b 21 25 hB_z dX9_areTwoStaff_18 rfl rfl (by decide) (fun c_18 => ?_) (fun c_18 => ?_)
      ·
        refine z_s 26 hB_z dX9_areTwoStaff_25 rfl rfl ?_
        refine z_zret hM_z dX9_areTwoStaff_26 rfl (by decide) ?_ rfl rfl
        exact ⟨rfl, 0, rfl, Or.inl ⟨rfl, fun q_z => q_z.2.2 c_18⟩⟩
      ·
        refine z_s 22 hB_z dX9_areTwoStaff_21 rfl rfl ?_
        refine z_j 26 hB_z dX9_areTwoStaff_22 (by decide) ?_
        refine z_zret hM_z dX9_areTwoStaff_26 rfl (by decide) ?_ rfl rfl
        rcases hv1 with ⟨w0_z, _⟩ | ⟨_, w1_z⟩
        · exact absurd w0_z c_5
        · rcases hv2 with ⟨w0_z, _⟩ | ⟨_, w2_z⟩
          · exact absurd w0_z c_13
          · exact ⟨rfl, 1, rfl, Or.inr ⟨rfl, w1_z, w2_z, c_18⟩⟩

theorem c_X9_woken {g_z : z_U} {d_z : Nat} {zS : z_S} {A_z : z_Ab} (hC : z_RC zS A_z) : z_C g_z (d_z + 5) 0 0 mX9_woken [.ref 4] zS (z_QP zS ((z_dayO (z_AV A_z) (z_AT A_z) (z_hasDog (z_AV A_z) (z_AT A_z 0))).1)) := by
  refine z_enter [some (.ref 4)] rfl rfl (Nat.le_of_ble_eq_true rfl) rfl (fun zX hM_z => ?_)
  have hB_z : z_B g_z zX RX9 cX9_woken 1 := hM_z.1
  obtain ⟨hL, hV, hT_z, hU, hK_z, hS_z, hX⟩ := id hC
  have hn : z_I zS 7 9 = nI (z_AV A_z).2.1 := hV.2.1
  have hm_z : z_I zS 7 10 = nI (z_AV A_z).2.2.1 := hV.2.2.1
  have hn6 := hV.2.2.2.2.1
  have hm10 := hV.2.2.2.2.2
  refine z_s 1 hB_z dX9_woken_0 rfl rfl ?_
  refine z_callV 4 hB_z hM_z.2.1 kX9_179 dX9_woken_1 rfl (L4_z (zS := zS) hL) rfl (c_X9_playTonight (d_z := 0) hL hV hT_z) (by omega) rfl rfl (Nat.le_of_ble_eq_true rfl) ⟨Nat.le_refl _, Nat.le_refl _⟩ ?_
  rintro _ _ ⟨rfl, I2_z, rfl, hf2, hN2⟩
  refine z_s 5 hB_z dX9_woken_4 rfl rfl ?_
  refine z_getR 8 hB_z fX9_40 (L4_z (zS := zS) hL) dX9_woken_5 rfl rfl (r4_4 (zS := zS) hL) ?_
  refine z_getI 11 hB_z fX9_182 (L48 (zS := zS) hL) dX9_woken_8 rfl rfl ?_
  refine z_iret hM_z dX9_woken_11 rfl ?_ rfl rfl
  exact ⟨by rw [show z_I (z_up zS I2_z) 48 3 = _ from hN2.2.1], I2_z, rfl, hf2.mono z_scrN⟩

def z_ansBehind (A_z : z_Ab) (n_z what : Int32) : Int32 := if 0 ≤ n_z ∧ n_z ≤ 28 ∧ 0 ≤ what ∧ what ≤ 2 then z_gob (z_AV A_z) n_z.toNatClampNeg (z_AT A_z) (if what = 0 then 1 else if what = 1 then 2 else 3) else -1
theorem z_le28 {n_z : Int32} (h0 : 0 ≤ n_z) {m_z : Nat} (hm_z : m_z < 2 ^ 31) (h1 : n_z ≤ nI m_z) : ∃ j_z, j_z ≤ m_z ∧ n_z = nI j_z := by
  obtain ⟨j_z, hj, rfl⟩ := nI_of (z_nlt0 h0)
  exact ⟨j_z, (nI_leI hj hm_z).mp h1, rfl⟩
set_option maxHeartbeats 1000000 in
theorem c_X9_behind {g_z : z_U} {d_z : Nat} {zS : z_S} {A_z : z_Ab} (hC : z_RC zS A_z) {n_z what : Int32} : z_C g_z (d_z + 5) 0 0 mX9_behind [.ref 4, .int n_z, .int what] zS (z_QP zS (z_ansBehind A_z n_z what)) := by
  refine z_enter [some (.ref 4), some (.int n_z), some (.int what)] rfl rfl (Nat.le_of_ble_eq_true rfl) rfl (fun zX hM_z => ?_)
  have hB_z : z_B g_z zX RX9 cX9_behind 3 := hM_z.1
  obtain ⟨hL, hV, hT_z, hU, hK_z, hS_z, hX⟩ := id hC
  have hn : z_I zS 7 9 = nI (z_AV A_z).2.1 := hV.2.1
  have hm_z : z_I zS 7 10 = nI (z_AV A_z).2.2.1 := hV.2.2.1
  have hn6 := hV.2.2.2.2.1
  have hm10 := hV.2.2.2.2.2
  refine z_s 1 hB_z dX9_behind_0 rfl rfl ?_
  refine z_b 4 19 hB_z dX9_behind_1 rfl rfl (by decide) (fun c_1 => ?_) (fun c_1 => ?_)
  ·
    refine z_s 20 hB_z dX9_behind_19 rfl rfl ?_
    refine z_iret hM_z dX9_behind_20 rfl ?_ rfl rfl
    exact ⟨by unfold z_ansBehind; rw [if_neg (fun q_z => z_nlt0 q_z.1 c_1)], z_I zS, rfl, z_fr.rf⟩
  ·
    refine z_s 5 hB_z dX9_behind_4 rfl rfl ?_
    refine z_s 7 hB_z dX9_behind_5 rfl rfl ?_
    refine z_b 10 19 hB_z dX9_behind_7 rfl rfl (by decide) (fun c_7 => ?_) (fun c_7 => ?_)
    ·
      refine z_s 20 hB_z dX9_behind_19 rfl rfl ?_
      refine z_iret hM_z dX9_behind_20 rfl ?_ rfl rfl
      exact ⟨by unfold z_ansBehind; rw [if_neg (fun q_z => z_nle0 c_7 q_z.2.1)], z_I zS, rfl, z_fr.rf⟩
    ·
      refine z_s 11 hB_z dX9_behind_10 rfl rfl ?_
      refine z_b 14 19 hB_z dX9_behind_11 rfl rfl (by decide) (fun c_11 => ?_) (fun c_11 => ?_)
      ·
        refine z_s 20 hB_z dX9_behind_19 rfl rfl ?_
        refine z_iret hM_z dX9_behind_20 rfl ?_ rfl rfl
        exact ⟨by unfold z_ansBehind; rw [if_neg (fun q_z => z_nlt0 q_z.2.2.1 c_11)], z_I zS, rfl, z_fr.rf⟩
      ·
        refine z_s 15 hB_z dX9_behind_14 rfl rfl ?_
        refine z_s 16 hB_z dX9_behind_15 rfl rfl ?_
        refine z_b 19 21 hB_z dX9_behind_16 rfl rfl (by decide) (fun c_16 => ?_) (fun c_16 => ?_)
        ·
          obtain ⟨j_z, hj, rfl⟩ := z_le28 c_1 (m_z := 28) (by decide) c_7
          refine z_s 22 hB_z dX9_behind_21 rfl rfl ?_
          refine z_getR 25 hB_z fX9_51 (L4_z (zS := zS) hL) dX9_behind_22 rfl rfl (r4_6 (zS := zS) hL) ?_
          refine z_s 26 hB_z dX9_behind_25 rfl rfl ?_
          refine z_getR 29 hB_z fX9_47 (L4_z (zS := zS) hL) dX9_behind_26 rfl rfl (r4_5 (zS := zS) hL) ?_
          refine z_callV 32 hB_z hM_z.2.1 kX9_210 dX9_behind_29 rfl (L54 (zS := zS) hL) rfl (c_X7_copy (d_z := 0) (s54 hL) (s51 hL) (by decide) (by decide)) (by omega) rfl rfl (Nat.le_of_ble_eq_true rfl) ⟨Nat.le_refl _, Nat.le_refl _⟩ ?_
          rintro _ _ ⟨rfl, I2_z, rfl, hf2, hT2⟩
          have hV2 : z_rV (z_I (z_up zS I2_z)) 7 (z_AV A_z) := hV.fr hf2 (by omega)
          have hT3 := hT2 _ hT_z
          refine z_s 33 hB_z dX9_behind_32 rfl rfl ?_
          refine z_s 34 hB_z dX9_behind_33 rfl rfl ?_
          refine z_getR 37 hB_z fX9_51 (L4_z (zS := zS) hL) dX9_behind_34 rfl rfl (r4_6 (zS := zS) hL) ?_
          refine z_s 38 hB_z dX9_behind_37 rfl rfl ?_
          refine z_callV 41 hB_z hM_z.2.1 kX9_189 dX9_behind_38 rfl (L4_z (zS := zS) hL) rfl (c_X9_goBy (zS := z_up zS I2_z) (d_z := 0) hL hV2 (by decide) (s54 hL) hT3 (by omega)) (by omega) rfl rfl (Nat.le_of_ble_eq_true rfl) ⟨Nat.le_refl _, Nat.le_refl _⟩ ?_
          rintro _ _ ⟨rfl, I3, rfl, hf3, hT4, _⟩
          refine z_s 42 hB_z dX9_behind_41 rfl rfl ?_
          refine z_b 45 55 hB_z dX9_behind_42 rfl rfl (by decide) (fun c_42 => ?_) (fun c_42 => ?_)
          ·
            refine z_s 56 hB_z dX9_behind_55 rfl rfl ?_
            refine z_s 57 hB_z dX9_behind_56 rfl rfl ?_
            refine z_b 60 70 hB_z dX9_behind_57 rfl rfl (by decide) (fun c_57 => ?_) (fun c_57 => ?_)
            ·
              refine z_s 71 hB_z dX9_behind_70 rfl rfl ?_
              refine z_getR 74 hB_z fX9_51 (L4_z (zS := zS) hL) dX9_behind_71 rfl rfl (r4_6 (zS := zS) hL) ?_
              refine z_getI 77 hB_z fX9_219 (L54 (zS := zS) hL) dX9_behind_74 rfl rfl ?_
              refine z_iret hM_z dX9_behind_77 rfl ?_ rfl rfl
              refine ⟨?_, I3, rfl, (hf2.mono z_scrT).tr (hf3.mono z_scrG)⟩
              unfold z_ansBehind
              rw [if_pos ⟨c_1, c_7, c_11, c_16⟩, nI_clamp (by omega)]
              rw [if_neg c_42, if_neg c_57]
              exact congrArg (fun q_z => some (Value.int q_z)) (hT4.1 3 (by decide))
            ·
              refine z_s 61 hB_z dX9_behind_60 rfl rfl ?_
              refine z_getR 64 hB_z fX9_51 (L4_z (zS := zS) hL) dX9_behind_61 rfl rfl (r4_6 (zS := zS) hL) ?_
              refine z_getI 67 hB_z fX9_216 (L54 (zS := zS) hL) dX9_behind_64 rfl rfl ?_
              refine z_j 77 hB_z dX9_behind_67 (by decide) ?_
              refine z_iret hM_z dX9_behind_77 rfl ?_ rfl rfl
              refine ⟨?_, I3, rfl, (hf2.mono z_scrT).tr (hf3.mono z_scrG)⟩
              unfold z_ansBehind
              rw [if_pos ⟨c_1, c_7, c_11, c_16⟩, nI_clamp (by omega)]
              rw [if_neg c_42, if_pos c_57]
              exact congrArg (fun q_z => some (Value.int q_z)) (hT4.1 2 (by decide))
          ·
            refine z_s 46 hB_z dX9_behind_45 rfl rfl ?_
            refine z_getR 49 hB_z fX9_51 (L4_z (zS := zS) hL) dX9_behind_46 rfl rfl (r4_6 (zS := zS) hL) ?_
            refine z_getI 52 hB_z fX9_213 (L54 (zS := zS) hL) dX9_behind_49 rfl rfl ?_
            refine z_j 77 hB_z dX9_behind_52 (by decide) ?_
            refine z_iret hM_z dX9_behind_77 rfl ?_ rfl rfl
            refine ⟨?_, I3, rfl, (hf2.mono z_scrT).tr (hf3.mono z_scrG)⟩
            unfold z_ansBehind
            rw [if_pos ⟨c_1, c_7, c_11, c_16⟩, nI_clamp (by omega)]
            rw [if_pos c_42]
            exact congrArg (fun q_z => some (Value.int q_z)) (hT4.1 1 (by decide))
        ·
          refine z_s 20 hB_z dX9_behind_19 rfl rfl ?_
          refine z_iret hM_z dX9_behind_20 rfl ?_ rfl rfl
          exact ⟨by unfold z_ansBehind; rw [if_neg (fun q_z => z_nle0 c_16 q_z.2.2.2)], z_I zS, rfl, z_fr.rf⟩

