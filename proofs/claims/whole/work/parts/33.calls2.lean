/-! the calls that change: the text, what is seen, and nights -/
def z_CP (zS : z_S) (q_z : z_Ab × Int32) : Option Value → z_S → Prop := fun r_z zS' => r_z = some (.int q_z.2) ∧ z_RC zS' q_z.1 ∧ z_kM zS zS'
def z_setX (A_z : z_Ab) (x_z : (Nat → Int32) × Nat) : z_Ab := (A_z.1, A_z.2.1, A_z.2.2.1, A_z.2.2.2.1, A_z.2.2.2.2.1, x_z)
def z_setS (A_z : z_Ab) (x_z : (Nat → Int32) × (Nat → Int32) × (Nat → Int32) × Nat) : z_Ab := (A_z.1, A_z.2.1, A_z.2.2.1, A_z.2.2.2.1, x_z, A_z.2.2.2.2.2)
def z_setT (A_z : z_Ab) (x_z : Nat → Int32) : z_Ab := (A_z.1, x_z, A_z.2.2)
def z_setU (A_z : z_Ab) (x_z : (Nat → Nat → Int32) × Nat) : z_Ab := (A_z.1, A_z.2.1, x_z, A_z.2.2.2)
def z_setK (A_z : z_Ab) (x_z : (Nat → Nat → Int32) × Nat) : z_Ab := (A_z.1, A_z.2.1, A_z.2.2.1, x_z, A_z.2.2.2.2)
theorem z_kM.rf {zS : z_S} : z_kM zS zS := ⟨rfl, rfl, fun _ _ _ => rfl, fun _ _ _ => rfl⟩
theorem z_RC.ofX {zS : z_S} {A_z : z_Ab} {zI' : Nat → Nat → Int32} {x_z : (Nat → Int32) × Nat} (h_z : z_RC zS A_z) (hf : z_fr (fun q_z => q_z = 5 ∨ q_z = 6) (z_I zS) zI') (hx : z_rX zI' x_z) : z_RC (z_up zS zI') (z_setX A_z x_z) := by
  obtain ⟨h1, h2, h3, h4, h5, h6, h7⟩ := h_z
  exact ⟨h1, h2.fr hf (fun q_z a_z b_z => by omega), h3.fr hf ⟨by omega, by omega⟩, h4.fr hf (by omega) (fun q_z a_z b_z => by omega), h5.fr hf (by omega) (fun q_z a_z b_z => by omega), h6.fr hf (fun q_z a_z b_z => by omega), hx⟩
theorem z_RC.ofS {zS : z_S} {A_z : z_Ab} {zI' : Nat → Nat → Int32} {x_z : (Nat → Int32) × (Nat → Int32) × (Nat → Int32) × Nat} (h_z : z_RC zS A_z) (hf : z_fr (fun q_z => 91 ≤ q_z ∧ q_z < 98) (z_I zS) zI') (hx : z_rS zI' x_z) : z_RC (z_up zS zI') (z_setS A_z x_z) := by
  obtain ⟨h1, h2, h3, h4, h5, h6, h7⟩ := h_z
  exact ⟨h1, h2.fr hf (fun q_z a_z b_z => by omega), h3.fr hf ⟨by omega, by omega⟩, h4.fr hf (by omega) (fun q_z a_z b_z => by omega), h5.fr hf (by omega) (fun q_z a_z b_z => by omega), hx, h7.fr hf (by omega) (by omega)⟩
theorem z_RC.ofT {zS : z_S} {A_z : z_Ab} {zI' : Nat → Nat → Int32} {x_z : Nat → Int32} (h_z : z_RC zS A_z) (hf : z_fr (fun q_z => z_scr q_z ∨ q_z = 51 ∨ q_z = 53) (z_I zS) zI') (hx : z_rT zI' 51 x_z) : z_RC (z_up zS zI') (z_setT A_z x_z) := by
  obtain ⟨h1, h2, h3, h4, h5, h6, h7⟩ := h_z
  have hn : ∀ q_z : Nat, q_z < 26 ∨ (57 ≤ q_z ∧ q_z < 98) → ¬ (z_scr q_z ∨ q_z = 51 ∨ q_z = 53) := fun q_z hq z_z => by
    unfold z_scr at z_z
    omega
  exact ⟨h1, h2.fr hf (fun q_z a_z b_z => hn q_z (by omega)), hx, h4.fr hf (hn _ (by omega)) (fun q_z a_z b_z => hn q_z (by omega)), h5.fr hf (hn _ (by omega)) (fun q_z a_z b_z => hn q_z (by omega)), h6.fr hf (fun q_z a_z b_z => hn q_z (by omega)), h7.fr hf (hn _ (by omega)) (hn _ (by omega))⟩
theorem z_rL_ne : ∀ t_z ∈ z_rL, t_z.1 ≠ 58 ∧ t_z.1 ≠ 84 := by decide +kernel
theorem z_L.w {zS : z_S} {zI' : Nat → Nat → Int32} {R_z' : Nat → Nat → Option Nat} (h_z : z_L zS) (hR : ∀ q_z k_z, q_z ≠ 58 → q_z ≠ 84 → R_z' q_z k_z = z_R zS q_z k_z) : z_L (z_w zS zI' R_z') :=
  ⟨h_z.1, h_z.2.1, fun t_z ht => (hR _ _ (z_rL_ne t_z ht).1 (z_rL_ne t_z ht).2).trans (h_z.2.2 t_z ht)⟩
theorem z_shelf.w {P_z : Nat → Prop} {zS : z_S} {zI' : Nat → Nat → Int32} {R_z' : Nat → Nat → Option Nat} {f_z a_z N_z b_z u_z c_z : Nat} {U_z : Nat → Nat → Int32} (h_z : z_shelf zS f_z a_z N_z b_z U_z u_z) (hf : z_fr P_z (z_I zS) zI') (h1 : ¬ P_z f_z) (h2 : ∀ q_z, b_z ≤ q_z → q_z < b_z + 3 * N_z → ¬ P_z q_z) (hR : z_Rf c_z (z_R zS) R_z') (hc_z : c_z ≠ f_z ∧ c_z ≠ a_z ∧ (c_z < b_z ∨ b_z + 3 * N_z ≤ c_z)) : z_shelf (z_w zS zI' R_z') f_z a_z N_z b_z U_z u_z := by
  obtain ⟨r_z, ⟨g1, g2, g3_z, g4, g5_z, g6, g7⟩, hz, hu, hU⟩ := h_z
  refine ⟨r_z, ⟨g1, (hR _ _ (Ne.symm hc_z.1)).trans g2, g3_z, fun j_z hj => (hR _ _ (Ne.symm hc_z.2.1)).trans (g4 j_z hj), g5_z, g6, fun i_z hi_z => ?_⟩, (hf f_z 1 h1).trans hz, hu, fun j_z hj => ?_⟩
  · have k_z := g7 i_z hi_z
    exact ⟨k_z.1, (hR _ _ (by omega)).trans k_z.2.1, k_z.2.2.1, (hR _ _ (by omega)).trans k_z.2.2.2.1, k_z.2.2.2.2⟩
  · have := g5_z j_z (by omega)
    exact (hU j_z hj).fr hf ⟨h2 _ (by omega) (by omega), h2 _ (by omega) (by omega)⟩
def z_push (q_z : (Nat → Nat → Int32) × Nat) (zT : Nat → Int32) (N_z : Nat) : (Nat → Nat → Int32) × Nat := (if q_z.2 < N_z then (fun j_z => if j_z = q_z.2 then zT else q_z.1 j_z) else fun j_z => if j_z = N_z - 1 then zT else q_z.1 (j_z + 1), if q_z.2 < N_z then q_z.2 + 1 else N_z)
theorem z_RC.ofU {zS : z_S} {A_z : z_Ab} {zI' : Nat → Nat → Int32} {R_z' : Nat → Nat → Option Nat} {x_z : (Nat → Nat → Int32) × Nat} (h_z : z_RC zS A_z) (hf : z_fr (z_PS 57 59 8) (z_I zS) zI') (hR : z_Rf 58 (z_R zS) R_z') (hx : z_shelf (z_w zS zI' R_z') 57 58 8 59 x_z.1 x_z.2) : z_RC (z_w zS zI' R_z') (z_setU A_z x_z) ∧ z_kM zS (z_w zS zI' R_z') := by
  obtain ⟨h1, h2, h3, h4, h5, h6, h7⟩ := h_z
  have hn : ∀ q_z : Nat, q_z < 57 ∨ 83 ≤ q_z → ¬ z_PS 57 59 8 q_z := fun q_z hq z_z => by
    unfold z_PS at z_z
    omega
  exact ⟨⟨h1.w (fun q_z k_z a_z _ => hR q_z k_z a_z), h2.fr hf (fun q_z a_z b_z => hn q_z (by omega)), h3.fr hf ⟨hn _ (by omega), hn _ (by omega)⟩, hx, h5.w hf (hn _ (by omega)) (fun q_z a_z b_z => hn q_z (by omega)) hR (by decide), h6.fr hf (fun q_z a_z b_z => hn q_z (by omega)), h7.fr hf (hn _ (by omega)) (hn _ (by omega))⟩, rfl, rfl, fun q_z k_z hq => hf q_z k_z (hn q_z (by omega)), fun q_z k_z hq => hR q_z k_z (by omega)⟩
theorem z_RC.ofK {zS : z_S} {A_z : z_Ab} {zI' : Nat → Nat → Int32} {R_z' : Nat → Nat → Option Nat} {x_z : (Nat → Nat → Int32) × Nat} (h_z : z_RC zS A_z) (hf : z_fr (z_PS 83 85 2) (z_I zS) zI') (hR : z_Rf 84 (z_R zS) R_z') (hx : z_shelf (z_w zS zI' R_z') 83 84 2 85 x_z.1 x_z.2) : z_RC (z_w zS zI' R_z') (z_setK A_z x_z) ∧ z_kM zS (z_w zS zI' R_z') := by
  obtain ⟨h1, h2, h3, h4, h5, h6, h7⟩ := h_z
  have hn : ∀ q_z : Nat, q_z < 83 ∨ 91 ≤ q_z → ¬ z_PS 83 85 2 q_z := fun q_z hq z_z => by
    unfold z_PS at z_z
    omega
  exact ⟨⟨h1.w (fun q_z k_z _ a_z => hR q_z k_z a_z), h2.fr hf (fun q_z a_z b_z => hn q_z (by omega)), h3.fr hf ⟨hn _ (by omega), hn _ (by omega)⟩, h4.w hf (hn _ (by omega)) (fun q_z a_z b_z => hn q_z (by omega)) hR (by decide), hx, h6.fr hf (fun q_z a_z b_z => hn q_z (by omega)), h7.fr hf (hn _ (by omega)) (hn _ (by omega))⟩, rfl, rfl, fun q_z k_z hq => hf q_z k_z (hn q_z (by omega)), fun q_z k_z hq => hR q_z k_z (by omega)⟩
theorem c_X8_add {g_z : z_U} {d_z : Nat} {zS : z_S} (hL : z_L zS) {v_z : Int32} {n_z : Nat} (hn : z_I zS 5 1 = nI n_z) (h200 : n_z < 200) : z_C g_z (d_z) 0 0 mX8_add [.ref 5, .int v_z] zS (fun r_z zS' => r_z = none ∧ z_pI (z_pI zS 6 n_z v_z) 5 1 (nI (n_z + 1)) = zS') := by
  refine z_enter [some (.ref 5), some (.int v_z)] rfl rfl (Nat.le_of_ble_eq_true rfl) rfl (fun zX hM_z => ?_)
  have hB_z : z_B g_z zX RX8 cX8_add 2 := hM_z.1
  refine z_s 1 hB_z dX8_add_0 rfl rfl ?_
  refine z_getI 4 hB_z fX8_15 (L5_z (zS := zS) hL) dX8_add_1 rfl rfl ?_
  refine z_b 7 39 hB_z dX8_add_4 rfl rfl (by decide) (fun c_4 => ?_) (fun c_4 => ?_)
  ·
    exact absurd c_4 (by rw [hn]; exact nI_pos (by omega))
  ·
    refine z_s 8 hB_z dX8_add_7 rfl rfl ?_
    refine z_getI 11 hB_z fX8_15 (L5_z (zS := zS) hL) dX8_add_8 rfl rfl ?_
    refine z_s 12 hB_z dX8_add_11 rfl rfl ?_
    refine z_getR 15 hB_z fX8_9 (L5_z (zS := zS) hL) dX8_add_12 rfl rfl (r5_0 (zS := zS) hL) ?_
    refine z_alen 16 hB_z (L6_z (zS := zS) hL) dX8_add_15 rfl ?_
    refine z_b 19 39 hB_z dX8_add_16 rfl rfl (by decide) (fun c_16 => ?_) (fun c_16 => ?_)
    ·
      exact absurd c_16 (by rw [hn]; exact nI_ge h200 (by omega))
    ·
      refine z_s 20 hB_z dX8_add_19 rfl rfl ?_
      refine z_getR 23 hB_z fX8_9 (L5_z (zS := zS) hL) dX8_add_20 rfl rfl (r5_0 (zS := zS) hL) ?_
      refine z_s 24 hB_z dX8_add_23 rfl rfl ?_
      refine z_getI 27 hB_z fX8_15 (L5_z (zS := zS) hL) dX8_add_24 rfl rfl ?_
      refine z_s 28 hB_z dX8_add_27 rfl rfl ?_
      rw [hn]
      refine z_ast 29 hB_z (L6_z (zS := zS) hL) dX8_add_28 rfl (vp_in_nI h200 (by omega)) ?_
      rw [nI_clamp (by omega)]
      refine z_s 30 hB_z dX8_add_29 rfl rfl ?_
      refine z_s 31 hB_z dX8_add_30 rfl rfl ?_
      refine z_getI 34 hB_z fX8_15 (L5_z (zS := zS) hL) dX8_add_31 rfl rfl ?_
      refine z_s 35 hB_z dX8_add_34 rfl rfl ?_
      refine z_s 36 hB_z dX8_add_35 rfl rfl ?_
      rw [show z_I (z_pI zS 6 n_z v_z) 5 1 = nI n_z from (z_Ine (Or.inl (by decide))).trans hn, z_inc]
      refine z_putI 39 hB_z fX8_15 (L5_z (zS := zS) hL) dX8_add_36 rfl rfl rfl ?_
      refine z_vret hM_z dX8_add_39 rfl ?_ rfl rfl
      exact ⟨rfl, rfl⟩

theorem c_X8_clear {g_z : z_U} {d_z : Nat} {zS : z_S} (hL : z_L zS) : z_C g_z (d_z) 0 0 mX8_clear [.ref 5] zS (fun r_z zS' => r_z = none ∧ z_pI zS 5 1 0 = zS') := by
  refine z_enter [some (.ref 5)] rfl rfl (Nat.le_of_ble_eq_true rfl) rfl (fun zX hM_z => ?_)
  have hB_z : z_B g_z zX RX8 cX8_clear 1 := hM_z.1
  refine z_s 1 hB_z dX8_clear_0 rfl rfl ?_
  refine z_s 2 hB_z dX8_clear_1 rfl rfl ?_
  refine z_putI 5 hB_z fX8_15 (L5_z (zS := zS) hL) dX8_clear_2 rfl rfl rfl ?_
  refine z_vret hM_z dX8_clear_5 rfl ?_ rfl rfl
  exact ⟨rfl, rfl⟩

def z_write (A_z : z_Ab) (l : Int32) : z_Ab × Int32 := if 32 ≤ l ∧ l ≤ 126 then (if (z_AX A_z).2 < 200 then (z_setX A_z (fun i_z => if i_z = (z_AX A_z).2 then l else (z_AX A_z).1 i_z, (z_AX A_z).2 + 1), nI ((z_AX A_z).2 + 1)) else (A_z, -3)) else (A_z, -1)
def z_wipe (A_z : z_Ab) : z_Ab × Int32 := (z_setX A_z ((z_AX A_z).1, 0), nI (z_AX A_z).2)
theorem z_CP.of {zS : z_S} {A_z : z_Ab} {x_z : Int32} {q_z : z_Ab × Int32} (hC : z_RC zS A_z) (h_z : q_z = (A_z, x_z)) : z_CP zS q_z (some (.int x_z)) zS := by
  subst h_z
  exact ⟨rfl, hC, z_kM.rf⟩
set_option maxHeartbeats 1000000 in
theorem c_X9_write {g_z : z_U} {d_z : Nat} {zS : z_S} {A_z : z_Ab} (hC : z_RC zS A_z) {l : Int32} : z_C g_z (d_z + 1) 0 0 mX9_write [.ref 4, .int l] zS (z_CP zS (z_write A_z l)) := by
  refine z_enter [some (.ref 4), some (.int l)] rfl rfl (Nat.le_of_ble_eq_true rfl) rfl (fun zX hM_z => ?_)
  have hB_z : z_B g_z zX RX9 cX9_write 2 := hM_z.1
  obtain ⟨hL, hV, hT_z, hU, hK_z, hS_z, hX⟩ := id hC
  have hn : z_I zS 7 9 = nI (z_AV A_z).2.1 := hV.2.1
  have hm_z : z_I zS 7 10 = nI (z_AV A_z).2.2.1 := hV.2.2.1
  have hn6 := hV.2.2.2.2.1
  have hm10 := hV.2.2.2.2.2
  have hx := hX.1
  have h200 := hX.2.1
  refine z_s 1 hB_z dX9_write_0 rfl rfl ?_
  refine z_s 3 hB_z dX9_write_1 rfl rfl ?_
  refine z_b 6 12 hB_z dX9_write_3 rfl rfl (by decide) (fun c_3 => ?_) (fun c_3 => ?_)
  ·
    refine z_s 13 hB_z dX9_write_12 rfl rfl ?_
    refine z_iret hM_z dX9_write_13 rfl ?_ rfl rfl
    exact z_CP.of hC (by unfold z_write; rw [if_neg (fun q_z => z_nlt0 q_z.1 c_3)])
  ·
    refine z_s 7 hB_z dX9_write_6 rfl rfl ?_
    refine z_s 9 hB_z dX9_write_7 rfl rfl ?_
    refine z_b 12 14 hB_z dX9_write_9 rfl rfl (by decide) (fun c_9 => ?_) (fun c_9 => ?_)
    ·
      refine z_s 15 hB_z dX9_write_14 rfl rfl ?_
      refine z_getR 18 hB_z fX9_12 (L4_z (zS := zS) hL) dX9_write_15 rfl rfl (r4_0 (zS := zS) hL) ?_
      refine z_getI 21 hB_z fX9_104 (L5_z (zS := zS) hL) dX9_write_18 rfl rfl ?_
      refine z_s 24 hB_z dX9_write_21 rfl rfl ?_
      refine z_b 27 30 hB_z dX9_write_24 rfl rfl (by decide) (fun c_24 => ?_) (fun c_24 => ?_)
      ·
        have h3 : (z_AX A_z).2 < 200 := (nI_ltI (by omega) (by decide)).mp (by rw [← hx]; exact c_24)
        refine z_s 31 hB_z dX9_write_30 rfl rfl ?_
        refine z_getR 34 hB_z fX9_12 (L4_z (zS := zS) hL) dX9_write_31 rfl rfl (r4_0 (zS := zS) hL) ?_
        refine z_s 35 hB_z dX9_write_34 rfl rfl ?_
        refine z_callV 38 hB_z hM_z.2.1 kX9_92 dX9_write_35 rfl (L5_z (zS := zS) hL) rfl (c_X8_add (d_z := 0) hL hx h3) (by omega) rfl rfl (Nat.le_of_ble_eq_true rfl) ⟨Nat.le_refl _, Nat.le_refl _⟩ ?_
        rintro _ _ ⟨rfl, rfl⟩
        refine z_s 39 hB_z dX9_write_38 rfl rfl ?_
        refine z_getR 42 hB_z fX9_12 (L4_z (zS := zS) hL) dX9_write_39 rfl rfl (r4_0 (zS := zS) hL) ?_
        refine z_getI 45 hB_z fX9_104 (L5_z (zS := zS) hL) dX9_write_42 rfl rfl ?_
        refine z_iret hM_z dX9_write_45 rfl ?_ rfl rfl
        unfold z_write
        rw [if_pos ⟨c_3, c_9⟩, if_pos h3]
        refine ⟨by rw [z_Ieq], hC.ofX (zI' := z_u2 (z_u2 (z_I zS) 6 (z_AX A_z).2 l) 5 1 (nI ((z_AX A_z).2 + 1))) ((z_fr.rf.u2 (Or.inr rfl)).u2 (Or.inl rfl)) ⟨z_u2_same _ _ _ _, h3, fun i_z hi_z => ?_⟩, z_kM.up (P_z := fun q_z => q_z = 5 ∨ q_z = 6) ((z_fr.rf.u2 (Or.inr rfl)).u2 (Or.inl rfl)) (fun q_z hq => by omega)⟩
        rw [z_u2_ne (Or.inl (by decide))]
        show _ = if i_z = (z_AX A_z).2 then l else (z_AX A_z).1 i_z
        by_cases h_z : i_z = (z_AX A_z).2
        · rw [if_pos h_z, h_z, z_u2_same]
        · rw [if_neg h_z, z_u2_ne (Or.inr h_z)]
          exact hX.2.2 i_z (by have : i_z < (z_AX A_z).2 + 1 := hi_z; omega)
      ·
        refine z_s 29 hB_z dX9_write_27 rfl rfl ?_
        refine z_iret hM_z dX9_write_29 rfl ?_ rfl rfl
        have h3 : ¬ (z_AX A_z).2 < 200 := fun q_z => z_nlt0 c_24 (by rw [hx]; exact (nI_ltI (by omega) (by decide)).mpr q_z)
        exact z_CP.of hC (by unfold z_write; rw [if_pos ⟨c_3, c_9⟩, if_neg h3])
    ·
      refine z_s 13 hB_z dX9_write_12 rfl rfl ?_
      refine z_iret hM_z dX9_write_13 rfl ?_ rfl rfl
      exact z_CP.of hC (by unfold z_write; rw [if_neg (fun q_z => z_nle0 c_9 q_z.2)])

theorem c_X9_wipe {g_z : z_U} {d_z : Nat} {zS : z_S} {A_z : z_Ab} (hC : z_RC zS A_z) : z_C g_z (d_z + 1) 0 0 mX9_wipe [.ref 4] zS (z_CP zS (z_wipe A_z)) := by
  refine z_enter [some (.ref 4), none] rfl rfl (Nat.le_of_ble_eq_true rfl) rfl (fun zX hM_z => ?_)
  have hB_z : z_B g_z zX RX9 cX9_wipe 2 := hM_z.1
  obtain ⟨hL, hV, hT_z, hU, hK_z, hS_z, hX⟩ := id hC
  have hn : z_I zS 7 9 = nI (z_AV A_z).2.1 := hV.2.1
  have hm_z : z_I zS 7 10 = nI (z_AV A_z).2.2.1 := hV.2.2.1
  have hn6 := hV.2.2.2.2.1
  have hm10 := hV.2.2.2.2.2
  refine z_s 1 hB_z dX9_wipe_0 rfl rfl ?_
  refine z_getR 4 hB_z fX9_12 (L4_z (zS := zS) hL) dX9_wipe_1 rfl rfl (r4_0 (zS := zS) hL) ?_
  refine z_getI 7 hB_z fX9_104 (L5_z (zS := zS) hL) dX9_wipe_4 rfl rfl ?_
  refine z_s 8 hB_z dX9_wipe_7 rfl rfl ?_
  refine z_s 9 hB_z dX9_wipe_8 rfl rfl ?_
  refine z_getR 12 hB_z fX9_12 (L4_z (zS := zS) hL) dX9_wipe_9 rfl rfl (r4_0 (zS := zS) hL) ?_
  refine z_callV 15 hB_z hM_z.2.1 kX9_101 dX9_wipe_12 rfl (L5_z (zS := zS) hL) rfl (c_X8_clear (d_z := 0) hL) (by omega) rfl rfl (Nat.le_of_ble_eq_true rfl) ⟨Nat.le_refl _, Nat.le_refl _⟩ ?_
  rintro _ _ ⟨rfl, rfl⟩
  refine z_s 16 hB_z dX9_wipe_15 rfl rfl ?_
  refine z_iret hM_z dX9_wipe_16 rfl ?_ rfl rfl
  exact ⟨by rw [hX.1]; rfl, hC.ofX (zI' := z_u2 (z_I zS) 5 1 0) (z_fr.rf.u2 (Or.inl rfl)) ⟨z_u2_same _ _ _ _, by show 0 ≤ 200; omega, fun i_z hi_z => absurd hi_z (Nat.not_lt_zero i_z)⟩, z_kM.up (P_z := fun q_z => q_z = 5 ∨ q_z = 6) (z_fr.rf.u2 (Or.inl rfl)) (fun q_z hq => by omega)⟩

def z_pass (A_z : z_Ab) (n_z : Int32) : z_Ab × Int32 := if 1 ≤ n_z ∧ n_z ≤ 14 then (z_setT (z_setU A_z (z_push (z_AU A_z) (z_AT A_z) 8)) (z_gob (z_AV A_z) n_z.toNatClampNeg (z_AT A_z)), z_gob (z_AV A_z) n_z.toNatClampNeg (z_AT A_z) 0) else (A_z, -1)
theorem z_scrG51 : ∀ q_z, z_PG 51 q_z → z_scr q_z ∨ q_z = 51 ∨ q_z = 53 := fun q_z h_z => by
  unfold z_scr
  rcases h_z with (h_z | h_z) | h_z | h_z <;> omega
set_option maxHeartbeats 1000000 in
theorem c_X9_pass {g_z : z_U} {d_z : Nat} {zS : z_S} {A_z : z_Ab} (hC : z_RC zS A_z) {n_z : Int32} : z_C g_z (d_z + 5) 0 0 mX9_pass [.ref 4, .int n_z] zS (z_CP zS (z_pass A_z n_z)) := by
  refine z_enter [some (.ref 4), some (.int n_z)] rfl rfl (Nat.le_of_ble_eq_true rfl) rfl (fun zX hM_z => ?_)
  have hB_z : z_B g_z zX RX9 cX9_pass 2 := hM_z.1
  obtain ⟨hL, hV, hT_z, hU, hK_z, hS_z, hX⟩ := id hC
  have hn : z_I zS 7 9 = nI (z_AV A_z).2.1 := hV.2.1
  have hm_z : z_I zS 7 10 = nI (z_AV A_z).2.2.1 := hV.2.2.1
  have hn6 := hV.2.2.2.2.1
  have hm10 := hV.2.2.2.2.2
  refine z_s 1 hB_z dX9_pass_0 rfl rfl ?_
  refine z_s 2 hB_z dX9_pass_1 rfl rfl ?_
  refine z_b 5 11 hB_z dX9_pass_2 rfl rfl (by decide) (fun c_2 => ?_) (fun c_2 => ?_)
  ·
    refine z_s 12 hB_z dX9_pass_11 rfl rfl ?_
    refine z_iret hM_z dX9_pass_12 rfl ?_ rfl rfl
    exact z_CP.of hC (by unfold z_pass; rw [if_neg (fun q_z => z_nlt0 q_z.1 c_2)])
  ·
    refine z_s 6 hB_z dX9_pass_5 rfl rfl ?_
    refine z_s 8 hB_z dX9_pass_6 rfl rfl ?_
    refine z_b 11 13 hB_z dX9_pass_8 rfl rfl (by decide) (fun c_8 => ?_) (fun c_8 => ?_)
    ·
      obtain ⟨j_z, hj, rfl⟩ := z_le28 (Int32.le_trans (by decide) c_2) (m_z := 14) (by decide) c_8
      refine z_s 14 hB_z dX9_pass_13 rfl rfl ?_
      refine z_getR 17 hB_z fX9_59 (L4_z (zS := zS) hL) dX9_pass_14 rfl rfl (r4_7 (zS := zS) hL) ?_
      refine z_s 18 hB_z dX9_pass_17 rfl rfl ?_
      refine z_getR 21 hB_z fX9_47 (L4_z (zS := zS) hL) dX9_pass_18 rfl rfl (r4_5 (zS := zS) hL) ?_
      refine z_callV 24 hB_z hM_z.2.1 kX9_185 dX9_pass_21 rfl (L57 (zS := zS) hL) rfl (c_X4_put (d_z := 0) hU (by decide) (by decide) (s51 hL) hT_z (by decide) (by decide) (by decide)) (by omega) rfl rfl (Nat.le_of_ble_eq_true rfl) ⟨Nat.le_refl _, Nat.le_refl _⟩ ?_
      rintro _ _ ⟨rfl, I1, R1, rfl, hf1, hR1, hsh1⟩
      obtain ⟨hC1, hkM1⟩ := hC.ofU (x_z := z_push (z_AU A_z) (z_AT A_z) 8) hf1 hR1 hsh1
      obtain ⟨hL1, hV1, hT1, hU1, hK1, hS1, hX1⟩ := id hC1
      refine z_s 25 hB_z dX9_pass_24 rfl rfl ?_
      refine z_s 26 hB_z dX9_pass_25 rfl rfl ?_
      refine z_getR 29 hB_z fX9_47 (L4_z (zS := z_w zS I1 R1) hL1) dX9_pass_26 rfl rfl (r4_5 (zS := z_w zS I1 R1) hL1) ?_
      refine z_s 30 hB_z dX9_pass_29 rfl rfl ?_
      refine z_callV 33 hB_z hM_z.2.1 kX9_189 dX9_pass_30 rfl (L4_z (zS := zS) hL) rfl (c_X9_goBy (zS := z_w zS I1 R1) (d_z := 0) hL1 hV1 (by decide) (s51 hL1) hT1 (by omega)) (by omega) rfl rfl (Nat.le_of_ble_eq_true rfl) ⟨Nat.le_refl _, Nat.le_refl _⟩ ?_
      rintro _ _ ⟨rfl, I3, rfl, hf3, hT4, _⟩
      refine z_s 34 hB_z dX9_pass_33 rfl rfl ?_
      refine z_getR 37 hB_z fX9_47 (L4_z (zS := z_w zS I1 R1) hL1) dX9_pass_34 rfl rfl (r4_5 (zS := z_w zS I1 R1) hL1) ?_
      refine z_getI 40 hB_z fX9_161 (L51 (zS := z_w zS I1 R1) hL1) dX9_pass_37 rfl rfl ?_
      refine z_iret hM_z dX9_pass_40 rfl ?_ rfl rfl
      unfold z_pass
      rw [if_pos ⟨c_2, c_8⟩, nI_clamp (by omega)]
      exact ⟨congrArg (fun q_z => some (Value.int q_z)) (hT4.1 0 (by decide)), hC1.ofT (hf3.mono z_scrG51) hT4, hkM1.tr (z_kM.up (hf3.mono z_scrG51) (fun q_z hq z_z => by unfold z_scr at z_z; omega))⟩
    ·
      refine z_s 12 hB_z dX9_pass_11 rfl rfl ?_
      refine z_iret hM_z dX9_pass_12 rfl ?_ rfl rfl
      exact z_CP.of hC (by unfold z_pass; rw [if_neg (fun q_z => z_nle0 c_8 q_z.2)])

