/-! the reader: letters, numbers -/
def z_lt (q_z : (Nat → Int32) × Nat) (p_z : Nat) : Int32 := if p_z < q_z.2 then q_z.1 p_z else 0
def z_fig (q_z : (Nat → Int32) × Nat) (p_z : Nat) : Int32 := if 48 ≤ z_lt q_z p_z ∧ z_lt q_z p_z ≤ 57 then z_lt q_z p_z - 48 else -4
/-- a number from place p on: what it is (below 0: none), and the place behind it -/
def z_num (q_z : (Nat → Int32) × Nat) (p_z : Nat) : Int32 × Nat := if z_fig q_z p_z < 0 then (z_fig q_z p_z, p_z) else if z_fig q_z (p_z + 1) < 0 then (z_fig q_z p_z, p_z + 1) else (10 * z_fig q_z p_z + z_fig q_z (p_z + 1), p_z + 2)
/-- i numbers of many, each with its sign behind it -/
def z_nms (q_z : (Nat → Int32) × Nat) (many p_z : Nat) : Nat → Option ((Nat → Int32) × Nat)
  | 0 => some (fun _ => 0, p_z)
  | i_z + 1 => match z_nms q_z many p_z i_z with
    | none => none
    | some (f_z, p1_z) => if (z_num q_z p1_z).1 < 0 ∨ ¬ z_lt q_z (z_num q_z p1_z).2 = (if i_z + 1 < many then 44 else 59) then none else some (fun k_z => if k_z = i_z then (z_num q_z p1_z).1 else f_z k_z, (z_num q_z p1_z).2 + 1)
theorem z_lt_pos {q_z : (Nat → Int32) × Nat} {p_z : Nat} (h_z : ¬ z_lt q_z p_z = 0) : p_z < q_z.2 := by
  unfold z_lt at h_z
  by_cases z_z : p_z < q_z.2
  · exact z_z
  · exact absurd (if_neg z_z) h_z
theorem z_fig_pos {q_z : (Nat → Int32) × Nat} {p_z : Nat} (h_z : ¬ z_fig q_z p_z < 0) : p_z < q_z.2 := by
  refine z_lt_pos (fun z_z => h_z ?_)
  unfold z_fig
  rw [z_z]
  decide
theorem z_num_le {q_z : (Nat → Int32) × Nat} {p_z : Nat} (h_z : p_z ≤ q_z.2) : p_z ≤ (z_num q_z p_z).2 ∧ (z_num q_z p_z).2 ≤ q_z.2 := by
  unfold z_num
  by_cases h1 : z_fig q_z p_z < 0
  · rw [if_pos h1]; exact ⟨Nat.le_refl _, h_z⟩
  · have k1_z := z_fig_pos h1
    rw [if_neg h1]
    by_cases h2 : z_fig q_z (p_z + 1) < 0
    · rw [if_pos h2]; exact ⟨Nat.le_succ _, k1_z⟩
    · have k2_z := z_fig_pos h2
      rw [if_neg h2]
      exact ⟨by show p_z ≤ p_z + 2; omega, k2_z⟩
theorem z_nms_le {q_z : (Nat → Int32) × Nat} {many p_z : Nat} (h_z : p_z ≤ q_z.2) : ∀ i_z f_z p1_z, z_nms q_z many p_z i_z = some (f_z, p1_z) → p_z ≤ p1_z ∧ p1_z ≤ q_z.2
  | 0, f_z, p1_z, h1 => by cases h1; exact ⟨Nat.le_refl _, h_z⟩
  | i_z + 1, f_z, p1_z, h1 => by
    cases h0 : z_nms q_z many p_z i_z with
    | none =>
      unfold z_nms at h1
      rw [h0] at h1
      cases h1
    | some x0_z =>
      obtain ⟨f0_z, p0_z⟩ := x0_z
      have k_z := z_nms_le h_z i_z f0_z p0_z h0
      have k2_z := z_num_le k_z.2
      have e1_z : z_nms q_z many p_z (i_z + 1) = if (z_num q_z p0_z).1 < 0 ∨ ¬ z_lt q_z (z_num q_z p0_z).2 = (if i_z + 1 < many then 44 else 59) then none else some (fun k_z => if k_z = i_z then (z_num q_z p0_z).1 else f0_z k_z, (z_num q_z p0_z).2 + 1) := by
        unfold z_nms
        rw [h0]
      rw [e1_z] at h1
      by_cases hn : (z_num q_z p0_z).1 < 0 ∨ ¬ z_lt q_z (z_num q_z p0_z).2 = (if i_z + 1 < many then 44 else 59)
      · rw [if_pos hn] at h1; cases h1
      · rw [if_neg hn] at h1
        cases h1
        have hs : z_lt q_z (z_num q_z p0_z).2 = (if i_z + 1 < many then 44 else 59) := by
          by_cases z_z : z_lt q_z (z_num q_z p0_z).2 = (if i_z + 1 < many then 44 else 59)
          · exact z_z
          · exact absurd (Or.inr z_z) hn
        have k3_z : (z_num q_z p0_z).2 < q_z.2 := z_lt_pos (by rw [hs]; split <;> decide)
        exact ⟨by omega, k3_z⟩
theorem c_X8_letter {g_z : z_U} {d_z : Nat} {zS : z_S} {q_z : (Nat → Int32) × Nat} (hL : z_L zS) (hX : z_rX (z_I zS) q_z) {p_z : Nat} (hp : p_z < 1000) : z_C g_z (d_z) 0 0 mX8_letter [.ref 5, .int (nI p_z)] zS (fun r_z zS' => zS = zS' ∧ r_z = some (.int (z_lt q_z p_z))) := by
  refine z_enter [some (.ref 5), some (.int (nI p_z))] rfl rfl (Nat.le_of_ble_eq_true rfl) rfl (fun zX hM_z => ?_)
  have hB_z : z_B g_z zX RX8 cX8_letter 2 := hM_z.1
  have hx := hX.1
  have h200 := hX.2.1
  refine z_s 1 hB_z dX8_letter_0 rfl rfl ?_
  refine z_b 4 30 hB_z dX8_letter_1 rfl rfl (by decide) (fun c_1 => ?_) (fun c_1 => ?_)
  ·
    exact absurd c_1 (nI_pos (by omega))
  ·
    refine z_s 5 hB_z dX8_letter_4 rfl rfl ?_
    refine z_s 6 hB_z dX8_letter_5 rfl rfl ?_
    refine z_getI 9 hB_z fX8_15 (L5_z (zS := zS) hL) dX8_letter_6 rfl rfl ?_
    refine z_b 12 30 hB_z dX8_letter_9 rfl rfl (by decide) (fun c_9 => ?_) (fun c_9 => ?_)
    ·
      refine z_s 31 hB_z dX8_letter_30 rfl rfl ?_
      refine z_iret hM_z dX8_letter_31 rfl ?_ rfl rfl
      exact ⟨rfl, by unfold z_lt; rw [if_neg (fun z_z => z_nlt0 c_9 (hx ▸ (nI_ltI (by omega) (by omega)).mpr z_z))]⟩
    ·
      have hlt : p_z < q_z.2 := (nI_ltI (by omega) (by omega)).mp (hx ▸ c_9)
      refine z_s 13 hB_z dX8_letter_12 rfl rfl ?_
      refine z_s 14 hB_z dX8_letter_13 rfl rfl ?_
      refine z_getR 17 hB_z fX8_9 (L5_z (zS := zS) hL) dX8_letter_14 rfl rfl (r5_0 (zS := zS) hL) ?_
      refine z_alen 18 hB_z (L6_z (zS := zS) hL) dX8_letter_17 rfl ?_
      refine z_b 21 30 hB_z dX8_letter_18 rfl rfl (by decide) (fun c_18 => ?_) (fun c_18 => ?_)
      ·
        exact absurd c_18 (nI_ge (by omega) (by decide))
      ·
        refine z_s 22 hB_z dX8_letter_21 rfl rfl ?_
        refine z_getR 25 hB_z fX8_9 (L5_z (zS := zS) hL) dX8_letter_22 rfl rfl (r5_0 (zS := zS) hL) ?_
        refine z_s 26 hB_z dX8_letter_25 rfl rfl ?_
        refine z_ald 27 hB_z (L6_z (zS := zS) hL) dX8_letter_26 rfl (vp_in_nI (by omega) (by decide)) ?_
        refine z_j 31 hB_z dX8_letter_27 (by decide) ?_
        refine z_iret hM_z dX8_letter_31 rfl ?_ rfl rfl
        rw [nI_clamp (by omega)]
        exact ⟨rfl, by unfold z_lt; rw [if_pos hlt, hX.2.2 p_z hlt]⟩

theorem c_X2_figure {g_z : z_U} {d_z : Nat} {zS : z_S} {q_z : (Nat → Int32) × Nat} (hL : z_L zS) (hX : z_rX (z_I zS) q_z) {p_z : Nat} (hp : p_z < 1000) (hpl : z_I zS 45 3 = nI p_z) : z_C g_z (d_z + 1) 0 0 mX2_figure [.ref 45] zS (fun r_z zS' => zS = zS' ∧ r_z = some (.int (z_fig q_z p_z))) := by
  refine z_enter [some (.ref 45), none] rfl rfl (Nat.le_of_ble_eq_true rfl) rfl (fun zX hM_z => ?_)
  have hB_z : z_B g_z zX RX2 cX2_figure 2 := hM_z.1
  have hx := hX.1
  have h200 := hX.2.1
  refine z_s 1 hB_z dX2_figure_0 rfl rfl ?_
  refine z_getR 4 hB_z fX2_20 (L45 (zS := zS) hL) dX2_figure_1 rfl rfl (r45_0 (zS := zS) hL) ?_
  refine z_s 5 hB_z dX2_figure_4 rfl rfl ?_
  refine z_getI 8 hB_z fX2_33 (L45 (zS := zS) hL) dX2_figure_5 rfl rfl ?_
  rw [hpl]
  refine z_callV 11 hB_z hM_z.2.1 kX2_46 dX2_figure_8 rfl (L5_z (zS := zS) hL) rfl (c_X8_letter (d_z := 0) hL hX hp) (by omega) rfl rfl (Nat.le_of_ble_eq_true rfl) ⟨Nat.le_refl _, Nat.le_refl _⟩ ?_
  rintro _ _ ⟨rfl, rfl⟩
  refine z_s 12 hB_z dX2_figure_11 rfl rfl ?_
  refine z_s 13 hB_z dX2_figure_12 rfl rfl ?_
  refine z_s 15 hB_z dX2_figure_13 rfl rfl ?_
  refine z_s 17 hB_z dX2_figure_15 rfl rfl ?_
  refine z_callS 20 hB_z hM_z.2.1 kX2_77 dX2_figure_17 rfl (c_X9_isWithin (d_z := 0)) (by omega) rfl rfl (Nat.le_of_ble_eq_true rfl) ⟨Nat.le_refl _, Nat.le_refl _⟩ ?_
  rintro _ _ ⟨rfl, rfl⟩
  refine z_b 23 30 hB_z dX2_figure_20 rfl rfl (by decide) (fun c_20 => ?_) (fun c_20 => ?_)
  ·
    refine z_s 32 hB_z dX2_figure_30 rfl rfl ?_
    refine z_iret hM_z dX2_figure_32 rfl ?_ rfl rfl
    exact ⟨rfl, by unfold z_fig; rw [if_neg (z_of0 c_20)]⟩
  ·
    refine z_s 24 hB_z dX2_figure_23 rfl rfl ?_
    refine z_s 26 hB_z dX2_figure_24 rfl rfl ?_
    refine z_s 27 hB_z dX2_figure_26 rfl rfl ?_
    refine z_j 32 hB_z dX2_figure_27 (by decide) ?_
    refine z_iret hM_z dX2_figure_32 rfl ?_ rfl rfl
    exact ⟨rfl, by unfold z_fig; rw [if_pos (z_of1 c_20)]⟩

theorem c_X2_readNumber {g_z : z_U} {d_z : Nat} {zS : z_S} {q_z : (Nat → Int32) × Nat} (hL : z_L zS) (hX : z_rX (z_I zS) q_z) {p_z : Nat} (hp : p_z < 900) (hpl : z_I zS 45 3 = nI p_z) : z_C g_z (d_z + 2) 0 0 mX2_readNumber [.ref 45] zS (fun r_z zS' => r_z = some (.int (z_num q_z p_z).1) ∧ ∃ zI', z_up zS zI' = zS' ∧ z_fr (fun x_z => x_z = 45) (z_I zS) zI' ∧ zI' 45 3 = nI (z_num q_z p_z).2) := by
  refine z_enter [some (.ref 45), none, none] rfl rfl (Nat.le_of_ble_eq_true rfl) rfl (fun zX hM_z => ?_)
  have hB_z : z_B g_z zX RX2 cX2_readNumber 3 := hM_z.1
  have hx := hX.1
  have h200 := hX.2.1
  refine z_s 1 hB_z dX2_readNumber_0 rfl rfl ?_
  refine z_callV 4 hB_z hM_z.2.1 kX2_74 dX2_readNumber_1 rfl (L45 (zS := zS) hL) rfl (c_X2_figure (d_z := 0) hL hX (by omega) hpl) (by omega) rfl rfl (Nat.le_of_ble_eq_true rfl) ⟨Nat.le_refl _, Nat.le_refl _⟩ ?_
  rintro _ _ ⟨rfl, rfl⟩
  refine z_s 5 hB_z dX2_readNumber_4 rfl rfl ?_
  refine z_s 6 hB_z dX2_readNumber_5 rfl rfl ?_
  refine z_b 9 11 hB_z dX2_readNumber_6 rfl rfl (by decide) (fun c_6 => ?_) (fun c_6 => ?_)
  ·
    refine z_s 12 hB_z dX2_readNumber_11 rfl rfl ?_
    refine z_s 13 hB_z dX2_readNumber_12 rfl rfl ?_
    refine z_getI 16 hB_z fX2_33 (L45 (zS := zS) hL) dX2_readNumber_13 rfl rfl ?_
    refine z_s 17 hB_z dX2_readNumber_16 rfl rfl ?_
    refine z_s 18 hB_z dX2_readNumber_17 rfl rfl ?_
    rw [hpl, z_inc]
    refine z_putI 21 hB_z fX2_33 (L45 (zS := zS) hL) dX2_readNumber_18 rfl rfl rfl ?_
    refine z_s 22 hB_z dX2_readNumber_21 rfl rfl ?_
    refine z_callV 25 hB_z hM_z.2.1 kX2_74 dX2_readNumber_22 rfl (L45 (zS := zS) hL) rfl (c_X2_figure (zS := z_pI zS 45 3 (nI (p_z + 1))) (d_z := 0) hL (hX.fr (z_fr.u2 (P_z := fun x_z => x_z = 45) z_fr.rf rfl) (by decide) (by decide)) (by omega) z_Ieq) (by omega) rfl rfl (Nat.le_of_ble_eq_true rfl) ⟨Nat.le_refl _, Nat.le_refl _⟩ ?_
    rintro _ _ ⟨rfl, rfl⟩
    refine z_s 26 hB_z dX2_readNumber_25 rfl rfl ?_
    refine z_s 27 hB_z dX2_readNumber_26 rfl rfl ?_
    refine z_b 30 32 hB_z dX2_readNumber_27 rfl rfl (by decide) (fun c_27 => ?_) (fun c_27 => ?_)
    ·
      refine z_s 33 hB_z dX2_readNumber_32 rfl rfl ?_
      refine z_s 34 hB_z dX2_readNumber_33 rfl rfl ?_
      refine z_getI 37 hB_z fX2_33 (L45 (zS := zS) hL) dX2_readNumber_34 rfl rfl ?_
      refine z_s 38 hB_z dX2_readNumber_37 rfl rfl ?_
      refine z_s 39 hB_z dX2_readNumber_38 rfl rfl ?_
      rw [z_Ieq, z_inc]
      refine z_putI 42 hB_z fX2_33 (L45 (zS := zS) hL) dX2_readNumber_39 rfl rfl rfl ?_
      refine z_s 44 hB_z dX2_readNumber_42 rfl rfl ?_
      refine z_s 45 hB_z dX2_readNumber_44 rfl rfl ?_
      refine z_s 46 hB_z dX2_readNumber_45 rfl rfl ?_
      refine z_s 47 hB_z dX2_readNumber_46 rfl rfl ?_
      refine z_s 48 hB_z dX2_readNumber_47 rfl rfl ?_
      refine z_iret hM_z dX2_readNumber_48 rfl ?_ rfl rfl
      have e_z : z_num q_z p_z = (10 * z_fig q_z p_z + z_fig q_z (p_z + 1), p_z + 2) := by unfold z_num; rw [if_neg (z_nlt0 c_6), if_neg (z_nlt0 c_27)]
      rw [e_z]
      exact ⟨rfl, z_u2 (z_u2 (z_I zS) 45 3 (nI (p_z + 1))) 45 3 (nI (p_z + 2)), rfl, z_fr.u2 (P_z := fun x_z => x_z = 45) (z_fr.u2 (P_z := fun x_z => x_z = 45) z_fr.rf rfl) rfl, z_u2_same _ _ _ _⟩
    ·
      refine z_s 31 hB_z dX2_readNumber_30 rfl rfl ?_
      refine z_iret hM_z dX2_readNumber_31 rfl ?_ rfl rfl
      have e_z : z_num q_z p_z = (z_fig q_z p_z, p_z + 1) := by unfold z_num; rw [if_neg (z_nlt0 c_6), if_pos c_27]
      rw [e_z]
      exact ⟨rfl, z_u2 (z_I zS) 45 3 (nI (p_z + 1)), rfl, z_fr.u2 (P_z := fun x_z => x_z = 45) z_fr.rf rfl, z_u2_same _ _ _ _⟩
  ·
    refine z_s 10 hB_z dX2_readNumber_9 rfl rfl ?_
    refine z_iret hM_z dX2_readNumber_10 rfl ?_ rfl rfl
    have e_z : z_num q_z p_z = (z_fig q_z p_z, p_z) := by unfold z_num; rw [if_pos c_6]
    rw [e_z]
    exact ⟨rfl, z_I zS, rfl, z_fr.rf, hpl⟩

theorem z_nms_none {q_z : (Nat → Int32) × Nat} {many p_z i_z m_z : Nat} (h_z : z_nms q_z many p_z (i_z + 1) = none) (hm_z : i_z < m_z) : z_nms q_z many p_z m_z = none := by
  induction m_z with
  | zero => omega
  | succ m_z ih_z =>
    by_cases e_z : i_z = m_z
    · rw [← e_z]; exact h_z
    · have k_z := ih_z (by omega)
      unfold z_nms
      rw [k_z]
set_option maxHeartbeats 1000000 in
theorem c_X2_readNumbers {g_z : z_U} {d_z : Nat} {zS : z_S} {q_z : (Nat → Int32) × Nat} (hL : z_L zS) (hX : z_rX (z_I zS) q_z) {p_z many : Nat} (hp : p_z ≤ q_z.2) (hm4 : many ≤ 4) (hpl0 : z_I zS 45 3 = nI p_z) : z_C g_z (d_z + 3) 0 0 mX2_readNumbers [.ref 45, .int (nI many)] zS (fun r_z zS' => (∃ v_z : Int32, r_z = some (.int v_z) ∧ ∃ zI', z_up zS zI' = zS' ∧ z_fr (fun x_z => x_z = 45 ∨ x_z = 47) (z_I zS) zI' ∧ (v_z = 0 ∧ z_nms q_z many p_z many = none ∨ v_z = 1 ∧ ∃ f_z p1_z, z_nms q_z many p_z many = some (f_z, p1_z) ∧ zI' 45 3 = nI p1_z ∧ ∀ k_z, k_z < many → zI' 47 k_z = f_z k_z))) := by
  refine z_enter [some (.ref 45), some (.int (nI many)), none, none] rfl rfl (Nat.le_of_ble_eq_true rfl) rfl (fun zX hM_z => ?_)
  have hB_z : z_B g_z zX RX2 cX2_readNumbers 4 := hM_z.1
  have hx := hX.1
  have h200 := hX.2.1
  have loop := z_loop (fun i_z => ∀ I1, z_fr (fun x_z => x_z = 45 ∨ x_z = 47) (z_I zS) I1 → ∀ f_z p1_z, z_nms q_z many p_z i_z = some (f_z, p1_z) → I1 45 3 = nI p1_z → (∀ k_z, k_z < i_z → I1 47 k_z = f_z k_z) → z_W g_z zX 2 [some (.ref 45), some (.int (nI many)), some (.int (nI i_z)), none] [] 0 0 (z_up zS I1)) many (fun i_z hi_z ih_z I1 hf f_z p1_z hz hpl hv => by
    refine z_s 3 hB_z dX2_readNumbers_2 rfl rfl ?_
    refine z_s 4 hB_z dX2_readNumbers_3 rfl rfl ?_
    refine z_b 7 71 hB_z dX2_readNumbers_4 rfl rfl (by decide) (fun c_4 => ?_) (fun c_4 => ?_)
    ·
      have hi2 : i_z = many := by
        have := (nI_leI (by omega) (by omega)).mp (show nI many ≤ nI i_z from c_4)
        omega
      refine z_s 72 hB_z dX2_readNumbers_71 rfl rfl ?_
      refine z_zret hM_z dX2_readNumbers_72 rfl (by decide) ?_ rfl rfl
      rw [hi2] at hz hv
      exact ⟨1, rfl, I1, rfl, hf, Or.inr ⟨rfl, f_z, p1_z, hz, hpl, hv⟩⟩
    ·
      have hi2 : i_z < many := (nI_ltI (by omega) (by omega)).mp (show nI i_z < nI many from c_4)
      have k1_z := z_nms_le hp i_z f_z p1_z hz
      have k2_z := z_num_le k1_z.2
      have hX1 := hX.fr hf (by decide) (by decide)
      refine z_s 8 hB_z dX2_readNumbers_7 rfl rfl ?_
      refine z_callV 11 hB_z hM_z.2.1 kX2_66 dX2_readNumbers_8 rfl (L45 (zS := zS) hL) rfl (c_X2_readNumber (zS := z_up zS I1) (d_z := 0) hL hX1 (by omega) hpl) (by omega) rfl rfl (Nat.le_of_ble_eq_true rfl) ⟨Nat.le_refl _, Nat.le_refl _⟩ ?_
      rintro _ _ ⟨rfl, I2_z, rfl, hf2, hpl2⟩
      have hX2 := hX1.fr hf2 (by decide) (by decide)
      refine z_s 12 hB_z dX2_readNumbers_11 rfl rfl ?_
      refine z_s 13 hB_z dX2_readNumbers_12 rfl rfl ?_
      refine z_b 16 44 hB_z dX2_readNumbers_13 rfl rfl (by decide) (fun c_13 => ?_) (fun c_13 => ?_)
      ·
        have hno : z_nms q_z many p_z (i_z + 1) = none := by unfold z_nms; rw [hz]; exact if_pos (Or.inl c_13)
        refine z_s 45 hB_z dX2_readNumbers_44 rfl rfl ?_
        refine z_zret hM_z dX2_readNumbers_45 rfl (by decide) ?_ rfl rfl
        refine ⟨0, rfl, _, rfl, by first | exact (hf.tr (hf2.mono (fun x_z h_z => Or.inl h_z))) | exact hf, Or.inl ⟨rfl, z_nms_none hno hi2⟩⟩
      ·
        refine z_s 17 hB_z dX2_readNumbers_16 rfl rfl ?_
        refine z_getR 20 hB_z fX2_20 (L45 (zS := zS) hL) dX2_readNumbers_17 rfl rfl (r45_0 (zS := zS) hL) ?_
        refine z_s 21 hB_z dX2_readNumbers_20 rfl rfl ?_
        refine z_getI 24 hB_z fX2_33 (L45 (zS := zS) hL) dX2_readNumbers_21 rfl rfl ?_
        rw [show z_I (z_up (z_up zS I1) I2_z) 45 3 = nI (z_num q_z p1_z).2 from hpl2]
        refine z_callV 27 hB_z hM_z.2.1 kX2_46 dX2_readNumbers_24 rfl (L5_z (zS := zS) hL) rfl (c_X8_letter (zS := z_up zS I2_z) (d_z := 0) hL hX2 (by omega)) (by omega) rfl rfl (Nat.le_of_ble_eq_true rfl) ⟨Nat.le_refl _, Nat.le_refl _⟩ ?_
        rintro _ _ ⟨rfl, rfl⟩
        refine z_s 28 hB_z dX2_readNumbers_27 rfl rfl ?_
        refine z_s 29 hB_z dX2_readNumbers_28 rfl rfl ?_
        refine z_s 30 hB_z dX2_readNumbers_29 rfl rfl ?_
        refine z_s 31 hB_z dX2_readNumbers_30 rfl rfl ?_
        rw [show nI many - 1 = nI (many - 1) from by rw [show many = (many - 1) + 1 by omega]; exact nI_pred _]
        refine z_b 34 39 hB_z dX2_readNumbers_31 rfl rfl (by decide) (fun c_31 => ?_) (fun c_31 => ?_)
        ·
          have es : (if i_z + 1 < many then (44 : Int32) else 59) = 59 := if_neg (by have := (nI_leI (by omega) (by omega)).mp (show nI (many - 1) ≤ nI i_z from c_31); omega)
          refine z_s 41 hB_z dX2_readNumbers_39 rfl rfl ?_
          refine z_b 44 46 hB_z dX2_readNumbers_41 rfl rfl (by decide) (fun c_41 => ?_) (fun c_41 => ?_)
          ·
            have hso : z_nms q_z many p_z (i_z + 1) = some (fun k_z => if k_z = i_z then (z_num q_z p1_z).1 else f_z k_z, (z_num q_z p1_z).2 + 1) := by
              unfold z_nms; rw [hz]
              exact if_neg (fun z_z => z_z.elim (fun z_z => z_nlt0 c_13 z_z) (fun z_z => z_z (by rw [es]; exact c_41)))
            refine z_s 47 hB_z dX2_readNumbers_46 rfl rfl ?_
            refine z_getR 50 hB_z fX2_14 (L45 (zS := zS) hL) dX2_readNumbers_47 rfl rfl (r45_2 (zS := zS) hL) ?_
            refine z_s 51 hB_z dX2_readNumbers_50 rfl rfl ?_
            refine z_s 52 hB_z dX2_readNumbers_51 rfl rfl ?_
            refine z_callV 55 hB_z hM_z.2.1 kX2_70 dX2_readNumbers_52 rfl (L46 (zS := zS) hL) rfl (c_put (zS := z_up zS I2_z) (d_z := 0) (w46 hL) (by decide) (by omega)) (by omega) rfl rfl (Nat.le_of_ble_eq_true rfl) ⟨Nat.le_refl _, Nat.le_refl _⟩ ?_
            rintro _ _ ⟨rfl, rfl⟩
            refine z_s 56 hB_z dX2_readNumbers_55 rfl rfl ?_
            refine z_s 57 hB_z dX2_readNumbers_56 rfl rfl ?_
            refine z_getI 60 hB_z fX2_33 (L45 (zS := zS) hL) dX2_readNumbers_57 rfl rfl ?_
            refine z_s 61 hB_z dX2_readNumbers_60 rfl rfl ?_
            refine z_s 62 hB_z dX2_readNumbers_61 rfl rfl ?_
            rw [show z_I (z_pI (z_up zS I2_z) 47 i_z (z_num q_z p1_z).1) 45 3 = nI (z_num q_z p1_z).2 from (z_Ine (Or.inl (by decide))).trans hpl2, z_inc]
            refine z_putI 65 hB_z fX2_33 (L45 (zS := zS) hL) dX2_readNumbers_62 rfl rfl rfl ?_
            refine z_s 68 hB_z dX2_readNumbers_65 rfl rfl ?_
            refine z_j 2 hB_z dX2_readNumbers_68 (by decide) ?_
            exact z_wkn (ih_z hi2 (z_u2 (z_u2 I2_z 47 i_z (z_num q_z p1_z).1) 45 3 (nI ((z_num q_z p1_z).2 + 1))) (((hf.tr (hf2.mono (fun x_z h_z => Or.inl h_z))).u2 (Or.inr rfl)).u2 (Or.inl rfl)) _ _ hso (z_u2_same _ _ _ _) (fun k_z hk => by
              rw [z_u2_ne (Or.inl (by decide))]
              by_cases e_z : k_z = i_z
              · rw [e_z, z_u2_same, if_pos rfl]
              · rw [z_u2_ne (Or.inr e_z), if_neg e_z, hf2 47 k_z (by decide)]; exact hv k_z (by omega))) ⟨rfl, rfl, congrArg (fun q_z => some (Value.int q_z)) (z_inc i_z), trivial⟩
          ·
            have hno : z_nms q_z many p_z (i_z + 1) = none := by unfold z_nms; rw [hz]; exact if_pos (Or.inr (by rw [es]; exact c_41))
            refine z_s 45 hB_z dX2_readNumbers_44 rfl rfl ?_
            refine z_zret hM_z dX2_readNumbers_45 rfl (by decide) ?_ rfl rfl
            refine ⟨0, rfl, _, rfl, by first | exact (hf.tr (hf2.mono (fun x_z h_z => Or.inl h_z))) | exact hf, Or.inl ⟨rfl, z_nms_none hno hi2⟩⟩
        ·
          have es : (if i_z + 1 < many then (44 : Int32) else 59) = 44 := if_pos (by have := (nI_ltI (by omega) (by omega)).mp (show nI i_z < nI (many - 1) from c_31); omega)
          refine z_s 36 hB_z dX2_readNumbers_34 rfl rfl ?_
          refine z_j 41 hB_z dX2_readNumbers_36 (by decide) ?_
          refine z_b 44 46 hB_z dX2_readNumbers_41 rfl rfl (by decide) (fun c_41 => ?_) (fun c_41 => ?_)
          ·
            have hso : z_nms q_z many p_z (i_z + 1) = some (fun k_z => if k_z = i_z then (z_num q_z p1_z).1 else f_z k_z, (z_num q_z p1_z).2 + 1) := by
              unfold z_nms; rw [hz]
              exact if_neg (fun z_z => z_z.elim (fun z_z => z_nlt0 c_13 z_z) (fun z_z => z_z (by rw [es]; exact c_41)))
            refine z_s 47 hB_z dX2_readNumbers_46 rfl rfl ?_
            refine z_getR 50 hB_z fX2_14 (L45 (zS := zS) hL) dX2_readNumbers_47 rfl rfl (r45_2 (zS := zS) hL) ?_
            refine z_s 51 hB_z dX2_readNumbers_50 rfl rfl ?_
            refine z_s 52 hB_z dX2_readNumbers_51 rfl rfl ?_
            refine z_callV 55 hB_z hM_z.2.1 kX2_70 dX2_readNumbers_52 rfl (L46 (zS := zS) hL) rfl (c_put (zS := z_up zS I2_z) (d_z := 0) (w46 hL) (by decide) (by omega)) (by omega) rfl rfl (Nat.le_of_ble_eq_true rfl) ⟨Nat.le_refl _, Nat.le_refl _⟩ ?_
            rintro _ _ ⟨rfl, rfl⟩
            refine z_s 56 hB_z dX2_readNumbers_55 rfl rfl ?_
            refine z_s 57 hB_z dX2_readNumbers_56 rfl rfl ?_
            refine z_getI 60 hB_z fX2_33 (L45 (zS := zS) hL) dX2_readNumbers_57 rfl rfl ?_
            refine z_s 61 hB_z dX2_readNumbers_60 rfl rfl ?_
            refine z_s 62 hB_z dX2_readNumbers_61 rfl rfl ?_
            rw [show z_I (z_pI (z_up zS I2_z) 47 i_z (z_num q_z p1_z).1) 45 3 = nI (z_num q_z p1_z).2 from (z_Ine (Or.inl (by decide))).trans hpl2, z_inc]
            refine z_putI 65 hB_z fX2_33 (L45 (zS := zS) hL) dX2_readNumbers_62 rfl rfl rfl ?_
            refine z_s 68 hB_z dX2_readNumbers_65 rfl rfl ?_
            refine z_j 2 hB_z dX2_readNumbers_68 (by decide) ?_
            exact z_wkn (ih_z hi2 (z_u2 (z_u2 I2_z 47 i_z (z_num q_z p1_z).1) 45 3 (nI ((z_num q_z p1_z).2 + 1))) (((hf.tr (hf2.mono (fun x_z h_z => Or.inl h_z))).u2 (Or.inr rfl)).u2 (Or.inl rfl)) _ _ hso (z_u2_same _ _ _ _) (fun k_z hk => by
              rw [z_u2_ne (Or.inl (by decide))]
              by_cases e_z : k_z = i_z
              · rw [e_z, z_u2_same, if_pos rfl]
              · rw [z_u2_ne (Or.inr e_z), if_neg e_z, hf2 47 k_z (by decide)]; exact hv k_z (by omega))) ⟨rfl, rfl, congrArg (fun q_z => some (Value.int q_z)) (z_inc i_z), trivial⟩
          ·
            have hno : z_nms q_z many p_z (i_z + 1) = none := by unfold z_nms; rw [hz]; exact if_pos (Or.inr (by rw [es]; exact c_41))
            refine z_s 45 hB_z dX2_readNumbers_44 rfl rfl ?_
            refine z_zret hM_z dX2_readNumbers_45 rfl (by decide) ?_ rfl rfl
            refine ⟨0, rfl, _, rfl, by first | exact (hf.tr (hf2.mono (fun x_z h_z => Or.inl h_z))) | exact hf, Or.inl ⟨rfl, z_nms_none hno hi2⟩⟩) 0 (Nat.zero_le _)
  refine z_s 1 hB_z dX2_readNumbers_0 rfl rfl ?_
  refine z_s 2 hB_z dX2_readNumbers_1 rfl rfl ?_
  exact z_eq (loop (z_I zS) z_fr.rf (fun _ => 0) p_z rfl hpl0 (fun k_z hk => absurd hk (Nat.not_lt_zero k_z))) rfl rfl rfl

