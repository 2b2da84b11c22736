/-! the model: a night goes by -/
/-- customer c on the day -/
def z_rc (zV : z_V) (t_z w_z : Int32) (c_z : Nat) : Int32 × Option Nat := z_mr zV t_z w_z (zV.1 6 c_z) c_z (z_day zV t_z w_z c_z).1
def z_pp (zV : z_V) (t_z w_z : Int32) (c_z : Nat) : Int32 := if z_comes zV t_z c_z = true ∧ ¬ (z_rc zV t_z w_z c_z).2 = none then z_pay zV c_z else 0
theorem z_rc_no {zV : z_V} {t_z w_z : Int32} {c_z : Nat} (h_z : z_comes zV t_z c_z = false) : z_rc zV t_z w_z c_z = ((z_day zV t_z w_z c_z).1, none) := by
  unfold z_rc z_mr
  rw [h_z]; rfl
theorem z_rc_yes {zV : z_V} {t_z w_z : Int32} {c_z : Nat} (h_z : z_comes zV t_z c_z = true) : z_rc zV t_z w_z c_z = z_sc zV w_z (z_day zV t_z w_z c_z).1 c_z := by
  unfold z_rc z_mr
  rw [h_z]; rfl
theorem z_day_no {zV : z_V} {t_z w_z : Int32} {c_z : Nat} (h_z : z_comes zV t_z c_z = false) : z_day zV t_z w_z (c_z + 1) = z_day zV t_z w_z c_z := by
  show (if z_comes zV t_z c_z then _ else _) = _
  rw [h_z]; rfl
theorem z_day_some {zV : z_V} {t_z w_z : Int32} {c_z s_z : Nat} {K_z : Int32} (h_z : z_comes zV t_z c_z = true) (e_z : z_rc zV t_z w_z c_z = (K_z, some s_z)) : z_day zV t_z w_z (c_z + 1) = (K_z, (z_day zV t_z w_z c_z).2.1 + 1, (z_day zV t_z w_z c_z).2.2.1, (z_day zV t_z w_z c_z).2.2.2.1, (z_day zV t_z w_z c_z).2.2.2.2.1 + (z_pay zV c_z - z_pay zV c_z * 9 / 100), (z_day zV t_z w_z c_z).2.2.2.2.2.1 + z_pay zV c_z * 9 / 100, fun q_z => if q_z = c_z then nI s_z else (z_day zV t_z w_z c_z).2.2.2.2.2.2 q_z) := by
  show (if z_comes zV t_z c_z then z_at1 zV w_z (z_day zV t_z w_z c_z) c_z else _) = _
  rw [h_z, if_pos rfl]
  unfold z_at1
  rw [← z_rc_yes h_z, e_z]
theorem z_day_none {zV : z_V} {t_z w_z : Int32} {c_z : Nat} {K_z : Int32} (h_z : z_comes zV t_z c_z = true) (e_z : z_rc zV t_z w_z c_z = (K_z, none)) : z_day zV t_z w_z (c_z + 1) = (K_z, (z_day zV t_z w_z c_z).2.1, (z_day zV t_z w_z c_z).2.2.1 + 1, if (z_day zV t_z w_z c_z).2.2.1 = 0 then nI c_z else (z_day zV t_z w_z c_z).2.2.2.1, (z_day zV t_z w_z c_z).2.2.2.2.1, (z_day zV t_z w_z c_z).2.2.2.2.2.1, (z_day zV t_z w_z c_z).2.2.2.2.2.2) := by
  show (if z_comes zV t_z c_z then z_at1 zV w_z (z_day zV t_z w_z c_z) c_z else _) = _
  rw [h_z, if_pos rfl]
  unfold z_at1
  rw [← z_rc_yes h_z, e_z]
theorem z_add0 (x_z : Int32) : x_z + 0 = x_z := Int32.add_zero x_z
/-- the day goes on -/
theorem z_day_nx (zV : z_V) (t_z w_z : Int32) (c_z : Nat) : (z_day zV t_z w_z (c_z + 1)).1 = (z_rc zV t_z w_z c_z).1 ∧ (z_day zV t_z w_z (c_z + 1)).2.1 = (z_day zV t_z w_z c_z).2.1 + (if (z_rc zV t_z w_z c_z).2 = none then 0 else 1) ∧ (z_day zV t_z w_z (c_z + 1)).2.2.1 = (z_day zV t_z w_z c_z).2.2.1 + (if z_comes zV t_z c_z = true ∧ (z_rc zV t_z w_z c_z).2 = none then 1 else 0) ∧ (z_day zV t_z w_z (c_z + 1)).2.2.2.1 = (if z_comes zV t_z c_z = true ∧ (z_rc zV t_z w_z c_z).2 = none ∧ (z_day zV t_z w_z c_z).2.2.1 = 0 then nI c_z else (z_day zV t_z w_z c_z).2.2.2.1) ∧ (z_day zV t_z w_z (c_z + 1)).2.2.2.2.1 = (z_day zV t_z w_z c_z).2.2.2.2.1 + (z_pp zV t_z w_z c_z - z_pp zV t_z w_z c_z * 9 / 100) ∧ (z_day zV t_z w_z (c_z + 1)).2.2.2.2.2.1 = (z_day zV t_z w_z c_z).2.2.2.2.2.1 + z_pp zV t_z w_z c_z * 9 / 100 ∧ ((∀ q_z, q_z < 1000 → c_z ≤ q_z → (z_day zV t_z w_z c_z).2.2.2.2.2.2 q_z = -4) → ∀ q_z, q_z < 1000 → (z_day zV t_z w_z (c_z + 1)).2.2.2.2.2.2 q_z = if q_z = c_z then z_sl (z_rc zV t_z w_z c_z).2 else (z_day zV t_z w_z c_z).2.2.2.2.2.2 q_z) := by
  cases hc_z : z_comes zV t_z c_z with
  | false =>
    have e0_z := z_rc_no (w_z := w_z) hc_z
    have ep : z_pp zV t_z w_z c_z = 0 := by unfold z_pp; rw [hc_z]; exact if_neg (fun z_z => Bool.noConfusion z_z.1)
    rw [z_day_no hc_z, e0_z, ep]
    refine ⟨rfl, (z_add0 _).symm, ?_, ?_, ?_, ?_, fun h_z q_z hq => ?_⟩
    · rw [if_neg (fun z_z => Bool.noConfusion z_z.1)]; exact (z_add0 _).symm
    · rw [if_neg (fun z_z => Bool.noConfusion z_z.1)]
    · exact (z_add0 _).symm
    · exact (z_add0 _).symm
    · by_cases e_z : q_z = c_z
      · rw [if_pos e_z]; exact h_z q_z hq (by omega)
      · rw [if_neg e_z]
  | true =>
    obtain ⟨K_z, b_z, e0_z⟩ : ∃ K_z b_z, z_rc zV t_z w_z c_z = (K_z, b_z) := ⟨_, _, rfl⟩
    cases b_z with
    | none =>
      have ep : z_pp zV t_z w_z c_z = 0 := by unfold z_pp; rw [e0_z]; exact if_neg (fun z_z => z_z.2 rfl)
      rw [z_day_none hc_z e0_z, e0_z, ep]
      refine ⟨rfl, (z_add0 _).symm, ?_, ?_, ?_, ?_, fun h_z q_z hq => ?_⟩
      · rw [if_pos (show true = true ∧ ((K_z, none) : Int32 × Option Nat).2 = none from ⟨rfl, rfl⟩)]
      · show (if (z_day zV t_z w_z c_z).2.2.1 = 0 then nI c_z else _) = _
        by_cases z_z : (z_day zV t_z w_z c_z).2.2.1 = 0
        · rw [if_pos z_z, if_pos ⟨rfl, rfl, z_z⟩]
        · rw [if_neg z_z, if_neg (fun q_z => z_z q_z.2.2)]
      · exact (z_add0 _).symm
      · exact (z_add0 _).symm
      · show (z_day zV t_z w_z c_z).2.2.2.2.2.2 q_z = _
        by_cases e_z : q_z = c_z
        · rw [if_pos e_z]; exact h_z q_z hq (by omega)
        · rw [if_neg e_z]
    | some s_z =>
      have ep : z_pp zV t_z w_z c_z = z_pay zV c_z := by unfold z_pp; rw [e0_z]; exact if_pos ⟨hc_z, fun z_z => by cases z_z⟩
      rw [z_day_some hc_z e0_z, e0_z, ep]
      refine ⟨rfl, ?_, ?_, ?_, rfl, rfl, fun h_z q_z hq => rfl⟩
      · rw [if_neg (fun z_z => by cases z_z)]
      · rw [if_neg (fun z_z => by cases z_z.2)]; exact (z_add0 _).symm
      · rw [if_neg (fun z_z => by cases z_z.2.1)]
theorem z_mw4 (zV : z_V) (ow : Int32) {c_z : Nat} (hc_z : c_z < 1000) : z_mw zV (-4) ow c_z = zV.1 6 c_z := by
  unfold z_mw
  rw [if_neg (fun q_z => by
    have h2 : 0 ≤ nI c_z := nI_pos' (by omega)
    rw [q_z] at h2
    exact absurd h2 (by decide))]
theorem z_pp_n1 {zV : z_V} {t_z w_z : Int32} {c_z : Nat} (h_z : ¬ z_comes zV t_z c_z = true) : z_pp zV t_z w_z c_z = 0 := if_neg (fun z_z => h_z z_z.1)
theorem z_pp_n2 {zV : z_V} {t_z w_z : Int32} {c_z : Nat} (h_z : (z_rc zV t_z w_z c_z).2 = none) : z_pp zV t_z w_z c_z = 0 := if_neg (fun z_z => z_z.2 h_z)
theorem z_pp_w {zV : z_V} {t_z w_z : Int32} {c_z : Nat} (h_z : z_comes zV t_z c_z = true) (h2 : ¬ (z_rc zV t_z w_z c_z).2 = none) (h3 : zV.1 6 c_z = 3) : z_pp zV t_z w_z c_z = 0 := by
  unfold z_pp z_pay
  rw [if_pos ⟨h_z, h2⟩, if_pos h3]
theorem z_pp_p {zV : z_V} {t_z w_z : Int32} {c_z : Nat} (h_z : z_comes zV t_z c_z = true) (h2 : ¬ (z_rc zV t_z w_z c_z).2 = none) (h3 : ¬ zV.1 6 c_z = 3) : z_pp zV t_z w_z c_z = zV.1 7 c_z := by
  unfold z_pp z_pay
  rw [if_pos ⟨h_z, h2⟩, if_neg h3]
/-- the model's day is the class's -/
theorem z_mn_day (zV : z_V) (t_z w_z ow : Int32) : ∀ c_z, c_z ≤ 10 → (z_mn zV t_z w_z (-4) ow c_z).1 = (z_day zV t_z w_z c_z).1 ∧ (z_mn zV t_z w_z (-4) ow c_z).2.1 = (z_day zV t_z w_z c_z).2.1 ∧ (z_mn zV t_z w_z (-4) ow c_z).2.2.1 = (z_day zV t_z w_z c_z).2.2.2.1 ∧ (∀ q_z, q_z < 1000 → c_z ≤ q_z → (z_day zV t_z w_z c_z).2.2.2.2.2.2 q_z = -4) ∧ (∀ q_z, q_z < c_z → (z_mn zV t_z w_z (-4) ow c_z).2.2.2.2 q_z = (z_day zV t_z w_z c_z).2.2.2.2.2.2 q_z) ∧ (∀ q_z, q_z < c_z → (z_day zV t_z w_z c_z).2.2.2.2.2.2 q_z = z_sl (z_rc zV t_z w_z q_z).2) ∧ ∃ h_z, h_z ≤ c_z ∧ (z_day zV t_z w_z c_z).2.2.1 = nI h_z ∧ (h_z = 0 → (z_day zV t_z w_z c_z).2.2.2.1 = -4) ∧ (¬ h_z = 0 → ∃ j_z, j_z < c_z ∧ (z_day zV t_z w_z c_z).2.2.2.1 = nI j_z)
  | 0, _ => ⟨rfl, rfl, rfl, fun _ _ _ => rfl, fun q_z hq => absurd hq (Nat.not_lt_zero q_z), fun q_z hq => absurd hq (Nat.not_lt_zero q_z), 0, Nat.le_refl 0, rfl, fun _ => rfl, fun q_z => absurd rfl q_z⟩
  | c_z + 1, hc_z => by
    obtain ⟨i1_z, i2_z, i3_z, i4_z, i5_z, i6_z, h_z, h1, h2, h3, h4⟩ := z_mn_day zV t_z w_z ow c_z (by omega)
    obtain ⟨d1_z, d2_z, d3_z, d4_z, -, -, d7_z⟩ := z_day_nx zV t_z w_z c_z
    have d7_z := d7_z i4_z
    have er : z_mr zV t_z w_z (z_mw zV (-4) ow c_z) c_z (z_mn zV t_z w_z (-4) ow c_z).1 = z_rc zV t_z w_z c_z := by rw [z_mw4 zV ow (by omega), i1_z]; rfl
    have e0_z : z_mn zV t_z w_z (-4) ow (c_z + 1) = z_m1 zV t_z w_z (-4) ow (z_mn zV t_z w_z (-4) ow c_z) c_z := rfl
    have hz : nI h_z = 0 ↔ h_z = 0 := ⟨fun q_z => by
      rcases Nat.eq_zero_or_pos h_z with z_z | z_z
      · exact z_z
      · have h5 := (nI_ltI (show 0 < 2 ^ 31 by decide) (show h_z < 2 ^ 31 by omega)).mpr z_z
        rw [q_z] at h5
        exact absurd h5 (by decide), fun q_z => by rw [q_z]; rfl⟩
    have hf4 : (z_mn zV t_z w_z (-4) ow c_z).2.2.1 = -4 ↔ (z_day zV t_z w_z c_z).2.2.1 = 0 := by
      rw [i3_z, h2]
      constructor
      · intro q_z
        by_cases z_z : h_z = 0
        · rw [z_z]; rfl
        · obtain ⟨j_z, hj, ej⟩ := h4 z_z
          rw [ej] at q_z
          have h5 : 0 ≤ nI j_z := nI_pos' (by omega)
          rw [q_z] at h5
          exact absurd h5 (by decide)
      · exact fun q_z => h3 (hz.mp q_z)
    refine ⟨?_, ?_, ?_, fun q_z h1 h2 => ?_, fun q_z hq => ?_, fun q_z hq => ?_, ?_⟩
    · rw [e0_z, d1_z]; show (z_mr zV t_z w_z (z_mw zV (-4) ow c_z) c_z (z_mn zV t_z w_z (-4) ow c_z).1).1 = _; rw [er]
    · rw [e0_z, d2_z]; show _ + (if (z_mr zV t_z w_z (z_mw zV (-4) ow c_z) c_z (z_mn zV t_z w_z (-4) ow c_z).1).2 = none then (0 : Int32) else 1) = _; rw [er, i2_z]
    · rw [e0_z, d4_z]
      show (if z_comes zV t_z c_z = true ∧ (z_mr zV t_z w_z (z_mw zV (-4) ow c_z) c_z (z_mn zV t_z w_z (-4) ow c_z).1).2 = none ∧ (z_mn zV t_z w_z (-4) ow c_z).2.2.1 = -4 then nI c_z else (z_mn zV t_z w_z (-4) ow c_z).2.2.1) = _
      rw [er, i3_z]
      by_cases z_z : z_comes zV t_z c_z = true ∧ (z_rc zV t_z w_z c_z).2 = none ∧ (z_day zV t_z w_z c_z).2.2.1 = 0
      · rw [if_pos z_z, if_pos ⟨z_z.1, z_z.2.1, by rw [← i3_z]; exact hf4.mpr z_z.2.2⟩]
      · rw [if_neg z_z, if_neg (fun q_z => z_z ⟨q_z.1, q_z.2.1, hf4.mp (by rw [i3_z]; exact q_z.2.2)⟩)]
    · rw [d7_z q_z h1, if_neg (by omega)]; exact i4_z q_z h1 (by omega)
    · rw [d7_z q_z (by omega), e0_z]
      show (if q_z = c_z then z_sl (z_mr zV t_z w_z (z_mw zV (-4) ow c_z) c_z (z_mn zV t_z w_z (-4) ow c_z).1).2 else (z_mn zV t_z w_z (-4) ow c_z).2.2.2.2 q_z) = _
      rw [er]
      by_cases e_z : q_z = c_z
      · rw [if_pos e_z, if_pos e_z]
      · rw [if_neg e_z, if_neg e_z]; exact i5_z q_z (by omega)
    · rw [d7_z q_z (by omega)]
      by_cases e_z : q_z = c_z
      · rw [if_pos e_z, e_z]
      · rw [if_neg e_z]; exact i6_z q_z (by omega)
    · rw [d3_z, d4_z, h2]
      by_cases z_z : z_comes zV t_z c_z = true ∧ (z_rc zV t_z w_z c_z).2 = none
      · rw [if_pos z_z]
        refine ⟨h_z + 1, by omega, nI_1 h_z, fun q_z => by omega, fun _ => ?_⟩
        by_cases y_z : h_z = 0
        · rw [if_pos ⟨z_z.1, z_z.2, hz.mpr y_z⟩]; exact ⟨c_z, by omega, rfl⟩
        · rw [if_neg (fun q_z => y_z (hz.mp q_z.2.2))]
          obtain ⟨j_z, hj, ej⟩ := h4 y_z
          exact ⟨j_z, by omega, ej⟩
      · rw [if_neg z_z, if_neg (fun q_z => z_z ⟨q_z.1, q_z.2.1⟩)]
        refine ⟨h_z, by omega, z_add0 _, h3, fun q_z => ?_⟩
        obtain ⟨j_z, hj, ej⟩ := h4 q_z
        exact ⟨j_z, by omega, ej⟩
/-- what a night that goes by changes -/
def z_PGM (o : Nat) : Nat → Nat → Prop := fun q_z k_z => z_PLN q_z k_z ∨ q_z = o
theorem z_aw3 : ∀ j_z, j_z < 4 → (if nI j_z - 1 < 0 then (0 : Int32) else nI j_z - 1) = if 0 < nI j_z then nI j_z - 1 else 0 := by decide +kernel
theorem z_rW.cls {J_z I2_z : Nat → Nat → Int32} {o : Nat} {zV : z_V} {zT : Nat → Int32} {D_z : z_N} (h1 : J_z o 1 = zT 1 + D_z.2.2.2.2.1) (h2 : J_z o 2 = zT 2 + D_z.2.2.2.2.2.1) (h3 : J_z o 3 = zT 3 + D_z.2.2.1) (hq : ∀ a_z, a_z < 6 → J_z o (5 + a_z) = z_qr (zT 4) a_z 6) (hf : z_f2 (fun q_z k_z => q_z = o ∧ 11 ≤ k_z ∧ k_z < 17) J_z I2_z) (hw : ∀ j_z, j_z < 6 → I2_z o (11 + j_z) = if j_z < zV.2.1 then z_cls1 zV zT D_z (6 + j_z) else zT (6 + j_z)) : z_rW (z_u2 (z_u2 I2_z o 4 0) o 0 (zT 0 + 1)) o 0 (z_cls1 zV zT D_z) := by
  refine ⟨z_u2_same _ _ _ _, ?_, ?_, ?_, ?_, fun a_z ha_z => ?_, fun j_z hj => ?_⟩
  · rw [z_u2_ne (Or.inr (by decide)), z_u2_ne (Or.inr (by decide)), hf o _ (by omega)]; exact h1
  · rw [z_u2_ne (Or.inr (by decide)), z_u2_ne (Or.inr (by decide)), hf o _ (by omega)]; exact h2
  · rw [z_u2_ne (Or.inr (by decide)), z_u2_ne (Or.inr (by decide)), hf o _ (by omega)]; exact h3
  · exact (z_u2_ne (Or.inr (by decide))).trans (z_u2_same _ _ _ _)
  · rw [z_u2_ne (Or.inr (by omega)), z_u2_ne (Or.inr (by omega)), hf o _ (by omega), show 0 + 5 + a_z = 5 + a_z by omega]; exact hq a_z ha_z
  · rw [z_u2_ne (Or.inr (by omega)), z_u2_ne (Or.inr (by omega)), show 0 + 11 + j_z = 11 + j_z by omega, hw j_z hj]
    by_cases q_z : j_z < zV.2.1
    · rw [if_pos q_z]
    · rw [if_neg q_z]
      unfold z_cls1
      rw [if_neg (by omega), if_neg (by omega), if_neg (by omega), if_neg (by omega), if_neg (by omega), if_neg (by omega), if_neg (by omega)]
set_option maxHeartbeats 4000000 in
theorem c_X10_goBy {g_z : z_U} {d_z : Nat} {zS : z_S} (hN_z : z_LM zS) {zV : z_V} (hO : z_OV zV) (hV : z_mV (z_I zS) zV) {db : Int32} (hdb : z_I zS 99 25 = db) {o : Nat} (ho : z_is zS o (1, 17)) (ho9 : o = 106 ∨ o = 107) {zT : Nat → Int32} (hW : z_rW (z_I zS) o 0 zT) (hA : ∀ k_z, k_z < zV.2.1 → ∃ a_z, a_z < 4 ∧ zT (6 + k_z) = nI a_z) {dog : Bool} (hdg : z_mdg zV db (zT 0) = dog) : z_C g_z (d_z + 3) 0 0 mX10_goBy [.ref 99, .ref o] zS (fun r_z zS' => r_z = some (.int (z_dayO zV zT dog).2.2.1) ∧ ∃ zI', z_up zS zI' = zS' ∧ z_f2 (z_PGM o) (z_I zS) zI' ∧ z_rW zI' o 0 (z_nx1 zV zT dog) ∧ zI' 99 26 = (z_dayO zV zT dog).2.2.2.1 ∧ zI' 99 27 = (z_dayO zV zT dog).2.1) := by
  refine z_enter [some (.ref 99), some (.ref o), none, none, none, none] rfl rfl (Nat.le_of_ble_eq_true rfl) rfl (fun zX hM_z => ?_)
  have hB_z : z_B g_z zX RX10 cX10_goBy 6 := hM_z.1
  have hn6 := hO.2.1
  have hm10 := hO.2.2.1
  have ho1 : 99 ≠ o := by omega
  obtain ⟨D_z, hDe⟩ : ∃ D_z, z_dayO zV zT dog = D_z := ⟨_, rfl⟩
  unfold z_nx1 at hM_z
  rw [hDe] at hM_z
  have loop2 : ∀ (J_z : Nat → Nat → Int32) (hm_z : Int32), z_f2 (z_PGM o) (z_I zS) J_z → J_z 99 10 = nI zV.2.1 → J_z 99 24 = D_z.1 → J_z 99 26 = D_z.2.2.2.1 → J_z 99 27 = D_z.2.1 → J_z o 0 = zT 0 → J_z o 1 = zT 1 + D_z.2.2.2.2.1 → J_z o 2 = zT 2 + D_z.2.2.2.2.2.1 → J_z o 3 = zT 3 + D_z.2.2.1 → (∀ a_z, a_z < 6 → J_z o (5 + a_z) = z_qr (zT 4) a_z 6) → (∀ j_z, j_z < 6 → J_z o (11 + j_z) = zT (6 + j_z)) → hm_z = D_z.2.2.1 → z_W g_z zX 160 [some (.ref 99), some (.ref o), some (.int hm_z), some (.int (nI 0)), none, none] [] 0 0 (z_up zS J_z) := fun J_z hm_z hfS hj10 hj24 hj26 hj27 hj0 hj1 hj2 hj3 hjq hja hhm => by
    subst hhm
    exact z_loop (fun k_z => ∀ I2_z, z_f2 (fun q_z k_z => q_z = o ∧ 11 ≤ k_z ∧ k_z < 17) J_z I2_z → (∀ j_z, j_z < 6 → I2_z o (11 + j_z) = if j_z < k_z then z_cls1 zV zT D_z (6 + j_z) else zT (6 + j_z)) → z_W g_z zX 160 [some (.ref 99), some (.ref o), some (.int D_z.2.2.1), some (.int (nI k_z)), none, none] [] 0 0 (z_up zS I2_z)) zV.2.1 (fun k_z hk ih_z I2_z hf ha_z => by
      refine z_s 161 hB_z dX10_goBy_160 rfl rfl ?_
      refine z_s 162 hB_z dX10_goBy_161 rfl rfl ?_
      refine z_getI 165 hB_z fX10_50 (N99 (zS := zS) hN_z) dX10_goBy_162 rfl rfl ?_
      rw [show z_I (z_up zS I2_z) 99 10 = nI zV.2.1 from (hf 99 10 (by omega)).trans hj10]
      refine z_b 168 216 hB_z dX10_goBy_165 rfl rfl (by decide) (fun c_165 => ?_) (fun c_165 => ?_)
      ·
        have hks : k_z = zV.2.1 := by
          have := (nI_leI (by omega) (by omega)).mp (show nI zV.2.1 ≤ nI k_z from c_165)
          omega
        subst hks
        refine z_s 217 hB_z dX10_goBy_216 rfl rfl ?_
        refine z_s 218 hB_z dX10_goBy_217 rfl rfl ?_
        refine z_s 219 hB_z dX10_goBy_218 rfl rfl ?_
        refine z_ast 220 hB_z ho dX10_goBy_219 rfl (vp_in_nI (show 4 < 17 by decide) (by decide)) ?_
        rw [z_c4]
        refine z_s 221 hB_z dX10_goBy_220 rfl rfl ?_
        refine z_s 222 hB_z dX10_goBy_221 rfl rfl ?_
        refine z_s 223 hB_z dX10_goBy_222 rfl rfl ?_
        refine z_ald 224 hB_z ho dX10_goBy_223 rfl (vp_in_nI (show 0 < 17 by decide) (by decide)) ?_
        rw [z_c0, show z_I (z_pI (z_up zS I2_z) o 4 0) o 0 = zT 0 from (z_Ine (Or.inr (by decide))).trans ((hf o 0 (by omega)).trans hj0)]
        refine z_s 225 hB_z dX10_goBy_224 rfl rfl ?_
        refine z_s 226 hB_z dX10_goBy_225 rfl rfl ?_
        refine z_ast 227 hB_z ho dX10_goBy_226 rfl (vp_in_nI (show 0 < 17 by decide) (by decide)) ?_
        rw [z_c0]
        refine z_s 228 hB_z dX10_goBy_227 rfl rfl ?_
        refine z_iret hM_z dX10_goBy_228 rfl ?_ rfl rfl
        exact ⟨rfl, z_u2 (z_u2 I2_z o 4 0) o 0 (zT 0 + 1), rfl, hfS.tr ((((hf.mono (fun q_z k_z h_z => Or.inr h_z.1)).u2 (Or.inr rfl)).u2 (Or.inr rfl))), z_rW.cls hj1 hj2 hj3 hjq hf ha_z, (z_u2_ne (Or.inl ho1)).trans ((z_u2_ne (Or.inl ho1)).trans ((hf 99 26 (by omega)).trans hj26)), (z_u2_ne (Or.inl ho1)).trans ((z_u2_ne (Or.inl ho1)).trans ((hf 99 27 (by omega)).trans hj27))⟩
      ·
        have hks : k_z < zV.2.1 := (nI_ltI (by omega) (by omega)).mp (show nI k_z < nI zV.2.1 from c_165)
        obtain ⟨a_z, ha4, hta⟩ := hA k_z hks
        refine z_s 169 hB_z dX10_goBy_168 rfl rfl ?_
        refine z_s 171 hB_z dX10_goBy_169 rfl rfl ?_
        refine z_s 172 hB_z dX10_goBy_171 rfl rfl ?_
        refine z_s 173 hB_z dX10_goBy_172 rfl rfl ?_
        refine z_s 174 hB_z dX10_goBy_173 rfl rfl ?_
        refine z_getI 177 hB_z fX10_152 (N99 (zS := zS) hN_z) dX10_goBy_174 rfl rfl ?_
        rw [show z_I (z_up zS I2_z) 99 24 = D_z.1 from (hf 99 24 (by omega)).trans hj24]
        refine z_s 178 hB_z dX10_goBy_177 rfl rfl ?_
        refine z_callS 181 hB_z hM_z.2.1 kX10_107 dX10_goBy_178 rfl (c_X10_has (d_z := 0)) (by omega) rfl rfl (Nat.le_of_ble_eq_true rfl) ⟨Nat.le_refl _, Nat.le_refl _⟩ ?_
        rintro _ _ ⟨rfl, rfl⟩
        refine z_b 184 188 hB_z dX10_goBy_181 rfl rfl (by decide) (fun c_181 => ?_) (fun c_181 => ?_)
        ·
          refine z_s 189 hB_z dX10_goBy_188 rfl rfl ?_
          refine z_s 191 hB_z dX10_goBy_189 rfl rfl ?_
          refine z_s 192 hB_z dX10_goBy_191 rfl rfl ?_
          refine z_s 193 hB_z dX10_goBy_192 rfl rfl ?_
          rw [z_n11]
          refine z_ald 194 hB_z ho dX10_goBy_193 rfl (vp_in_nI (show 11 + k_z < 17 by omega) (by decide)) ?_
          rw [nI_clamp (by omega), show z_I (z_up zS I2_z) o (11 + k_z) = zT (6 + k_z) from (ha_z k_z (by omega)).trans (if_neg (Nat.lt_irrefl k_z))]
          refine z_b 197 208 hB_z dX10_goBy_194 rfl rfl (by decide) (fun c_194 => ?_) (fun c_194 => ?_)
          ·
            refine z_s 209 hB_z dX10_goBy_208 rfl rfl ?_
            refine z_ast 210 hB_z ho dX10_goBy_209 rfl (vp_in_nI (show 11 + k_z < 17 by omega) (by decide)) ?_
            rw [nI_clamp (by omega)]
            refine z_s 213 hB_z dX10_goBy_210 rfl rfl ?_
            refine z_j 160 hB_z dX10_goBy_213 (by decide) ?_
            exact z_wkn (ih_z hks (z_u2 I2_z o (11 + k_z) (0)) (hf.u2 ⟨rfl, by omega, by omega⟩) (fun j_z hj => by
              by_cases q_z : j_z = k_z
              · rw [q_z, z_u2_same, if_pos (by omega), z_cls1_aw hks]
                rw [if_neg (show ¬ z_hb D_z.1 k_z = true from fun z_z => z_of0 c_181 (of_decide_eq_true z_z)), hta, z_aw3 a_z ha4, if_neg (z_nlt0 (hta ▸ c_194))]
              · rw [z_u2_ne (Or.inr (by omega)), ha_z j_z hj]
                by_cases q2_z : j_z < k_z
                · rw [if_pos q2_z, if_pos (by omega)]
                · rw [if_neg q2_z, if_neg (by omega)])) ⟨rfl, rfl, rfl, congrArg (fun q_z => some (Value.int q_z)) (z_inc k_z), trivial⟩
          ·
            refine z_s 198 hB_z dX10_goBy_197 rfl rfl ?_
            refine z_s 200 hB_z dX10_goBy_198 rfl rfl ?_
            refine z_s 201 hB_z dX10_goBy_200 rfl rfl ?_
            refine z_s 202 hB_z dX10_goBy_201 rfl rfl ?_
            rw [z_n11]
            refine z_ald 203 hB_z ho dX10_goBy_202 rfl (vp_in_nI (show 11 + k_z < 17 by omega) (by decide)) ?_
            rw [nI_clamp (by omega), show z_I (z_up zS I2_z) o (11 + k_z) = zT (6 + k_z) from (ha_z k_z (by omega)).trans (if_neg (Nat.lt_irrefl k_z))]
            refine z_s 204 hB_z dX10_goBy_203 rfl rfl ?_
            refine z_s 205 hB_z dX10_goBy_204 rfl rfl ?_
            refine z_j 209 hB_z dX10_goBy_205 (by decide) ?_
            refine z_ast 210 hB_z ho dX10_goBy_209 rfl (vp_in_nI (show 11 + k_z < 17 by omega) (by decide)) ?_
            rw [nI_clamp (by omega)]
            refine z_s 213 hB_z dX10_goBy_210 rfl rfl ?_
            refine z_j 160 hB_z dX10_goBy_213 (by decide) ?_
            exact z_wkn (ih_z hks (z_u2 I2_z o (11 + k_z) (zT (6 + k_z) - 1)) (hf.u2 ⟨rfl, by omega, by omega⟩) (fun j_z hj => by
              by_cases q_z : j_z = k_z
              · rw [q_z, z_u2_same, if_pos (by omega), z_cls1_aw hks]
                rw [if_neg (show ¬ z_hb D_z.1 k_z = true from fun z_z => z_of0 c_181 (of_decide_eq_true z_z)), hta, z_aw3 a_z ha4, if_pos (hta ▸ c_194)]
              · rw [z_u2_ne (Or.inr (by omega)), ha_z j_z hj]
                by_cases q2_z : j_z < k_z
                · rw [if_pos q2_z, if_pos (by omega)]
                · rw [if_neg q2_z, if_neg (by omega)])) ⟨rfl, rfl, rfl, congrArg (fun q_z => some (Value.int q_z)) (z_inc k_z), trivial⟩
        ·
          refine z_s 185 hB_z dX10_goBy_184 rfl rfl ?_
          refine z_j 209 hB_z dX10_goBy_185 (by decide) ?_
          rw [z_n11]
          refine z_ast 210 hB_z ho dX10_goBy_209 rfl (vp_in_nI (show 11 + k_z < 17 by omega) (by decide)) ?_
          rw [nI_clamp (by omega)]
          refine z_s 213 hB_z dX10_goBy_210 rfl rfl ?_
          refine z_j 160 hB_z dX10_goBy_213 (by decide) ?_
          exact z_wkn (ih_z hks (z_u2 I2_z o (11 + k_z) (3)) (hf.u2 ⟨rfl, by omega, by omega⟩) (fun j_z hj => by
            by_cases q_z : j_z = k_z
            · rw [q_z, z_u2_same, if_pos (by omega), z_cls1_aw hks]
              rw [if_pos (show z_hb D_z.1 k_z = true from decide_eq_true (z_of1 c_181))]
            · rw [z_u2_ne (Or.inr (by omega)), ha_z j_z hj]
              by_cases q2_z : j_z < k_z
              · rw [if_pos q2_z, if_pos (by omega)]
              · rw [if_neg q2_z, if_neg (by omega)])) ⟨rfl, rfl, rfl, congrArg (fun q_z => some (Value.int q_z)) (z_inc k_z), trivial⟩) 0 (Nat.zero_le _) J_z z_f2.rf (fun j_z hj => (hja j_z hj).trans (if_neg (Nat.not_lt_zero j_z)).symm)
  refine z_s 1 hB_z dX10_goBy_0 rfl rfl ?_
  refine z_s 2 hB_z dX10_goBy_1 rfl rfl ?_
  refine z_s 4 hB_z dX10_goBy_2 rfl rfl ?_
  refine z_s 5 hB_z dX10_goBy_4 rfl rfl ?_
  refine z_callV 8 hB_z hM_z.2.1 kX10_170 dX10_goBy_5 rfl (N99 (zS := zS) hN_z) rfl (c_X10_layNight (d_z := 0) hN_z hO hV hdb ho ho9 hW hdg) (by omega) rfl rfl (Nat.le_of_ble_eq_true rfl) ⟨Nat.le_refl _, Nat.le_refl _⟩ ?_
  rintro _ _ ⟨rfl, I0_z, rfl, hf0, hw0, hD0⟩
  obtain ⟨w_z, hw⟩ : ∃ w_z, z_wkd zV zT dog zV.2.1 = w_z := ⟨_, rfl⟩
  rw [hw] at hD0
  have hDw : z_day zV (zT 0) w_z zV.2.2.1 = D_z := by rw [← hDe, ← hw]; rfl
  obtain ⟨m1_z, m2_z, m3_z, m4_z, m5_z, m6_z, -⟩ := z_mn_day zV (zT 0) w_z 0 zV.2.2.1 hm10
  rw [hDw] at m1_z m2_z m3_z m5_z m6_z
  have h24 : I0_z 99 24 = D_z.1 := hD0.1.trans m1_z
  have h27 : I0_z 99 27 = D_z.2.1 := hD0.2.1.trans m2_z
  have h26 : I0_z 99 26 = D_z.2.2.2.1 := hD0.2.2.1.trans m3_z
  have hb0 : ∀ q_z, q_z < zV.2.2.1 → I0_z 111 q_z = z_sl (z_rc zV (zT 0) w_z q_z).2 := fun q_z hq => ((hD0.2.2.2.2 q_z hq).trans (m5_z q_z hq)).trans (m6_z q_z hq)
  have loop1 := z_loop (fun c_z => ∀ I1, z_f2 (fun q_z k_z => q_z = o ∧ (k_z = 1 ∨ k_z = 2)) I0_z I1 → I1 o 1 = zT 1 + (z_day zV (zT 0) w_z c_z).2.2.2.2.1 → I1 o 2 = zT 2 + (z_day zV (zT 0) w_z c_z).2.2.2.2.2.1 → z_W g_z zX 12 [some (.ref 99), some (.ref o), some (.int (z_day zV (zT 0) w_z c_z).2.2.1), some (.int (nI c_z)), none, none] [] 0 0 (z_up zS I1)) zV.2.2.1 (fun c_z hc_z ih_z I1 hf hd1 hd2 => by
      refine z_s 13 hB_z dX10_goBy_12 rfl rfl ?_
      refine z_s 14 hB_z dX10_goBy_13 rfl rfl ?_
      refine z_getI 17 hB_z fX10_61 (N99 (zS := zS) hN_z) dX10_goBy_14 rfl rfl ?_
      rw [show z_I (z_up zS I1) 99 11 = nI zV.2.2.1 from (hf 99 11 (by omega)).trans ((hf0 99 11 (by unfold z_PLN; omega)).trans hV.2.1)]
      refine z_b 20 151 hB_z dX10_goBy_17 rfl rfl (by decide) (fun c_17 => ?_) (fun c_17 => ?_)
      ·
        have hcm : c_z = zV.2.2.1 := by
          have := (nI_leI (by omega) (by omega)).mp (show nI zV.2.2.1 ≤ nI c_z from c_17)
          omega
        subst hcm
        have eD : z_day zV (zT 0) w_z zV.2.2.1 = D_z := hDw
        rw [eD] at hd1 hd2 ⊢
        refine z_s 152 hB_z dX10_goBy_151 rfl rfl ?_
        refine z_s 153 hB_z dX10_goBy_152 rfl rfl ?_
        refine z_s 154 hB_z dX10_goBy_153 rfl rfl ?_
        refine z_ald 155 hB_z ho dX10_goBy_154 rfl (vp_in_nI (show 3 < 17 by decide) (by decide)) ?_
        rw [z_c3, show z_I (z_up zS I1) o 3 = zT 3 from (hf o 3 (by omega)).trans ((hf0 o 3 (by unfold z_PLN; omega)).trans hW.a3)]
        refine z_s 156 hB_z dX10_goBy_155 rfl rfl ?_
        refine z_s 157 hB_z dX10_goBy_156 rfl rfl ?_
        refine z_ast 158 hB_z ho dX10_goBy_157 rfl (vp_in_nI (show 3 < 17 by decide) (by decide)) ?_
        rw [z_c3]
        refine z_s 159 hB_z dX10_goBy_158 rfl rfl ?_
        refine z_s 160 hB_z dX10_goBy_159 rfl rfl ?_
        have hne : ∀ q_z k_z, ¬ (q_z = o ∧ k_z = 3) → z_u2 I1 o 3 (zT 3 + D_z.2.2.1) q_z k_z = I1 q_z k_z := fun q_z k_z h_z => z_u2_ne (by omega)
        refine z_eqS (z_wkn (loop2 (z_u2 I1 o 3 (zT 3 + D_z.2.2.1)) D_z.2.2.1 ((hf0.mono (fun q_z k_z h_z => Or.inl h_z)).tr ((hf.mono (fun q_z k_z h_z => Or.inr h_z.1)).u2 (Or.inr rfl))) ?_ ?_ ?_ ?_ ?_ ?_ ?_ (z_u2_same _ _ _ _) (fun a_z ha_z => ?_) (fun j_z hj => ?_) rfl) ⟨rfl, rfl, rfl, rfl, trivial⟩) rfl
        · rw [hne _ _ (by omega), hf _ _ (by omega), hf0 _ _ (by unfold z_PLN; omega)]; exact hV.1
        · rw [hne _ _ (by omega), hf _ _ (by omega)]; exact h24
        · rw [hne _ _ (by omega), hf _ _ (by omega)]; exact h26
        · rw [hne _ _ (by omega), hf _ _ (by omega)]; exact h27
        · rw [hne _ _ (by omega), hf _ _ (by omega), hf0 _ _ (by unfold z_PLN; omega)]; exact hW.a0
        · rw [hne _ _ (by omega)]; exact hd1
        · rw [hne _ _ (by omega)]; exact hd2
        · rw [hne _ _ (by omega), hf _ _ (by omega), hf0 _ _ (by unfold z_PLN; omega), show 5 + a_z = 0 + 5 + a_z by omega]; exact hW.aq a_z ha_z
        · rw [hne _ _ (by omega), hf _ _ (by omega), hf0 _ _ (by unfold z_PLN; omega), show 11 + j_z = 0 + 11 + j_z by omega]; exact hW.aw j_z hj
      ·
        have hcm : c_z < zV.2.2.1 := (nI_ltI (by omega) (by omega)).mp (show nI c_z < nI zV.2.2.1 from c_17)
        have hrs : ∀ s_z, (z_rc zV (zT 0) w_z c_z).2 = some s_z → s_z < 1000 := fun s_z hs => z_mr_lt hO hs
        have tl : z_W g_z zX 88 [some (.ref 99), some (.ref o), some (.int (z_day zV (zT 0) w_z c_z).2.2.1), some (.int (nI c_z)), some (.int (if z_comes zV (zT 0) c_z = true then 1 else 0)), none] [.int (z_pp zV (zT 0) w_z c_z)] 0 0 (z_up zS I1) := by
          refine z_s 90 hB_z dX10_goBy_88 rfl rfl ?_
          refine z_s 91 hB_z dX10_goBy_90 rfl rfl ?_
          refine z_s 93 hB_z dX10_goBy_91 rfl rfl ?_
          refine z_b 96 111 hB_z dX10_goBy_93 rfl rfl (by decide) (fun c_93 => ?_) (fun c_93 => ?_)
          ·
            refine z_s 112 hB_z dX10_goBy_111 rfl rfl ?_
            refine z_s 113 hB_z dX10_goBy_112 rfl rfl ?_
            refine z_s 114 hB_z dX10_goBy_113 rfl rfl ?_
            refine z_s 115 hB_z dX10_goBy_114 rfl rfl ?_
            refine z_s 116 hB_z dX10_goBy_115 rfl rfl ?_
            refine z_s 117 hB_z dX10_goBy_116 rfl rfl ?_
            refine z_ald 118 hB_z ho dX10_goBy_117 rfl (vp_in_nI (show 2 < 17 by decide) (by decide)) ?_
            rw [z_c2, show z_I (z_up zS I1) o 2 = zT 2 + (z_day zV (zT 0) w_z c_z).2.2.2.2.2.1 from hd2]
            refine z_s 120 hB_z dX10_goBy_118 rfl rfl ?_
            refine z_s 122 hB_z dX10_goBy_120 rfl rfl ?_
            refine z_s 123 hB_z dX10_goBy_122 rfl rfl ?_
            refine z_s 125 hB_z dX10_goBy_123 rfl rfl ?_
            refine z_idiv 126 hB_z dX10_goBy_125 rfl (by decide) ?_
            refine z_s 127 hB_z dX10_goBy_126 rfl rfl ?_
            refine z_ast 128 hB_z ho dX10_goBy_127 rfl (vp_in_nI (show 2 < 17 by decide) (by decide)) ?_
            rw [z_c2]
            refine z_s 129 hB_z dX10_goBy_128 rfl rfl ?_
            refine z_s 130 hB_z dX10_goBy_129 rfl rfl ?_
            refine z_s 131 hB_z dX10_goBy_130 rfl rfl ?_
            refine z_ald 132 hB_z ho dX10_goBy_131 rfl (vp_in_nI (show 1 < 17 by decide) (by decide)) ?_
            rw [z_c1, show z_I (z_pI (z_up zS I1) o 2 (zT 2 + (z_day zV (zT 0) w_z c_z).2.2.2.2.2.1 + z_pp zV (zT 0) w_z c_z * 9 / 100)) o 1 = zT 1 + (z_day zV (zT 0) w_z c_z).2.2.2.2.1 from (z_Ine (Or.inr (by decide))).trans hd1]
            refine z_s 134 hB_z dX10_goBy_132 rfl rfl ?_
            refine z_s 136 hB_z dX10_goBy_134 rfl rfl ?_
            refine z_s 138 hB_z dX10_goBy_136 rfl rfl ?_
            refine z_s 139 hB_z dX10_goBy_138 rfl rfl ?_
            refine z_s 141 hB_z dX10_goBy_139 rfl rfl ?_
            refine z_idiv 142 hB_z dX10_goBy_141 rfl (by decide) ?_
            refine z_s 143 hB_z dX10_goBy_142 rfl rfl ?_
            refine z_s 144 hB_z dX10_goBy_143 rfl rfl ?_
            refine z_ast 145 hB_z ho dX10_goBy_144 rfl (vp_in_nI (show 1 < 17 by decide) (by decide)) ?_
            rw [z_c1]
            refine z_s 148 hB_z dX10_goBy_145 rfl rfl ?_
            refine z_j 12 hB_z dX10_goBy_148 (by decide) ?_
            refine z_wkn (ih_z hcm (z_u2 (z_u2 I1 o 2 (zT 2 + (z_day zV (zT 0) w_z c_z).2.2.2.2.2.1 + z_pp zV (zT 0) w_z c_z * 9 / 100)) o 1 (zT 1 + (z_day zV (zT 0) w_z c_z).2.2.2.2.1 + (z_pp zV (zT 0) w_z c_z - z_pp zV (zT 0) w_z c_z * 9 / 100))) ((hf.u2 ⟨rfl, Or.inr rfl⟩).u2 ⟨rfl, Or.inl rfl⟩) ?_ ?_) ⟨rfl, rfl, congrArg (fun q_z => some (Value.int q_z)) ?_, congrArg (fun q_z => some (Value.int q_z)) (z_inc c_z), trivial⟩
            · rw [z_u2_same, (z_day_nx zV (zT 0) w_z c_z).2.2.2.2.1, Int32.add_assoc]
            · rw [z_u2_ne (Or.inr (by decide)), z_u2_same, (z_day_nx zV (zT 0) w_z c_z).2.2.2.2.2.1, Int32.add_assoc]
            · rw [(z_day_nx zV (zT 0) w_z c_z).2.2.1]
              rw [show (if z_comes zV (zT 0) c_z = true ∧ (z_rc zV (zT 0) w_z c_z).2 = none then (1 : Int32) else 0) = 0 from if_neg (fun z_z => by rw [z_z.1] at c_93; exact absurd c_93 (by decide))]
          ·
            refine z_s 97 hB_z dX10_goBy_96 rfl rfl ?_
            refine z_getR 100 hB_z fX10_43 (N99 (zS := zS) hN_z) dX10_goBy_97 rfl rfl (n99_29 (zS := zS) hN_z) ?_
            refine z_s 101 hB_z dX10_goBy_100 rfl rfl ?_
            refine z_ald 102 hB_z (N111 (zS := zS) hN_z) dX10_goBy_101 rfl (vp_in_nI (show c_z < 10 by omega) (by decide)) ?_
            rw [nI_clamp (by omega), show z_I (z_up zS I1) 111 c_z = z_sl (z_rc zV (zT 0) w_z c_z).2 from (hf 111 c_z (by omega)).trans (hb0 c_z hcm)]
            refine z_s 104 hB_z dX10_goBy_102 rfl rfl ?_
            refine z_b 107 111 hB_z dX10_goBy_104 rfl rfl (by decide) (fun c_104 => ?_) (fun c_104 => ?_)
            ·
              refine z_s 112 hB_z dX10_goBy_111 rfl rfl ?_
              refine z_s 113 hB_z dX10_goBy_112 rfl rfl ?_
              refine z_s 114 hB_z dX10_goBy_113 rfl rfl ?_
              refine z_s 115 hB_z dX10_goBy_114 rfl rfl ?_
              refine z_s 116 hB_z dX10_goBy_115 rfl rfl ?_
              refine z_s 117 hB_z dX10_goBy_116 rfl rfl ?_
              refine z_ald 118 hB_z ho dX10_goBy_117 rfl (vp_in_nI (show 2 < 17 by decide) (by decide)) ?_
              rw [z_c2, show z_I (z_up zS I1) o 2 = zT 2 + (z_day zV (zT 0) w_z c_z).2.2.2.2.2.1 from hd2]
              refine z_s 120 hB_z dX10_goBy_118 rfl rfl ?_
              refine z_s 122 hB_z dX10_goBy_120 rfl rfl ?_
              refine z_s 123 hB_z dX10_goBy_122 rfl rfl ?_
              refine z_s 125 hB_z dX10_goBy_123 rfl rfl ?_
              refine z_idiv 126 hB_z dX10_goBy_125 rfl (by decide) ?_
              refine z_s 127 hB_z dX10_goBy_126 rfl rfl ?_
              refine z_ast 128 hB_z ho dX10_goBy_127 rfl (vp_in_nI (show 2 < 17 by decide) (by decide)) ?_
              rw [z_c2]
              refine z_s 129 hB_z dX10_goBy_128 rfl rfl ?_
              refine z_s 130 hB_z dX10_goBy_129 rfl rfl ?_
              refine z_s 131 hB_z dX10_goBy_130 rfl rfl ?_
              refine z_ald 132 hB_z ho dX10_goBy_131 rfl (vp_in_nI (show 1 < 17 by decide) (by decide)) ?_
              rw [z_c1, show z_I (z_pI (z_up zS I1) o 2 (zT 2 + (z_day zV (zT 0) w_z c_z).2.2.2.2.2.1 + z_pp zV (zT 0) w_z c_z * 9 / 100)) o 1 = zT 1 + (z_day zV (zT 0) w_z c_z).2.2.2.2.1 from (z_Ine (Or.inr (by decide))).trans hd1]
              refine z_s 134 hB_z dX10_goBy_132 rfl rfl ?_
              refine z_s 136 hB_z dX10_goBy_134 rfl rfl ?_
              refine z_s 138 hB_z dX10_goBy_136 rfl rfl ?_
              refine z_s 139 hB_z dX10_goBy_138 rfl rfl ?_
              refine z_s 141 hB_z dX10_goBy_139 rfl rfl ?_
              refine z_idiv 142 hB_z dX10_goBy_141 rfl (by decide) ?_
              refine z_s 143 hB_z dX10_goBy_142 rfl rfl ?_
              refine z_s 144 hB_z dX10_goBy_143 rfl rfl ?_
              refine z_ast 145 hB_z ho dX10_goBy_144 rfl (vp_in_nI (show 1 < 17 by decide) (by decide)) ?_
              rw [z_c1]
              refine z_s 148 hB_z dX10_goBy_145 rfl rfl ?_
              refine z_j 12 hB_z dX10_goBy_148 (by decide) ?_
              refine z_wkn (ih_z hcm (z_u2 (z_u2 I1 o 2 (zT 2 + (z_day zV (zT 0) w_z c_z).2.2.2.2.2.1 + z_pp zV (zT 0) w_z c_z * 9 / 100)) o 1 (zT 1 + (z_day zV (zT 0) w_z c_z).2.2.2.2.1 + (z_pp zV (zT 0) w_z c_z - z_pp zV (zT 0) w_z c_z * 9 / 100))) ((hf.u2 ⟨rfl, Or.inr rfl⟩).u2 ⟨rfl, Or.inl rfl⟩) ?_ ?_) ⟨rfl, rfl, congrArg (fun q_z => some (Value.int q_z)) ?_, congrArg (fun q_z => some (Value.int q_z)) (z_inc c_z), trivial⟩
              · rw [z_u2_same, (z_day_nx zV (zT 0) w_z c_z).2.2.2.2.1, Int32.add_assoc]
              · rw [z_u2_ne (Or.inr (by decide)), z_u2_same, (z_day_nx zV (zT 0) w_z c_z).2.2.2.2.2.1, Int32.add_assoc]
              · rw [(z_day_nx zV (zT 0) w_z c_z).2.2.1]
                rw [show (if z_comes zV (zT 0) c_z = true ∧ (z_rc zV (zT 0) w_z c_z).2 = none then (1 : Int32) else 0) = 0 from if_neg (fun z_z => c_104 ((z_sl_none hrs).mpr z_z.2))]
            ·
              refine z_s 108 hB_z dX10_goBy_107 rfl rfl ?_
              refine z_j 112 hB_z dX10_goBy_108 (by decide) ?_
              refine z_s 113 hB_z dX10_goBy_112 rfl rfl ?_
              refine z_s 114 hB_z dX10_goBy_113 rfl rfl ?_
              refine z_s 115 hB_z dX10_goBy_114 rfl rfl ?_
              refine z_s 116 hB_z dX10_goBy_115 rfl rfl ?_
              refine z_s 117 hB_z dX10_goBy_116 rfl rfl ?_
              refine z_ald 118 hB_z ho dX10_goBy_117 rfl (vp_in_nI (show 2 < 17 by decide) (by decide)) ?_
              rw [z_c2, show z_I (z_up zS I1) o 2 = zT 2 + (z_day zV (zT 0) w_z c_z).2.2.2.2.2.1 from hd2]
              refine z_s 120 hB_z dX10_goBy_118 rfl rfl ?_
              refine z_s 122 hB_z dX10_goBy_120 rfl rfl ?_
              refine z_s 123 hB_z dX10_goBy_122 rfl rfl ?_
              refine z_s 125 hB_z dX10_goBy_123 rfl rfl ?_
              refine z_idiv 126 hB_z dX10_goBy_125 rfl (by decide) ?_
              refine z_s 127 hB_z dX10_goBy_126 rfl rfl ?_
              refine z_ast 128 hB_z ho dX10_goBy_127 rfl (vp_in_nI (show 2 < 17 by decide) (by decide)) ?_
              rw [z_c2]
              refine z_s 129 hB_z dX10_goBy_128 rfl rfl ?_
              refine z_s 130 hB_z dX10_goBy_129 rfl rfl ?_
              refine z_s 131 hB_z dX10_goBy_130 rfl rfl ?_
              refine z_ald 132 hB_z ho dX10_goBy_131 rfl (vp_in_nI (show 1 < 17 by decide) (by decide)) ?_
              rw [z_c1, show z_I (z_pI (z_up zS I1) o 2 (zT 2 + (z_day zV (zT 0) w_z c_z).2.2.2.2.2.1 + z_pp zV (zT 0) w_z c_z * 9 / 100)) o 1 = zT 1 + (z_day zV (zT 0) w_z c_z).2.2.2.2.1 from (z_Ine (Or.inr (by decide))).trans hd1]
              refine z_s 134 hB_z dX10_goBy_132 rfl rfl ?_
              refine z_s 136 hB_z dX10_goBy_134 rfl rfl ?_
              refine z_s 138 hB_z dX10_goBy_136 rfl rfl ?_
              refine z_s 139 hB_z dX10_goBy_138 rfl rfl ?_
              refine z_s 141 hB_z dX10_goBy_139 rfl rfl ?_
              refine z_idiv 142 hB_z dX10_goBy_141 rfl (by decide) ?_
              refine z_s 143 hB_z dX10_goBy_142 rfl rfl ?_
              refine z_s 144 hB_z dX10_goBy_143 rfl rfl ?_
              refine z_ast 145 hB_z ho dX10_goBy_144 rfl (vp_in_nI (show 1 < 17 by decide) (by decide)) ?_
              rw [z_c1]
              refine z_s 148 hB_z dX10_goBy_145 rfl rfl ?_
              refine z_j 12 hB_z dX10_goBy_148 (by decide) ?_
              refine z_wkn (ih_z hcm (z_u2 (z_u2 I1 o 2 (zT 2 + (z_day zV (zT 0) w_z c_z).2.2.2.2.2.1 + z_pp zV (zT 0) w_z c_z * 9 / 100)) o 1 (zT 1 + (z_day zV (zT 0) w_z c_z).2.2.2.2.1 + (z_pp zV (zT 0) w_z c_z - z_pp zV (zT 0) w_z c_z * 9 / 100))) ((hf.u2 ⟨rfl, Or.inr rfl⟩).u2 ⟨rfl, Or.inl rfl⟩) ?_ ?_) ⟨rfl, rfl, congrArg (fun q_z => some (Value.int q_z)) ?_, congrArg (fun q_z => some (Value.int q_z)) (z_inc c_z), trivial⟩
              · rw [z_u2_same, (z_day_nx zV (zT 0) w_z c_z).2.2.2.2.1, Int32.add_assoc]
              · rw [z_u2_ne (Or.inr (by decide)), z_u2_same, (z_day_nx zV (zT 0) w_z c_z).2.2.2.2.2.1, Int32.add_assoc]
              · rw [(z_day_nx zV (zT 0) w_z c_z).2.2.1]
                rw [show (if z_comes zV (zT 0) c_z = true ∧ (z_rc zV (zT 0) w_z c_z).2 = none then (1 : Int32) else 0) = 1 from if_pos ⟨z_if1 c_93, (z_sl_none hrs).mp c_104⟩]
        have t44 : z_W g_z zX 44 [some (.ref 99), some (.ref o), some (.int (z_day zV (zT 0) w_z c_z).2.2.1), some (.int (nI c_z)), some (.int (if z_comes zV (zT 0) c_z = true then 1 else 0)), none] [] 0 0 (z_up zS I1) := by
          refine z_s 46 hB_z dX10_goBy_44 rfl rfl ?_
          refine z_b 49 87 hB_z dX10_goBy_46 rfl rfl (by decide) (fun c_46 => ?_) (fun c_46 => ?_)
          ·
            refine z_s 88 hB_z dX10_goBy_87 rfl rfl ?_
            exact z_xs (z_wkn tl ⟨rfl, rfl, rfl, rfl, rfl, trivial⟩) ((z_pp_n1 (fun z_z => by rw [z_z] at c_46; exact absurd c_46 (by decide))).symm)
          ·
            refine z_s 50 hB_z dX10_goBy_49 rfl rfl ?_
            refine z_getR 53 hB_z fX10_43 (N99 (zS := zS) hN_z) dX10_goBy_50 rfl rfl (n99_29 (zS := zS) hN_z) ?_
            refine z_s 54 hB_z dX10_goBy_53 rfl rfl ?_
            refine z_ald 55 hB_z (N111 (zS := zS) hN_z) dX10_goBy_54 rfl (vp_in_nI (show c_z < 10 by omega) (by decide)) ?_
            rw [nI_clamp (by omega), show z_I (z_up zS I1) 111 c_z = z_sl (z_rc zV (zT 0) w_z c_z).2 from (hf 111 c_z (by omega)).trans (hb0 c_z hcm)]
            refine z_s 57 hB_z dX10_goBy_55 rfl rfl ?_
            refine z_b 60 87 hB_z dX10_goBy_57 rfl rfl (by decide) (fun c_57 => ?_) (fun c_57 => ?_)
            ·
              refine z_s 88 hB_z dX10_goBy_87 rfl rfl ?_
              exact z_xs (z_wkn tl ⟨rfl, rfl, rfl, rfl, rfl, trivial⟩) ((z_pp_n2 ((z_sl_none hrs).mp c_57)).symm)
            ·
              refine z_s 61 hB_z dX10_goBy_60 rfl rfl ?_
              refine z_getR 64 hB_z fX10_25 (N99 (zS := zS) hN_z) dX10_goBy_61 rfl rfl (n99_14 (zS := zS) hN_z) ?_
              refine z_s 65 hB_z dX10_goBy_64 rfl rfl ?_
              refine z_s 66 hB_z dX10_goBy_65 rfl rfl ?_
              refine z_s 67 hB_z dX10_goBy_66 rfl rfl ?_
              refine z_s 68 hB_z dX10_goBy_67 rfl rfl ?_
              refine z_s 69 hB_z dX10_goBy_68 rfl rfl ?_
              rw [z_n4 _ (by omega), show nI (4 * c_z) + 2 = nI (4 * c_z + 2) from z_n4b _ 2]
              refine z_ald 70 hB_z (N105 (zS := zS) hN_z) dX10_goBy_69 rfl (vp_in_nI (show 4 * c_z + 2 < 40 by omega) (by decide)) ?_
              rw [nI_clamp (by omega), show z_I (z_up zS I1) 105 (4 * c_z + 2) = zV.1 6 c_z from (hf 105 _ (by omega)).trans ((hf0 105 _ (by unfold z_PLN; omega)).trans (hV.2.2.2.2 c_z hcm 2 (by decide)))]
              refine z_s 71 hB_z dX10_goBy_70 rfl rfl ?_
              refine z_b 74 87 hB_z dX10_goBy_71 rfl rfl (by decide) (fun c_71 => ?_) (fun c_71 => ?_)
              ·
                refine z_s 88 hB_z dX10_goBy_87 rfl rfl ?_
                exact z_xs (z_wkn tl ⟨rfl, rfl, rfl, rfl, rfl, trivial⟩) ((z_pp_w (z_if1 c_46) (fun z_z => c_57 ((z_sl_none hrs).mpr z_z)) c_71).symm)
              ·
                refine z_s 75 hB_z dX10_goBy_74 rfl rfl ?_
                refine z_getR 78 hB_z fX10_25 (N99 (zS := zS) hN_z) dX10_goBy_75 rfl rfl (n99_14 (zS := zS) hN_z) ?_
                refine z_s 79 hB_z dX10_goBy_78 rfl rfl ?_
                refine z_s 80 hB_z dX10_goBy_79 rfl rfl ?_
                refine z_s 81 hB_z dX10_goBy_80 rfl rfl ?_
                refine z_s 82 hB_z dX10_goBy_81 rfl rfl ?_
                refine z_s 83 hB_z dX10_goBy_82 rfl rfl ?_
                rw [z_n4 _ (by omega), show nI (4 * c_z) + 3 = nI (4 * c_z + 3) from z_n4b _ 3]
                refine z_ald 84 hB_z (N105 (zS := zS) hN_z) dX10_goBy_83 rfl (vp_in_nI (show 4 * c_z + 3 < 40 by omega) (by decide)) ?_
                rw [nI_clamp (by omega), show z_I (z_up zS I1) 105 (4 * c_z + 3) = zV.1 7 c_z from (hf 105 _ (by omega)).trans ((hf0 105 _ (by unfold z_PLN; omega)).trans (hV.2.2.2.2 c_z hcm 3 (by decide)))]
                refine z_j 88 hB_z dX10_goBy_84 (by decide) ?_
                exact z_xs (z_wkn tl ⟨rfl, rfl, rfl, rfl, rfl, trivial⟩) ((z_pp_p (z_if1 c_46) (fun z_z => c_57 ((z_sl_none hrs).mpr z_z)) c_71).symm)
        refine z_s 21 hB_z dX10_goBy_20 rfl rfl ?_
        refine z_getR 24 hB_z fX10_25 (N99 (zS := zS) hN_z) dX10_goBy_21 rfl rfl (n99_14 (zS := zS) hN_z) ?_
        refine z_s 25 hB_z dX10_goBy_24 rfl rfl ?_
        refine z_s 26 hB_z dX10_goBy_25 rfl rfl ?_
        refine z_s 27 hB_z dX10_goBy_26 rfl rfl ?_
        rw [z_n4 _ (by omega)]
        refine z_ald 28 hB_z (N105 (zS := zS) hN_z) dX10_goBy_27 rfl (vp_in_nI (show 4 * c_z + 0 < 40 by omega) (by decide)) ?_
        rw [nI_clamp (by omega), show z_I (z_up zS I1) 105 (4 * c_z) = zV.1 4 c_z from (hf 105 _ (by omega)).trans ((hf0 105 _ (by unfold z_PLN; omega)).trans (hV.2.2.2.2 c_z hcm 0 (by decide)))]
        refine z_s 29 hB_z dX10_goBy_28 rfl rfl ?_
        refine z_s 30 hB_z dX10_goBy_29 rfl rfl ?_
        refine z_ald 31 hB_z ho dX10_goBy_30 rfl (vp_in_nI (show 0 < 17 by decide) (by decide)) ?_
        rw [z_c0, show z_I (z_up zS I1) o 0 = zT 0 from (hf o 0 (by omega)).trans ((hf0 o 0 (by unfold z_PLN; omega)).trans hW.a0)]
        refine z_s 33 hB_z dX10_goBy_31 rfl rfl ?_
        refine z_irem 34 hB_z dX10_goBy_33 rfl (by decide) ?_
        refine z_b 37 41 hB_z dX10_goBy_34 rfl rfl (by decide) (fun c_34 => ?_) (fun c_34 => ?_)
        ·
          refine z_s 42 hB_z dX10_goBy_41 rfl rfl ?_
          refine z_s 44 hB_z dX10_goBy_42 rfl rfl ?_
          exact z_wkn t44 ⟨rfl, rfl, rfl, rfl, congrArg (fun q_z => some (Value.int q_z)) (z_bie (p_z := z_comes zV (zT 0) c_z = true) (fun z_z => c_34 ((of_decide_eq_true z_z).trans z_m14))), trivial⟩
        ·
          refine z_s 38 hB_z dX10_goBy_37 rfl rfl ?_
          refine z_j 42 hB_z dX10_goBy_38 (by decide) ?_
          refine z_s 44 hB_z dX10_goBy_42 rfl rfl ?_
          exact z_wkn t44 ⟨rfl, rfl, rfl, rfl, congrArg (fun q_z => some (Value.int q_z)) (z_bif (p_z := z_comes zV (zT 0) c_z = true) (decide_eq_true (c_34.trans z_m14.symm))), trivial⟩) 0 (Nat.zero_le _)
  refine z_s 9 hB_z dX10_goBy_8 rfl rfl ?_
  refine z_s 10 hB_z dX10_goBy_9 rfl rfl ?_
  refine z_s 11 hB_z dX10_goBy_10 rfl rfl ?_
  refine z_s 12 hB_z dX10_goBy_11 rfl rfl ?_
  exact z_wkn (loop1 I0_z z_f2.rf (((hf0 o 1 (by unfold z_PLN; omega)).trans hW.a1).trans (z_add0 _).symm) (((hf0 o 2 (by unfold z_PLN; omega)).trans hW.a2).trans (z_add0 _).symm)) ⟨rfl, rfl, rfl, rfl, trivial⟩

