/-! dogs -/
/-- nights with dogs by the bits of a set -/
def z_dgT (zV : z_V) (set_z : Int32) (zT : Nat → Int32) : Nat → (Nat → Int32)
  | 0 => zT
  | i_z + 1 => z_nx1 zV (z_dgT zV set_z zT i_z) (z_hb set_z i_z)
def z_dgok (zV : z_V) (set_z : Int32) (zT : Nat → Int32) : Nat → Bool
  | 0 => true
  | i_z + 1 => z_dgok zV set_z zT i_z && !decide (0 < (z_dayO zV (z_dgT zV set_z zT i_z) (z_hb set_z i_z)).2.2.1)
theorem z_dgok_bad {zV : z_V} {set_z : Int32} {zT : Nat → Int32} {i_z m_z : Nat} (h_z : 0 < (z_dayO zV (z_dgT zV set_z zT i_z) (z_hb set_z i_z)).2.2.1) (hm_z : i_z < m_z) : z_dgok zV set_z zT m_z = false := by
  induction m_z with
  | zero => omega
  | succ m_z ih_z =>
    unfold z_dgok
    by_cases q_z : i_z = m_z
    · rw [← q_z, decide_eq_true h_z]; exact Bool.and_false _
    · rw [ih_z (by omega)]; rfl
def z_wt (x_z set_z : Int32) : Nat → Int32
  | 0 => 1
  | i_z + 1 => z_wt x_z set_z i_z * (if z_hb set_z i_z = true then x_z else 10 - x_z)
def z_ten : Nat → Int32
  | 0 => 1
  | i_z + 1 => z_ten i_z * 10
def z_abv (zV : z_V) (zT : Nat → Int32) (x_z : Int32) (n_z : Nat) : Nat → Int32
  | 0 => 0
  | j_z + 1 => if z_dgok zV (nI j_z) zT n_z = true then z_abv zV zT x_z n_z j_z + z_wt x_z (nI j_z) n_z else z_abv zV zT x_z n_z j_z
def z_dvb (d_z a_z b_z : Int32) : Prop := 0 < d_z ∧ a_z - a_z / d_z * d_z = 0 ∧ b_z - b_z / d_z * d_z = 0
def z_sd1 (a_z b_z s_z : Int32) : Int32 := if 0 < 2 * s_z ∧ a_z - a_z / (2 * s_z) * (2 * s_z) = 0 ∧ b_z - b_z / (2 * s_z) * (2 * s_z) = 0 then s_z * 2 else s_z * 1
def z_sd2 (a_z b_z s_z : Int32) : Int32 := if 0 < 5 * s_z ∧ a_z - a_z / (5 * s_z) * (5 * s_z) = 0 ∧ b_z - b_z / (5 * s_z) * (5 * s_z) = 0 then s_z * 5 else s_z * 1
def z_sd (a_z b_z : Int32) : Nat → Int32
  | 0 => 1
  | i_z + 1 => z_sd2 a_z b_z (z_sd1 a_z b_z (z_sd a_z b_z i_z))
def z_quo (x_z y_z : Int32) : Int32 := if 0 < y_z then x_z / y_z else 0
def z_ansDogs (A_z : z_Ab) (n_z x_z part : Int32) : Int32 := if (0 ≤ n_z ∧ n_z ≤ 6) ∧ (0 ≤ x_z ∧ x_z ≤ 10) ∧ 0 ≤ part ∧ part ≤ 1 then
  z_quo (if part = 0 then z_abv (z_AV A_z) (z_AT A_z) x_z n_z.toNatClampNeg (2 ^ n_z.toNatClampNeg) else z_ten n_z.toNatClampNeg) (z_sd (z_abv (z_AV A_z) (z_AT A_z) x_z n_z.toNatClampNeg (2 ^ n_z.toNatClampNeg)) (z_ten n_z.toNatClampNeg) n_z.toNatClampNeg) else -1
theorem c_X9_weight {g_z : z_U} {d_z : Nat} {zS : z_S} {x_z set_z : Int32} {n_z : Nat} (hn : n_z < 1000) : z_C g_z (d_z + 1) 0 0 mX9_weight [.int (nI n_z), .int x_z, .int set_z] zS (fun r_z zS' => zS = zS' ∧ r_z = some (.int (z_wt x_z set_z n_z))) := by
  refine z_enter [some (.int (nI n_z)), some (.int x_z), some (.int set_z), none, none] rfl rfl (Nat.le_of_ble_eq_true rfl) rfl (fun zX hM_z => ?_)
  have hB_z : z_B g_z zX RX9 cX9_weight 5 := hM_z.1
  have loop := z_loop (fun i_z => z_W g_z zX 5 [some (.int (nI n_z)), some (.int x_z), some (.int set_z), some (.int (z_wt x_z set_z i_z)), some (.int (nI i_z))] [] 0 0 zS) n_z (fun i_z hi_z ih_z => by
    refine z_s 7 hB_z dX9_weight_5 rfl rfl ?_
    refine z_s 8 hB_z dX9_weight_7 rfl rfl ?_
    refine z_b 11 37 hB_z dX9_weight_8 rfl rfl (by decide) (fun c_8 => ?_) (fun c_8 => ?_)
    ·
      have hp : i_z = n_z := by
        have := (nI_leI (by omega) (by omega)).mp (show nI n_z ≤ nI i_z from c_8)
        omega
      refine z_s 38 hB_z dX9_weight_37 rfl rfl ?_
      refine z_iret hM_z dX9_weight_38 rfl ?_ rfl rfl
      exact ⟨rfl, by rw [hp]⟩
    ·
      have hp : i_z < n_z := (nI_ltI (by omega) (by omega)).mp (show nI i_z < nI n_z from c_8)
      refine z_s 12 hB_z dX9_weight_11 rfl rfl ?_
      refine z_s 13 hB_z dX9_weight_12 rfl rfl ?_
      refine z_s 15 hB_z dX9_weight_13 rfl rfl ?_
      refine z_callS 18 hB_z hM_z.2.1 kX9_193 dX9_weight_15 rfl (c_has (d_z := 0)) (by omega) rfl rfl (Nat.le_of_ble_eq_true rfl) ⟨Nat.le_refl _, Nat.le_refl _⟩ ?_
      rintro _ _ ⟨rfl, rfl⟩
      refine z_b 21 25 hB_z dX9_weight_18 rfl rfl (by decide) (fun c_18 => ?_) (fun c_18 => ?_)
      ·
        refine z_s 27 hB_z dX9_weight_25 rfl rfl ?_
        refine z_s 28 hB_z dX9_weight_27 rfl rfl ?_
        refine z_s 29 hB_z dX9_weight_28 rfl rfl ?_
        refine z_s 30 hB_z dX9_weight_29 rfl rfl ?_
        refine z_s 31 hB_z dX9_weight_30 rfl rfl ?_
        refine z_s 34 hB_z dX9_weight_31 rfl rfl ?_
        refine z_j 5 hB_z dX9_weight_34 (by decide) ?_
        exact z_eq (ih_z hp) (by rw [← z_inc i_z, show z_wt x_z set_z (i_z + 1) = z_wt x_z set_z i_z * (10 - x_z) from congrArg (fun q_z => z_wt x_z set_z i_z * q_z) (if_neg (by rw [z_if0 c_18]; exact Bool.false_ne_true))]; rfl) rfl rfl
      ·
        refine z_s 22 hB_z dX9_weight_21 rfl rfl ?_
        refine z_j 29 hB_z dX9_weight_22 (by decide) ?_
        refine z_s 30 hB_z dX9_weight_29 rfl rfl ?_
        refine z_s 31 hB_z dX9_weight_30 rfl rfl ?_
        refine z_s 34 hB_z dX9_weight_31 rfl rfl ?_
        refine z_j 5 hB_z dX9_weight_34 (by decide) ?_
        exact z_eq (ih_z hp) (by rw [← z_inc i_z, show z_wt x_z set_z (i_z + 1) = z_wt x_z set_z i_z * x_z from congrArg (fun q_z => z_wt x_z set_z i_z * q_z) (if_pos (z_if1 c_18))]; rfl) rfl rfl) 0 (Nat.zero_le _)
  refine z_s 1 hB_z dX9_weight_0 rfl rfl ?_
  refine z_s 2 hB_z dX9_weight_1 rfl rfl ?_
  refine z_s 3 hB_z dX9_weight_2 rfl rfl ?_
  refine z_s 5 hB_z dX9_weight_3 rfl rfl ?_
  exact z_eq loop rfl rfl rfl

theorem z_of0 {p_z : Prop} [h_z : Decidable p_z] (q_z : (if p_z then (1 : Int32) else 0) = 0) : ¬ p_z := fun z_z => by
  rw [if_pos z_z] at q_z
  exact absurd q_z (by decide)
theorem z_of1 {p_z : Prop} [h_z : Decidable p_z] (q_z : ¬ (if p_z then (1 : Int32) else 0) = 0) : p_z := by
  by_cases z_z : p_z
  · exact z_z
  · exact absurd (if_neg z_z) q_z
theorem c_X9_sharedDivisor {g_z : z_U} {d_z : Nat} {zS : z_S} {a_z b_z : Int32} {n_z : Nat} (hn : n_z < 1000) : z_C g_z (d_z + 1) 0 0 mX9_sharedDivisor [.int a_z, .int b_z, .int (nI n_z)] zS (fun r_z zS' => zS = zS' ∧ r_z = some (.int (z_sd a_z b_z n_z))) := by
  refine z_enter [some (.int a_z), some (.int b_z), some (.int (nI n_z)), none, none] rfl rfl (Nat.le_of_ble_eq_true rfl) rfl (fun zX hM_z => ?_)
  have hB_z : z_B g_z zX RX9 cX9_sharedDivisor 5 := hM_z.1
  have loop := z_loop (fun i_z => z_W g_z zX 5 [some (.int a_z), some (.int b_z), some (.int (nI n_z)), some (.int (z_sd a_z b_z i_z)), some (.int (nI i_z))] [] 0 0 zS) n_z (fun i_z hi_z ih_z => by
    refine z_s 7 hB_z dX9_sharedDivisor_5 rfl rfl ?_
    refine z_s 8 hB_z dX9_sharedDivisor_7 rfl rfl ?_
    refine z_b 11 55 hB_z dX9_sharedDivisor_8 rfl rfl (by decide) (fun c_8 => ?_) (fun c_8 => ?_)
    ·
      have hp : i_z = n_z := by
        have := (nI_leI (by omega) (by omega)).mp (show nI n_z ≤ nI i_z from c_8)
        omega
      refine z_s 56 hB_z dX9_sharedDivisor_55 rfl rfl ?_
      refine z_iret hM_z dX9_sharedDivisor_56 rfl ?_ rfl rfl
      exact ⟨rfl, by rw [hp]⟩
    ·
      have hp : i_z < n_z := (nI_ltI (by omega) (by omega)).mp (show nI i_z < nI n_z from c_8)
      refine z_s 12 hB_z dX9_sharedDivisor_11 rfl rfl ?_
      refine z_s 13 hB_z dX9_sharedDivisor_12 rfl rfl ?_
      refine z_s 14 hB_z dX9_sharedDivisor_13 rfl rfl ?_
      refine z_s 15 hB_z dX9_sharedDivisor_14 rfl rfl ?_
      refine z_s 16 hB_z dX9_sharedDivisor_15 rfl rfl ?_
      refine z_s 17 hB_z dX9_sharedDivisor_16 rfl rfl ?_
      refine z_callS 20 hB_z hM_z.2.1 kX9_316 dX9_sharedDivisor_17 rfl (c_X9_dividesBoth (d_z := 0)) (by omega) rfl rfl (Nat.le_of_ble_eq_true rfl) ⟨Nat.le_refl _, Nat.le_refl _⟩ ?_
      rintro _ _ ⟨rfl, rfl⟩
      refine z_b 23 27 hB_z dX9_sharedDivisor_20 rfl rfl (by decide) (fun c_20 => ?_) (fun c_20 => ?_)
      ·
        have e1_z : z_sd1 a_z b_z (z_sd a_z b_z i_z) = z_sd a_z b_z i_z * 1 := if_neg (z_of0 c_20)
        refine z_s 28 hB_z dX9_sharedDivisor_27 rfl rfl ?_
        refine z_s 29 hB_z dX9_sharedDivisor_28 rfl rfl ?_
        rw [← e1_z]
        refine z_s 30 hB_z dX9_sharedDivisor_29 rfl rfl ?_
        refine z_s 31 hB_z dX9_sharedDivisor_30 rfl rfl ?_
        refine z_s 32 hB_z dX9_sharedDivisor_31 rfl rfl ?_
        refine z_s 33 hB_z dX9_sharedDivisor_32 rfl rfl ?_
        refine z_s 34 hB_z dX9_sharedDivisor_33 rfl rfl ?_
        refine z_s 35 hB_z dX9_sharedDivisor_34 rfl rfl ?_
        refine z_s 36 hB_z dX9_sharedDivisor_35 rfl rfl ?_
        refine z_callS 39 hB_z hM_z.2.1 kX9_316 dX9_sharedDivisor_36 rfl (c_X9_dividesBoth (d_z := 0)) (by omega) rfl rfl (Nat.le_of_ble_eq_true rfl) ⟨Nat.le_refl _, Nat.le_refl _⟩ ?_
        rintro _ _ ⟨rfl, rfl⟩
        refine z_b 42 46 hB_z dX9_sharedDivisor_39 rfl rfl (by decide) (fun c_39 => ?_) (fun c_39 => ?_)
        ·
          have e2_z : z_sd2 a_z b_z (z_sd1 a_z b_z (z_sd a_z b_z i_z)) = z_sd1 a_z b_z (z_sd a_z b_z i_z) * 1 := if_neg (z_of0 c_39)
          refine z_s 47 hB_z dX9_sharedDivisor_46 rfl rfl ?_
          refine z_s 48 hB_z dX9_sharedDivisor_47 rfl rfl ?_
          rw [← e2_z]
          refine z_s 49 hB_z dX9_sharedDivisor_48 rfl rfl ?_
          refine z_s 52 hB_z dX9_sharedDivisor_49 rfl rfl ?_
          refine z_j 5 hB_z dX9_sharedDivisor_52 (by decide) ?_
          exact z_eq (ih_z hp) (by rw [← z_inc i_z]; rfl) rfl rfl
        ·
          have e2_z : z_sd2 a_z b_z (z_sd1 a_z b_z (z_sd a_z b_z i_z)) = z_sd1 a_z b_z (z_sd a_z b_z i_z) * 5 := if_pos (z_of1 c_39)
          refine z_s 43 hB_z dX9_sharedDivisor_42 rfl rfl ?_
          refine z_j 47 hB_z dX9_sharedDivisor_43 (by decide) ?_
          refine z_s 48 hB_z dX9_sharedDivisor_47 rfl rfl ?_
          rw [← e2_z]
          refine z_s 49 hB_z dX9_sharedDivisor_48 rfl rfl ?_
          refine z_s 52 hB_z dX9_sharedDivisor_49 rfl rfl ?_
          refine z_j 5 hB_z dX9_sharedDivisor_52 (by decide) ?_
          exact z_eq (ih_z hp) (by rw [← z_inc i_z]; rfl) rfl rfl
      ·
        have e1_z : z_sd1 a_z b_z (z_sd a_z b_z i_z) = z_sd a_z b_z i_z * 2 := if_pos (z_of1 c_20)
        refine z_s 24 hB_z dX9_sharedDivisor_23 rfl rfl ?_
        refine z_j 28 hB_z dX9_sharedDivisor_24 (by decide) ?_
        refine z_s 29 hB_z dX9_sharedDivisor_28 rfl rfl ?_
        rw [← e1_z]
        refine z_s 30 hB_z dX9_sharedDivisor_29 rfl rfl ?_
        refine z_s 31 hB_z dX9_sharedDivisor_30 rfl rfl ?_
        refine z_s 32 hB_z dX9_sharedDivisor_31 rfl rfl ?_
        refine z_s 33 hB_z dX9_sharedDivisor_32 rfl rfl ?_
        refine z_s 34 hB_z dX9_sharedDivisor_33 rfl rfl ?_
        refine z_s 35 hB_z dX9_sharedDivisor_34 rfl rfl ?_
        refine z_s 36 hB_z dX9_sharedDivisor_35 rfl rfl ?_
        refine z_callS 39 hB_z hM_z.2.1 kX9_316 dX9_sharedDivisor_36 rfl (c_X9_dividesBoth (d_z := 0)) (by omega) rfl rfl (Nat.le_of_ble_eq_true rfl) ⟨Nat.le_refl _, Nat.le_refl _⟩ ?_
        rintro _ _ ⟨rfl, rfl⟩
        refine z_b 42 46 hB_z dX9_sharedDivisor_39 rfl rfl (by decide) (fun c_39 => ?_) (fun c_39 => ?_)
        ·
          have e2_z : z_sd2 a_z b_z (z_sd1 a_z b_z (z_sd a_z b_z i_z)) = z_sd1 a_z b_z (z_sd a_z b_z i_z) * 1 := if_neg (z_of0 c_39)
          refine z_s 47 hB_z dX9_sharedDivisor_46 rfl rfl ?_
          refine z_s 48 hB_z dX9_sharedDivisor_47 rfl rfl ?_
          rw [← e2_z]
          refine z_s 49 hB_z dX9_sharedDivisor_48 rfl rfl ?_
          refine z_s 52 hB_z dX9_sharedDivisor_49 rfl rfl ?_
          refine z_j 5 hB_z dX9_sharedDivisor_52 (by decide) ?_
          exact z_eq (ih_z hp) (by rw [← z_inc i_z]; rfl) rfl rfl
        ·
          have e2_z : z_sd2 a_z b_z (z_sd1 a_z b_z (z_sd a_z b_z i_z)) = z_sd1 a_z b_z (z_sd a_z b_z i_z) * 5 := if_pos (z_of1 c_39)
          refine z_s 43 hB_z dX9_sharedDivisor_42 rfl rfl ?_
          refine z_j 47 hB_z dX9_sharedDivisor_43 (by decide) ?_
          refine z_s 48 hB_z dX9_sharedDivisor_47 rfl rfl ?_
          rw [← e2_z]
          refine z_s 49 hB_z dX9_sharedDivisor_48 rfl rfl ?_
          refine z_s 52 hB_z dX9_sharedDivisor_49 rfl rfl ?_
          refine z_j 5 hB_z dX9_sharedDivisor_52 (by decide) ?_
          exact z_eq (ih_z hp) (by rw [← z_inc i_z]; rfl) rfl rfl) 0 (Nat.zero_le _)
  refine z_s 1 hB_z dX9_sharedDivisor_0 rfl rfl ?_
  refine z_s 2 hB_z dX9_sharedDivisor_1 rfl rfl ?_
  refine z_s 3 hB_z dX9_sharedDivisor_2 rfl rfl ?_
  refine z_s 5 hB_z dX9_sharedDivisor_3 rfl rfl ?_
  exact z_eq loop rfl rfl rfl

set_option maxHeartbeats 1000000 in
theorem c_X9_isWithoutHam {g_z : z_U} {d_z : Nat} {zS : z_S} {zV : z_V} {zT : Nat → Int32} (hL : z_L zS) (hV : z_rV (z_I zS) 7 zV) (hT_z : z_rT (z_I zS) 51 zT) {set_z : Int32} {n_z : Nat} (hn : n_z < 1000) : z_C g_z (d_z + 4) 0 0 mX9_isWithoutHam [.ref 4, .int (nI n_z), .int set_z] zS (fun r_z zS' => r_z = some (.int (if z_dgok zV set_z zT n_z = true then 1 else 0)) ∧ ∃ zI', z_up zS zI' = zS' ∧ z_fr z_PT (z_I zS) zI') := by
  refine z_enter [some (.ref 4), some (.int (nI n_z)), some (.int set_z), none] rfl rfl (Nat.le_of_ble_eq_true rfl) rfl (fun zX hM_z => ?_)
  have hB_z : z_B g_z zX RX9 cX9_isWithoutHam 4 := hM_z.1
  have loop := z_loop (fun i_z => ∀ I1, z_fr z_PT (z_I zS) I1 → z_rT I1 54 (z_dgT zV set_z zT i_z) → z_dgok zV set_z zT i_z = true → z_W g_z zX 13 [some (.ref 4), some (.int (nI n_z)), some (.int set_z), some (.int (nI i_z))] [] 0 0 (z_up zS I1)) n_z (fun i_z hi_z ih_z I1 hf hT1 hb_z => by
    refine z_s 14 hB_z dX9_isWithoutHam_13 rfl rfl ?_
    refine z_s 15 hB_z dX9_isWithoutHam_14 rfl rfl ?_
    refine z_b 18 70 hB_z dX9_isWithoutHam_15 rfl rfl (by decide) (fun c_15 => ?_) (fun c_15 => ?_)
    ·
      have hjk : i_z = n_z := by
        have := (nI_leI (by omega) (by omega)).mp (show nI n_z ≤ nI i_z from c_15)
        omega
      refine z_s 71 hB_z dX9_isWithoutHam_70 rfl rfl ?_
      refine z_zret hM_z dX9_isWithoutHam_71 rfl (by decide) ?_ rfl rfl
      rw [hjk] at hb_z
      exact ⟨by rw [hb_z]; rfl, I1, rfl, hf⟩
    ·
      have hjk : i_z < n_z := (nI_ltI (by omega) (by omega)).mp (show nI i_z < nI n_z from c_15)
      have hV1 : z_rV (z_I (z_up zS I1)) 7 zV := hV.fr hf z_PT7
      refine z_s 19 hB_z dX9_isWithoutHam_18 rfl rfl ?_
      refine z_getR 22 hB_z fX9_40 (L4_z (zS := zS) hL) dX9_isWithoutHam_19 rfl rfl (r4_4 (zS := zS) hL) ?_
      refine z_s 23 hB_z dX9_isWithoutHam_22 rfl rfl ?_
      refine z_getR 26 hB_z fX9_51 (L4_z (zS := zS) hL) dX9_isWithoutHam_23 rfl rfl (r4_6 (zS := zS) hL) ?_
      refine z_s 27 hB_z dX9_isWithoutHam_26 rfl rfl ?_
      refine z_s 28 hB_z dX9_isWithoutHam_27 rfl rfl ?_
      refine z_callS 31 hB_z hM_z.2.1 kX9_193 dX9_isWithoutHam_28 rfl (c_has (d_z := 0)) (by omega) rfl rfl (Nat.le_of_ble_eq_true rfl) ⟨Nat.le_refl _, Nat.le_refl _⟩ ?_
      rintro _ _ ⟨rfl, rfl⟩
      refine z_s 32 hB_z dX9_isWithoutHam_31 rfl rfl ?_
      refine z_getR 35 hB_z fX9_19 (L4_z (zS := zS) hL) dX9_isWithoutHam_32 rfl rfl (r4_1 (zS := zS) hL) ?_
      refine z_getI 38 hB_z fX9_290 (L7 (zS := zS) hL) dX9_isWithoutHam_35 rfl rfl ?_
      rw [show z_I (z_up zS I1) 7 10 = nI zV.2.2.1 from hV1.2.2.1]
      refine z_callV 41 hB_z hM_z.2.1 kX9_245 dX9_isWithoutHam_38 rfl (L48 (zS := zS) hL) rfl (c_X1_play (zS := z_up zS I1) (d_z := 0) hL hV1 (by decide) (s54 hL) hT1 (dog := z_hb set_z i_z) rfl hV.2.2.2.2.2) (by omega) rfl rfl (Nat.le_of_ble_eq_true rfl) ⟨Nat.le_refl _, Nat.le_refl _⟩ ?_
      rintro _ _ ⟨rfl, I2_z, rfl, hf2, hN2⟩
      have e5_z : z_I (z_up (z_up zS I1) I2_z) 48 5 = (z_dayO zV (z_dgT zV set_z zT i_z) (z_hb set_z i_z)).2.2.1 := hN2.2.2.2.1
      refine z_s 42 hB_z dX9_isWithoutHam_41 rfl rfl ?_
      refine z_getR 45 hB_z fX9_40 (L4_z (zS := zS) hL) dX9_isWithoutHam_42 rfl rfl (r4_4 (zS := zS) hL) ?_
      refine z_getI 48 hB_z fX9_222 (L48 (zS := zS) hL) dX9_isWithoutHam_45 rfl rfl ?_
      rw [e5_z]
      refine z_b 51 53 hB_z dX9_isWithoutHam_48 rfl rfl (by decide) (fun c_48 => ?_) (fun c_48 => ?_)
      ·
        refine z_s 54 hB_z dX9_isWithoutHam_53 rfl rfl ?_
        refine z_getR 57 hB_z fX9_40 (L4_z (zS := zS) hL) dX9_isWithoutHam_54 rfl rfl (r4_4 (zS := zS) hL) ?_
        refine z_s 58 hB_z dX9_isWithoutHam_57 rfl rfl ?_
        refine z_getR 61 hB_z fX9_51 (L4_z (zS := zS) hL) dX9_isWithoutHam_58 rfl rfl (r4_6 (zS := zS) hL) ?_
        refine z_callV 64 hB_z hM_z.2.1 kX9_299 dX9_isWithoutHam_61 rfl (L48 (zS := zS) hL) rfl (c_X1_close (zS := z_up zS I2_z) (d_z := 0) hL (hV1.fr hf2 z_PN7) (by decide) (s54 hL) (hT1.fr hf2 (by unfold z_PN; decide)) hN2) (by omega) rfl rfl (Nat.le_of_ble_eq_true rfl) ⟨Nat.le_refl _, Nat.le_refl _⟩ ?_
        rintro _ _ ⟨rfl, I3, rfl, hf3, hT3⟩
        refine z_s 67 hB_z dX9_isWithoutHam_64 rfl rfl ?_
        refine z_j 13 hB_z dX9_isWithoutHam_67 (by decide) ?_
        exact z_eq (ih_z hjk I3 ((hf.tr (hf2.mono (fun q_z h_z => Or.inl h_z))).tr (hf3.mono (fun q_z h_z => Or.inr h_z))) hT3 (by unfold z_dgok; rw [hb_z, decide_eq_false (z_nlt0 c_48)]; rfl)) (by rw [← z_inc i_z]; rfl) rfl rfl
      ·
        refine z_s 52 hB_z dX9_isWithoutHam_51 rfl rfl ?_
        refine z_zret hM_z dX9_isWithoutHam_52 rfl (by decide) ?_ rfl rfl
        exact ⟨by rw [z_dgok_bad c_48 hjk]; rfl, I2_z, rfl, hf.tr (hf2.mono (fun q_z h_z => Or.inl h_z))⟩) 0 (Nat.zero_le _)
  refine z_s 1 hB_z dX9_isWithoutHam_0 rfl rfl ?_
  refine z_getR 4 hB_z fX9_51 (L4_z (zS := zS) hL) dX9_isWithoutHam_1 rfl rfl (r4_6 (zS := zS) hL) ?_
  refine z_s 5 hB_z dX9_isWithoutHam_4 rfl rfl ?_
  refine z_getR 8 hB_z fX9_47 (L4_z (zS := zS) hL) dX9_isWithoutHam_5 rfl rfl (r4_5 (zS := zS) hL) ?_
  refine z_callV 11 hB_z hM_z.2.1 kX9_210 dX9_isWithoutHam_8 rfl (L54 (zS := zS) hL) rfl (c_X7_copy (d_z := 0) (s54 hL) (s51 hL) (by decide) (by decide)) (by omega) rfl rfl (Nat.le_of_ble_eq_true rfl) ⟨Nat.le_refl _, Nat.le_refl _⟩ ?_
  rintro _ _ ⟨rfl, I2_z, rfl, hf2, hT2⟩
  refine z_s 12 hB_z dX9_isWithoutHam_11 rfl rfl ?_
  refine z_s 13 hB_z dX9_isWithoutHam_12 rfl rfl ?_
  exact z_eq (loop I2_z (hf2.mono (fun q_z h_z => Or.inr h_z)) (hT2 zT hT_z) rfl) rfl rfl rfl

set_option maxHeartbeats 2000000 in
theorem c_X9_dogs {g_z : z_U} {d_z : Nat} {zS : z_S} {A_z : z_Ab} (hC : z_RC zS A_z) {n_z x_z part : Int32} : z_C g_z (d_z + 5) 0 0 mX9_dogs [.ref 4, .int n_z, .int x_z, .int part] zS (z_QP zS (z_ansDogs A_z n_z x_z part)) := by
  refine z_enter [some (.ref 4), some (.int n_z), some (.int x_z), some (.int part), none, none, none] rfl rfl (Nat.le_of_ble_eq_true rfl) rfl (fun zX hM_z => ?_)
  have hB_z : z_B g_z zX RX9 cX9_dogs 7 := hM_z.1
  obtain ⟨hL, hV, hT_z, hU, hK_z, hS_z, hX⟩ := id hC
  have hn : z_I zS 7 9 = nI (z_AV A_z).2.1 := hV.2.1
  have hm_z : z_I zS 7 10 = nI (z_AV A_z).2.2.1 := hV.2.2.1
  have hn6 := hV.2.2.2.2.1
  have hm10 := hV.2.2.2.2.2
  have loop := fun (k_z : Nat) (hk : k_z ≤ 6) (hM_z : z_BM g_z zX (d_z + 5) 0 0 mX9_dogs (z_QP zS (z_ansDogs A_z (nI k_z) x_z part))) (h64 : 2 ^ k_z ≤ 64) (hw : (0 ≤ nI k_z ∧ nI k_z ≤ 6) ∧ (0 ≤ x_z ∧ x_z ≤ 10) ∧ 0 ≤ part ∧ part ≤ 1) => z_loop (fun j_z => ∀ I1, z_fr z_scr (z_I zS) I1 → z_W g_z zX 40 [some (.ref 4), some (.int (nI k_z)), some (.int x_z), some (.int part), some (.int (z_abv (z_AV A_z) (z_AT A_z) x_z k_z j_z)), some (.int 1), some (.int (nI j_z))] [] 0 0 (z_up zS I1)) (2 ^ k_z) (fun j_z hj ih_z I1 hf => by
    refine z_s 42 hB_z dX9_dogs_40 rfl rfl ?_
    refine z_s 43 hB_z dX9_dogs_42 rfl rfl ?_
    refine z_s 44 hB_z dX9_dogs_43 rfl rfl ?_
    refine z_s 45 hB_z dX9_dogs_44 rfl rfl ?_
    rw [z_shl k_z (by omega)]
    refine z_b 48 76 hB_z dX9_dogs_45 rfl rfl (by decide) (fun c_45 => ?_) (fun c_45 => ?_)
    ·
      have hj2 : j_z = 2 ^ k_z := by
        have := (nI_leI (by omega) (by omega)).mp (show nI (2 ^ k_z) ≤ nI j_z from c_45)
        omega
      rw [hj2]
      refine z_s 77 hB_z dX9_dogs_76 rfl rfl ?_
      refine z_s 79 hB_z dX9_dogs_77 rfl rfl ?_
      exact z_eq (z_loop (fun i_z => z_W g_z zX 79 [some (.ref 4), some (.int (nI k_z)), some (.int x_z), some (.int part), some (.int (z_abv (z_AV A_z) (z_AT A_z) x_z k_z (2 ^ k_z))), some (.int (z_ten i_z)), some (.int (nI i_z))] [] 0 0 (z_up zS I1)) k_z (fun i_z hi_z ih_z => by
            refine z_s 81 hB_z dX9_dogs_79 rfl rfl ?_
            refine z_s 82 hB_z dX9_dogs_81 rfl rfl ?_
            refine z_b 85 98 hB_z dX9_dogs_82 rfl rfl (by decide) (fun c_82 => ?_) (fun c_82 => ?_)
            ·
              have hp : i_z = k_z := by
                have := (nI_leI (by omega) (by omega)).mp (show nI k_z ≤ nI i_z from c_82)
                omega
              rw [hp]
              refine z_s 99 hB_z dX9_dogs_98 rfl rfl ?_
              refine z_b 102 107 hB_z dX9_dogs_99 rfl rfl (by decide) (fun c_99 => ?_) (fun c_99 => ?_)
              ·
                refine z_s 109 hB_z dX9_dogs_107 rfl rfl ?_
                refine z_s 111 hB_z dX9_dogs_109 rfl rfl ?_
                refine z_s 113 hB_z dX9_dogs_111 rfl rfl ?_
                refine z_s 114 hB_z dX9_dogs_113 rfl rfl ?_
                refine z_callS 117 hB_z hM_z.2.1 kX9_277 dX9_dogs_114 rfl (c_X9_sharedDivisor (d_z := 0) (by omega)) (by omega) rfl rfl (Nat.le_of_ble_eq_true rfl) ⟨Nat.le_refl _, Nat.le_refl _⟩ ?_
                rintro _ _ ⟨rfl, rfl⟩
                refine z_callS 120 hB_z hM_z.2.1 kX9_280 dX9_dogs_117 rfl (c_X9_quotient (d_z := 0)) (by omega) rfl rfl (Nat.le_of_ble_eq_true rfl) ⟨Nat.le_refl _, Nat.le_refl _⟩ ?_
                rintro _ _ ⟨rfl, rfl⟩
                refine z_iret hM_z dX9_dogs_120 rfl ?_ rfl rfl
                refine ⟨congrArg (fun q_z => some (Value.int q_z)) (Eq.symm ?_), I1, rfl, hf⟩
                unfold z_ansDogs
                rw [if_pos hw, nI_clamp (by omega), if_neg c_99]
                rfl
              ·
                refine z_s 104 hB_z dX9_dogs_102 rfl rfl ?_
                refine z_j 109 hB_z dX9_dogs_104 (by decide) ?_
                refine z_s 111 hB_z dX9_dogs_109 rfl rfl ?_
                refine z_s 113 hB_z dX9_dogs_111 rfl rfl ?_
                refine z_s 114 hB_z dX9_dogs_113 rfl rfl ?_
                refine z_callS 117 hB_z hM_z.2.1 kX9_277 dX9_dogs_114 rfl (c_X9_sharedDivisor (d_z := 0) (by omega)) (by omega) rfl rfl (Nat.le_of_ble_eq_true rfl) ⟨Nat.le_refl _, Nat.le_refl _⟩ ?_
                rintro _ _ ⟨rfl, rfl⟩
                refine z_callS 120 hB_z hM_z.2.1 kX9_280 dX9_dogs_117 rfl (c_X9_quotient (d_z := 0)) (by omega) rfl rfl (Nat.le_of_ble_eq_true rfl) ⟨Nat.le_refl _, Nat.le_refl _⟩ ?_
                rintro _ _ ⟨rfl, rfl⟩
                refine z_iret hM_z dX9_dogs_120 rfl ?_ rfl rfl
                refine ⟨congrArg (fun q_z => some (Value.int q_z)) (Eq.symm ?_), I1, rfl, hf⟩
                unfold z_ansDogs
                rw [if_pos hw, nI_clamp (by omega), if_pos c_99]
                rfl
            ·
              have hp : i_z < k_z := (nI_ltI (by omega) (by omega)).mp (show nI i_z < nI k_z from c_82)
              refine z_s 87 hB_z dX9_dogs_85 rfl rfl ?_
              refine z_s 89 hB_z dX9_dogs_87 rfl rfl ?_
              refine z_s 90 hB_z dX9_dogs_89 rfl rfl ?_
              refine z_s 92 hB_z dX9_dogs_90 rfl rfl ?_
              refine z_s 95 hB_z dX9_dogs_92 rfl rfl ?_
              refine z_j 79 hB_z dX9_dogs_95 (by decide) ?_
              exact z_eq (ih_z hp) (by rw [← z_inc i_z]; rfl) rfl rfl) 0 (Nat.zero_le _)) rfl rfl rfl
    ·
      have hj2 : j_z < 2 ^ k_z := (nI_ltI (by omega) (by omega)).mp (show nI j_z < nI (2 ^ k_z) from c_45)
      refine z_s 49 hB_z dX9_dogs_48 rfl rfl ?_
      refine z_s 50 hB_z dX9_dogs_49 rfl rfl ?_
      refine z_s 52 hB_z dX9_dogs_50 rfl rfl ?_
      refine z_callV 55 hB_z hM_z.2.1 kX9_270 dX9_dogs_52 rfl (L4_z (zS := zS) hL) rfl (c_X9_isWithoutHam (zS := z_up zS I1) (d_z := 0) hL (hV.fr hf z_scr7) (hT_z.fr hf (by unfold z_scr; omega)) (n_z := k_z) (by omega)) (by omega) rfl rfl (Nat.le_of_ble_eq_true rfl) ⟨Nat.le_refl _, Nat.le_refl _⟩ ?_
      rintro _ _ ⟨rfl, I3, rfl, hf3⟩
      refine z_b 58 70 hB_z dX9_dogs_55 rfl rfl (by decide) (fun c_55 => ?_) (fun c_55 => ?_)
      ·
        refine z_s 73 hB_z dX9_dogs_70 rfl rfl ?_
        refine z_j 40 hB_z dX9_dogs_73 (by decide) ?_
        exact z_eq (ih_z hj2 I3 (hf.tr (hf3.mono z_PT_scr))) (by rw [← z_inc j_z, show z_abv (z_AV A_z) (z_AT A_z) x_z k_z (j_z + 1) = z_abv (z_AV A_z) (z_AT A_z) x_z k_z j_z from if_neg (by rw [z_if0 c_55]; exact Bool.false_ne_true)]; rfl) rfl rfl
      ·
        refine z_s 60 hB_z dX9_dogs_58 rfl rfl ?_
        refine z_s 61 hB_z dX9_dogs_60 rfl rfl ?_
        refine z_s 62 hB_z dX9_dogs_61 rfl rfl ?_
        refine z_s 64 hB_z dX9_dogs_62 rfl rfl ?_
        refine z_callS 67 hB_z hM_z.2.1 kX9_273 dX9_dogs_64 rfl (c_X9_weight (d_z := 0) (n_z := k_z) (by omega)) (by omega) rfl rfl (Nat.le_of_ble_eq_true rfl) ⟨Nat.le_refl _, Nat.le_refl _⟩ ?_
        rintro _ _ ⟨rfl, rfl⟩
        refine z_s 68 hB_z dX9_dogs_67 rfl rfl ?_
        refine z_s 70 hB_z dX9_dogs_68 rfl rfl ?_
        refine z_s 73 hB_z dX9_dogs_70 rfl rfl ?_
        refine z_j 40 hB_z dX9_dogs_73 (by decide) ?_
        exact z_eq (ih_z hj2 I3 (hf.tr (hf3.mono z_PT_scr))) (by rw [← z_inc j_z, show z_abv (z_AV A_z) (z_AT A_z) x_z k_z (j_z + 1) = z_abv (z_AV A_z) (z_AT A_z) x_z k_z j_z + z_wt x_z (nI j_z) k_z from if_pos (z_if1 c_55)]; rfl) rfl rfl) 0 (Nat.zero_le _)
  refine z_s 1 hB_z dX9_dogs_0 rfl rfl ?_
  refine z_b 4 29 hB_z dX9_dogs_1 rfl rfl (by decide) (fun c_1 => ?_) (fun c_1 => ?_)
  ·
    refine z_s 30 hB_z dX9_dogs_29 rfl rfl ?_
    refine z_iret hM_z dX9_dogs_30 rfl ?_ rfl rfl
    exact z_QP.rf (by unfold z_ansDogs; rw [if_neg (fun q_z => z_nlt0 q_z.1.1 c_1)])
  ·
    refine z_s 5 hB_z dX9_dogs_4 rfl rfl ?_
    refine z_s 7 hB_z dX9_dogs_5 rfl rfl ?_
    refine z_b 10 29 hB_z dX9_dogs_7 rfl rfl (by decide) (fun c_7 => ?_) (fun c_7 => ?_)
    ·
      refine z_s 30 hB_z dX9_dogs_29 rfl rfl ?_
      refine z_iret hM_z dX9_dogs_30 rfl ?_ rfl rfl
      exact z_QP.rf (by unfold z_ansDogs; rw [if_neg (fun q_z => z_nle0 c_7 q_z.1.2)])
    ·
      refine z_s 11 hB_z dX9_dogs_10 rfl rfl ?_
      refine z_b 14 29 hB_z dX9_dogs_11 rfl rfl (by decide) (fun c_11 => ?_) (fun c_11 => ?_)
      ·
        refine z_s 30 hB_z dX9_dogs_29 rfl rfl ?_
        refine z_iret hM_z dX9_dogs_30 rfl ?_ rfl rfl
        exact z_QP.rf (by unfold z_ansDogs; rw [if_neg (fun q_z => z_nlt0 q_z.2.1.1 c_11)])
      ·
        refine z_s 15 hB_z dX9_dogs_14 rfl rfl ?_
        refine z_s 17 hB_z dX9_dogs_15 rfl rfl ?_
        refine z_b 20 29 hB_z dX9_dogs_17 rfl rfl (by decide) (fun c_17 => ?_) (fun c_17 => ?_)
        ·
          refine z_s 30 hB_z dX9_dogs_29 rfl rfl ?_
          refine z_iret hM_z dX9_dogs_30 rfl ?_ rfl rfl
          exact z_QP.rf (by unfold z_ansDogs; rw [if_neg (fun q_z => z_nle0 c_17 q_z.2.1.2)])
        ·
          refine z_s 21 hB_z dX9_dogs_20 rfl rfl ?_
          refine z_b 24 29 hB_z dX9_dogs_21 rfl rfl (by decide) (fun c_21 => ?_) (fun c_21 => ?_)
          ·
            refine z_s 30 hB_z dX9_dogs_29 rfl rfl ?_
            refine z_iret hM_z dX9_dogs_30 rfl ?_ rfl rfl
            exact z_QP.rf (by unfold z_ansDogs; rw [if_neg (fun q_z => z_nlt0 q_z.2.2.1 c_21)])
          ·
            refine z_s 25 hB_z dX9_dogs_24 rfl rfl ?_
            refine z_s 26 hB_z dX9_dogs_25 rfl rfl ?_
            refine z_b 29 31 hB_z dX9_dogs_26 rfl rfl (by decide) (fun c_26 => ?_) (fun c_26 => ?_)
            ·
              obtain ⟨k_z, hk, rfl⟩ := z_le28 c_1 (m_z := 6) (by decide) c_7
              refine z_s 32 hB_z dX9_dogs_31 rfl rfl ?_
              refine z_s 34 hB_z dX9_dogs_32 rfl rfl ?_
              refine z_s 35 hB_z dX9_dogs_34 rfl rfl ?_
              refine z_s 37 hB_z dX9_dogs_35 rfl rfl ?_
              refine z_s 38 hB_z dX9_dogs_37 rfl rfl ?_
              refine z_s 40 hB_z dX9_dogs_38 rfl rfl ?_
              exact z_eq (loop k_z hk hM_z (z_pow6 hk) ⟨⟨c_1, c_7⟩, ⟨c_11, c_17⟩, c_21, c_26⟩ (z_I zS) z_fr.rf) rfl rfl rfl
            ·
              refine z_s 30 hB_z dX9_dogs_29 rfl rfl ?_
              refine z_iret hM_z dX9_dogs_30 rfl ?_ rfl rfl
              exact z_QP.rf (by unfold z_ansDogs; rw [if_neg (fun q_z => z_nle0 c_26 q_z.2.2.2)])

