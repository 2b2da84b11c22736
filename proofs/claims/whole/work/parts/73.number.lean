/-! the model: a number is read -/
def z_least (l k_z : Int32) : Int32 := if (l = 115 ∧ k_z = 2) ∨ (l = 99 ∧ k_z = 3) ∨ l = 104 then 1 else 0
def z_most (n_z : Nat) (l k_z : Int32) : Int32 := if l = 115 then (if k_z = 0 then 3 else if k_z = 1 then 5 else if k_z = 2 then 10 else 9) else if l = 113 then nI n_z - 1 else if l = 104 then 10 else if k_z = 0 then 13 else if k_z = 1 then 5 else if k_z = 2 then 3 else 60
theorem c_X10_least {g_z : z_U} {d_z : Nat} {zS : z_S} {l k_z : Int32} : z_C g_z (d_z) 0 0 mX10_least [.ref 99, .int l, .int k_z] zS (fun r_z zS' => zS = zS' ∧ r_z = some (.int (z_least l k_z))) := by
  refine z_enter [some (.ref 99), some (.int l), some (.int k_z)] rfl rfl (Nat.le_of_ble_eq_true rfl) rfl (fun zX hM_z => ?_)
  have hB_z : z_B g_z zX RX10 cX10_least 3 := hM_z.1
  refine z_s 1 hB_z dX10_least_0 rfl rfl ?_
  refine z_s 3 hB_z dX10_least_1 rfl rfl ?_
  refine z_b 6 11 hB_z dX10_least_3 rfl rfl (by decide) (fun c_3 => ?_) (fun c_3 => ?_)
  ·
    refine z_s 12 hB_z dX10_least_11 rfl rfl ?_
    refine z_s 14 hB_z dX10_least_12 rfl rfl ?_
    refine z_b 17 22 hB_z dX10_least_14 rfl rfl (by decide) (fun c_14 => ?_) (fun c_14 => ?_)
    ·
      refine z_s 23 hB_z dX10_least_22 rfl rfl ?_
      refine z_s 25 hB_z dX10_least_23 rfl rfl ?_
      refine z_b 28 32 hB_z dX10_least_25 rfl rfl (by decide) (fun c_25 => ?_) (fun c_25 => ?_)
      ·
        refine z_s 33 hB_z dX10_least_32 rfl rfl ?_
        refine z_iret hM_z dX10_least_33 rfl ?_ rfl rfl
        refine ⟨rfl, congrArg (fun q_z => some (Value.int q_z)) ?_⟩
        exact z_bie (fun z_z => z_z.elim (fun y_z => c_3 y_z.1) (fun y_z => y_z.elim (fun x_z => c_14 x_z.1) (fun x_z => c_25 x_z)))
      ·
        refine z_s 29 hB_z dX10_least_28 rfl rfl ?_
        refine z_j 33 hB_z dX10_least_29 (by decide) ?_
        refine z_iret hM_z dX10_least_33 rfl ?_ rfl rfl
        refine ⟨rfl, congrArg (fun q_z => some (Value.int q_z)) ?_⟩
        exact z_bif (Or.inr (Or.inr c_25))
    ·
      refine z_s 18 hB_z dX10_least_17 rfl rfl ?_
      refine z_s 19 hB_z dX10_least_18 rfl rfl ?_
      refine z_b 22 28 hB_z dX10_least_19 rfl rfl (by decide) (fun c_19 => ?_) (fun c_19 => ?_)
      ·
        refine z_s 29 hB_z dX10_least_28 rfl rfl ?_
        refine z_j 33 hB_z dX10_least_29 (by decide) ?_
        refine z_iret hM_z dX10_least_33 rfl ?_ rfl rfl
        refine ⟨rfl, congrArg (fun q_z => some (Value.int q_z)) ?_⟩
        exact z_bif (Or.inr (Or.inl ⟨c_14, c_19⟩))
      ·
        refine z_s 23 hB_z dX10_least_22 rfl rfl ?_
        refine z_s 25 hB_z dX10_least_23 rfl rfl ?_
        refine z_b 28 32 hB_z dX10_least_25 rfl rfl (by decide) (fun c_25 => ?_) (fun c_25 => ?_)
        ·
          refine z_s 33 hB_z dX10_least_32 rfl rfl ?_
          refine z_iret hM_z dX10_least_33 rfl ?_ rfl rfl
          refine ⟨rfl, congrArg (fun q_z => some (Value.int q_z)) ?_⟩
          exact z_bie (fun z_z => z_z.elim (fun y_z => c_3 y_z.1) (fun y_z => y_z.elim (fun x_z => c_19 x_z.2) (fun x_z => c_25 x_z)))
        ·
          refine z_s 29 hB_z dX10_least_28 rfl rfl ?_
          refine z_j 33 hB_z dX10_least_29 (by decide) ?_
          refine z_iret hM_z dX10_least_33 rfl ?_ rfl rfl
          refine ⟨rfl, congrArg (fun q_z => some (Value.int q_z)) ?_⟩
          exact z_bif (Or.inr (Or.inr c_25))
  ·
    refine z_s 7 hB_z dX10_least_6 rfl rfl ?_
    refine z_s 8 hB_z dX10_least_7 rfl rfl ?_
    refine z_b 11 28 hB_z dX10_least_8 rfl rfl (by decide) (fun c_8 => ?_) (fun c_8 => ?_)
    ·
      refine z_s 29 hB_z dX10_least_28 rfl rfl ?_
      refine z_j 33 hB_z dX10_least_29 (by decide) ?_
      refine z_iret hM_z dX10_least_33 rfl ?_ rfl rfl
      refine ⟨rfl, congrArg (fun q_z => some (Value.int q_z)) ?_⟩
      exact z_bif (Or.inl ⟨c_3, c_8⟩)
    ·
      refine z_s 12 hB_z dX10_least_11 rfl rfl ?_
      refine z_s 14 hB_z dX10_least_12 rfl rfl ?_
      refine z_b 17 22 hB_z dX10_least_14 rfl rfl (by decide) (fun c_14 => ?_) (fun c_14 => ?_)
      ·
        refine z_s 23 hB_z dX10_least_22 rfl rfl ?_
        refine z_s 25 hB_z dX10_least_23 rfl rfl ?_
        refine z_b 28 32 hB_z dX10_least_25 rfl rfl (by decide) (fun c_25 => ?_) (fun c_25 => ?_)
        ·
          refine z_s 33 hB_z dX10_least_32 rfl rfl ?_
          refine z_iret hM_z dX10_least_33 rfl ?_ rfl rfl
          refine ⟨rfl, congrArg (fun q_z => some (Value.int q_z)) ?_⟩
          exact z_bie (fun z_z => z_z.elim (fun y_z => c_8 y_z.2) (fun y_z => y_z.elim (fun x_z => c_14 x_z.1) (fun x_z => c_25 x_z)))
        ·
          refine z_s 29 hB_z dX10_least_28 rfl rfl ?_
          refine z_j 33 hB_z dX10_least_29 (by decide) ?_
          refine z_iret hM_z dX10_least_33 rfl ?_ rfl rfl
          refine ⟨rfl, congrArg (fun q_z => some (Value.int q_z)) ?_⟩
          exact z_bif (Or.inr (Or.inr c_25))
      ·
        refine z_s 18 hB_z dX10_least_17 rfl rfl ?_
        refine z_s 19 hB_z dX10_least_18 rfl rfl ?_
        refine z_b 22 28 hB_z dX10_least_19 rfl rfl (by decide) (fun c_19 => ?_) (fun c_19 => ?_)
        ·
          refine z_s 29 hB_z dX10_least_28 rfl rfl ?_
          refine z_j 33 hB_z dX10_least_29 (by decide) ?_
          refine z_iret hM_z dX10_least_33 rfl ?_ rfl rfl
          refine ⟨rfl, congrArg (fun q_z => some (Value.int q_z)) ?_⟩
          exact z_bif (Or.inr (Or.inl ⟨c_14, c_19⟩))
        ·
          refine z_s 23 hB_z dX10_least_22 rfl rfl ?_
          refine z_s 25 hB_z dX10_least_23 rfl rfl ?_
          refine z_b 28 32 hB_z dX10_least_25 rfl rfl (by decide) (fun c_25 => ?_) (fun c_25 => ?_)
          ·
            refine z_s 33 hB_z dX10_least_32 rfl rfl ?_
            refine z_iret hM_z dX10_least_33 rfl ?_ rfl rfl
            refine ⟨rfl, congrArg (fun q_z => some (Value.int q_z)) ?_⟩
            exact z_bie (fun z_z => z_z.elim (fun y_z => c_8 y_z.2) (fun y_z => y_z.elim (fun x_z => c_19 x_z.2) (fun x_z => c_25 x_z)))
          ·
            refine z_s 29 hB_z dX10_least_28 rfl rfl ?_
            refine z_j 33 hB_z dX10_least_29 (by decide) ?_
            refine z_iret hM_z dX10_least_33 rfl ?_ rfl rfl
            refine ⟨rfl, congrArg (fun q_z => some (Value.int q_z)) ?_⟩
            exact z_bif (Or.inr (Or.inr c_25))

theorem c_X10_most {g_z : z_U} {d_z : Nat} {zS : z_S} (hN_z : z_LM zS) {n_z : Nat} (hn : z_I zS 99 4 = nI n_z) {l k_z : Int32} : z_C g_z (d_z) 0 0 mX10_most [.ref 99, .int l, .int k_z] zS (fun r_z zS' => zS = zS' ∧ r_z = some (.int (z_most n_z l k_z))) := by
  refine z_enter [some (.ref 99), some (.int l), some (.int k_z)] rfl rfl (Nat.le_of_ble_eq_true rfl) rfl (fun zX hM_z => ?_)
  have hB_z : z_B g_z zX RX10 cX10_most 3 := hM_z.1
  refine z_s 1 hB_z dX10_most_0 rfl rfl ?_
  refine z_s 3 hB_z dX10_most_1 rfl rfl ?_
  refine z_b 6 36 hB_z dX10_most_3 rfl rfl (by decide) (fun c_3 => ?_) (fun c_3 => ?_)
  ·
    refine z_s 37 hB_z dX10_most_36 rfl rfl ?_
    refine z_s 39 hB_z dX10_most_37 rfl rfl ?_
    refine z_b 42 49 hB_z dX10_most_39 rfl rfl (by decide) (fun c_39 => ?_) (fun c_39 => ?_)
    ·
      refine z_s 50 hB_z dX10_most_49 rfl rfl ?_
      refine z_s 52 hB_z dX10_most_50 rfl rfl ?_
      refine z_b 55 58 hB_z dX10_most_52 rfl rfl (by decide) (fun c_52 => ?_) (fun c_52 => ?_)
      ·
        refine z_s 59 hB_z dX10_most_58 rfl rfl ?_
        refine z_b 62 67 hB_z dX10_most_59 rfl rfl (by decide) (fun c_59 => ?_) (fun c_59 => ?_)
        ·
          refine z_s 68 hB_z dX10_most_67 rfl rfl ?_
          refine z_s 69 hB_z dX10_most_68 rfl rfl ?_
          refine z_b 72 76 hB_z dX10_most_69 rfl rfl (by decide) (fun c_69 => ?_) (fun c_69 => ?_)
          ·
            refine z_s 77 hB_z dX10_most_76 rfl rfl ?_
            refine z_s 78 hB_z dX10_most_77 rfl rfl ?_
            refine z_b 81 85 hB_z dX10_most_78 rfl rfl (by decide) (fun c_78 => ?_) (fun c_78 => ?_)
            ·
              refine z_s 87 hB_z dX10_most_85 rfl rfl ?_
              refine z_iret hM_z dX10_most_87 rfl ?_ rfl rfl
              refine ⟨rfl, congrArg (fun q_z => some (Value.int q_z)) ?_⟩
              unfold z_most
              rw [if_neg c_3, if_neg c_39, if_neg c_52, if_neg c_59, if_neg c_69, if_neg c_78]
            ·
              refine z_s 82 hB_z dX10_most_81 rfl rfl ?_
              refine z_j 87 hB_z dX10_most_82 (by decide) ?_
              refine z_iret hM_z dX10_most_87 rfl ?_ rfl rfl
              refine ⟨rfl, congrArg (fun q_z => some (Value.int q_z)) ?_⟩
              unfold z_most
              rw [if_neg c_3, if_neg c_39, if_neg c_52, if_neg c_59, if_neg c_69, if_pos c_78]
          ·
            refine z_s 73 hB_z dX10_most_72 rfl rfl ?_
            refine z_j 87 hB_z dX10_most_73 (by decide) ?_
            refine z_iret hM_z dX10_most_87 rfl ?_ rfl rfl
            refine ⟨rfl, congrArg (fun q_z => some (Value.int q_z)) ?_⟩
            unfold z_most
            rw [if_neg c_3, if_neg c_39, if_neg c_52, if_neg c_59, if_pos c_69]
        ·
          refine z_s 64 hB_z dX10_most_62 rfl rfl ?_
          refine z_j 87 hB_z dX10_most_64 (by decide) ?_
          refine z_iret hM_z dX10_most_87 rfl ?_ rfl rfl
          refine ⟨rfl, congrArg (fun q_z => some (Value.int q_z)) ?_⟩
          unfold z_most
          rw [if_neg c_3, if_neg c_39, if_neg c_52, if_pos c_59]
      ·
        refine z_s 57 hB_z dX10_most_55 rfl rfl ?_
        refine z_iret hM_z dX10_most_57 rfl ?_ rfl rfl
        refine ⟨rfl, congrArg (fun q_z => some (Value.int q_z)) ?_⟩
        unfold z_most
        rw [if_neg c_3, if_neg c_39, if_pos c_52]
    ·
      refine z_s 43 hB_z dX10_most_42 rfl rfl ?_
      refine z_getI 46 hB_z fX10_91 (N99 (zS := zS) hN_z) dX10_most_43 rfl rfl ?_
      rw [hn]
      refine z_s 47 hB_z dX10_most_46 rfl rfl ?_
      refine z_s 48 hB_z dX10_most_47 rfl rfl ?_
      refine z_iret hM_z dX10_most_48 rfl ?_ rfl rfl
      refine ⟨rfl, congrArg (fun q_z => some (Value.int q_z)) ?_⟩
      unfold z_most
      rw [if_neg c_3, if_pos c_39]
  ·
    refine z_s 7 hB_z dX10_most_6 rfl rfl ?_
    refine z_b 10 14 hB_z dX10_most_7 rfl rfl (by decide) (fun c_7 => ?_) (fun c_7 => ?_)
    ·
      refine z_s 15 hB_z dX10_most_14 rfl rfl ?_
      refine z_s 16 hB_z dX10_most_15 rfl rfl ?_
      refine z_b 19 23 hB_z dX10_most_16 rfl rfl (by decide) (fun c_16 => ?_) (fun c_16 => ?_)
      ·
        refine z_s 24 hB_z dX10_most_23 rfl rfl ?_
        refine z_s 25 hB_z dX10_most_24 rfl rfl ?_
        refine z_b 28 33 hB_z dX10_most_25 rfl rfl (by decide) (fun c_25 => ?_) (fun c_25 => ?_)
        ·
          refine z_s 35 hB_z dX10_most_33 rfl rfl ?_
          refine z_iret hM_z dX10_most_35 rfl ?_ rfl rfl
          refine ⟨rfl, congrArg (fun q_z => some (Value.int q_z)) ?_⟩
          unfold z_most
          rw [if_pos c_3, if_neg c_7, if_neg c_16, if_neg c_25]
        ·
          refine z_s 30 hB_z dX10_most_28 rfl rfl ?_
          refine z_j 35 hB_z dX10_most_30 (by decide) ?_
          refine z_iret hM_z dX10_most_35 rfl ?_ rfl rfl
          refine ⟨rfl, congrArg (fun q_z => some (Value.int q_z)) ?_⟩
          unfold z_most
          rw [if_pos c_3, if_neg c_7, if_neg c_16, if_pos c_25]
      ·
        refine z_s 20 hB_z dX10_most_19 rfl rfl ?_
        refine z_j 35 hB_z dX10_most_20 (by decide) ?_
        refine z_iret hM_z dX10_most_35 rfl ?_ rfl rfl
        refine ⟨rfl, congrArg (fun q_z => some (Value.int q_z)) ?_⟩
        unfold z_most
        rw [if_pos c_3, if_neg c_7, if_pos c_16]
    ·
      refine z_s 11 hB_z dX10_most_10 rfl rfl ?_
      refine z_j 35 hB_z dX10_most_11 (by decide) ?_
      refine z_iret hM_z dX10_most_35 rfl ?_ rfl rfl
      refine ⟨rfl, congrArg (fun q_z => some (Value.int q_z)) ?_⟩
      unfold z_most
      rw [if_pos c_3, if_pos c_7]

def z_P23n : Nat → Nat → Prop := fun q_z k_z => q_z = 99 ∧ (k_z = 2 ∨ k_z = 3)
def z_nok (q_z : (Nat → Int32) × Nat) (p_z : Nat) (lo_z hi_z e_z : Int32) : Prop := ¬ (z_num q_z p_z).1 < 0 ∧ (lo_z ≤ (z_num q_z p_z).1 ∧ (z_num q_z p_z).1 ≤ hi_z) ∧ z_lt q_z (z_num q_z p_z).2 = e_z
theorem z_fig_y {q_z : (Nat → Int32) × Nat} {p_z : Nat} (h_z : 48 ≤ z_lt q_z p_z ∧ z_lt q_z p_z ≤ 57) : z_fig q_z p_z = z_lt q_z p_z - 48 ∧ ¬ z_fig q_z p_z < 0 := by
  have e_z : z_fig q_z p_z = z_lt q_z p_z - 48 := if_pos h_z
  refine ⟨e_z, ?_⟩
  rw [e_z]
  obtain ⟨j_z, hj, e2_z⟩ := z_le28 (Int32.le_trans (by decide) h_z.1) (m_z := 57) (by decide) h_z.2
  rw [e2_z] at h_z ⊢
  have h48 : 48 ≤ j_z := (nI_leI (show 48 < 2 ^ 31 by decide) (by omega)).mp h_z.1
  have e3_z : nI j_z - 48 = nI (j_z - 48) := show nI j_z - nI 48 = _ from pk_sub h48
  rw [e3_z]
  exact nI_pos (by omega)
theorem z_fig_n {q_z : (Nat → Int32) × Nat} {p_z : Nat} (h_z : ¬ (48 ≤ z_lt q_z p_z ∧ z_lt q_z p_z ≤ 57)) : z_fig q_z p_z < 0 := by
  rw [show z_fig q_z p_z = -4 from if_neg h_z]
  decide
theorem z_num0 {q_z : (Nat → Int32) × Nat} {p_z : Nat} (h_z : z_fig q_z p_z < 0) : (z_num q_z p_z).1 < 0 := by
  unfold z_num
  rw [if_pos h_z]
  exact h_z
theorem z_num1 {q_z : (Nat → Int32) × Nat} {p_z : Nat} (h_z : ¬ z_fig q_z p_z < 0) (h2 : z_fig q_z (p_z + 1) < 0) : z_num q_z p_z = (z_fig q_z p_z, p_z + 1) := by
  unfold z_num
  rw [if_neg h_z, if_pos h2]
theorem z_num2 {q_z : (Nat → Int32) × Nat} {p_z : Nat} (h_z : ¬ z_fig q_z p_z < 0) (h2 : ¬ z_fig q_z (p_z + 1) < 0) : z_num q_z p_z = (10 * z_fig q_z p_z + z_fig q_z (p_z + 1), p_z + 2) := by
  unfold z_num
  rw [if_neg h_z, if_neg h2]
theorem z_ar1 (l : Int32) : 10 * 0 + l - 48 = l - 48 := by
  rw [show (10 : Int32) * 0 = 0 from rfl, Int32.zero_add]
theorem z_ar2 (a_z l : Int32) : 10 * a_z + l - 48 = 10 * a_z + (l - 48) := by
  rw [Int32.sub_eq_add_neg, Int32.sub_eq_add_neg, Int32.add_assoc]
theorem z_num_nn {q_z : (Nat → Int32) × Nat} {p_z : Nat} (h_z : ¬ z_fig q_z p_z < 0) : ¬ (z_num q_z p_z).1 < 0 := by
  have fb : ∀ p_z, ¬ z_fig q_z p_z < 0 → ∃ j_z, j_z < 10 ∧ z_fig q_z p_z = nI j_z := fun p_z h_z => by
    by_cases y_z : 48 ≤ z_lt q_z p_z ∧ z_lt q_z p_z ≤ 57
    · obtain ⟨j_z, hj, e2_z⟩ := z_le28 (Int32.le_trans (by decide) y_z.1) (m_z := 57) (by decide) y_z.2
      have h48 : 48 ≤ j_z := (nI_leI (show 48 < 2 ^ 31 by decide) (by omega)).mp (by rw [← e2_z]; exact y_z.1)
      refine ⟨j_z - 48, by omega, ?_⟩
      rw [(z_fig_y y_z).1, e2_z]
      show nI j_z - nI 48 = _
      exact pk_sub h48
    · exact absurd (z_fig_n y_z) h_z
  obtain ⟨a_z, ha_z, ea⟩ := fb p_z h_z
  by_cases h2 : z_fig q_z (p_z + 1) < 0
  · rw [z_num1 h_z h2]; exact h_z
  · obtain ⟨b_z, hb_z, eb⟩ := fb (p_z + 1) h2
    rw [z_num2 h_z h2]
    show ¬ 10 * z_fig q_z p_z + z_fig q_z (p_z + 1) < 0
    have e_z : 10 * z_fig q_z p_z + z_fig q_z (p_z + 1) = nI (10 * a_z + b_z) := by
      rw [ea, eb, show (10 : Int32) * nI a_z = nI (10 * a_z) from pk_mul 10 a_z]
      exact nI_add _ _
    rw [e_z]
    exact nI_pos (by omega)
set_option maxHeartbeats 2000000 in
theorem c_X10_isNumber {g_z : z_U} {d_z : Nat} {zS : z_S} {q_z : (Nat → Int32) × Nat} (hN_z : z_LM zS) (hx : z_I zS 99 0 = nI q_z.2) (h200 : q_z.2 ≤ 200) (hq : ∀ k_z, k_z < q_z.2 → z_I zS 100 k_z = q_z.1 k_z) {p_z : Nat} (hp : p_z ≤ q_z.2) (hp2 : z_I zS 99 2 = nI p_z) {lo_z hi_z e_z : Int32} : z_C g_z (d_z + 1) 0 0 mX10_isNumber [.ref 99, .int lo_z, .int hi_z, .int e_z] zS (fun r_z zS' => ∃ v_z : Int32, r_z = some (.int v_z) ∧ ∃ zI', z_up zS zI' = zS' ∧ z_f2 z_P23n (z_I zS) zI' ∧ ((v_z = 0 ∧ ¬ z_nok q_z p_z lo_z hi_z e_z) ∨ (v_z = 1 ∧ z_nok q_z p_z lo_z hi_z e_z ∧ zI' 99 3 = (z_num q_z p_z).1 ∧ zI' 99 2 = nI ((z_num q_z p_z).2 + 1)))) := by
  refine z_enter [some (.ref 99), some (.int lo_z), some (.int hi_z), some (.int e_z), none] rfl rfl (Nat.le_of_ble_eq_true rfl) rfl (fun zX hM_z => ?_)
  have hB_z : z_B g_z zX RX10 cX10_isNumber 5 := hM_z.1
  have hnl := z_num_le hp
  have tl : ∀ (I1 : Nat → Nat → Int32) (sz_z : Int32), z_f2 z_P23n (z_I zS) I1 → (sz_z = 0 → (z_num q_z p_z).1 < 0) → (¬ sz_z = 0 → I1 99 3 = (z_num q_z p_z).1 ∧ I1 99 2 = nI (z_num q_z p_z).2 ∧ ¬ (z_num q_z p_z).1 < 0) → z_W g_z zX 71 [some (.ref 99), some (.int lo_z), some (.int hi_z), some (.int e_z), some (.int sz_z)] [] 0 0 (z_up zS I1) := fun I1 sz_z hf h0 h1 => by
    refine z_s 73 hB_z dX10_isNumber_71 rfl rfl ?_
    refine z_b 76 100 hB_z dX10_isNumber_73 rfl rfl (by decide) (fun c_73 => ?_) (fun c_73 => ?_)
    ·
      have hneg := h0 c_73
      refine z_s 101 hB_z dX10_isNumber_100 rfl rfl ?_
      refine z_zret hM_z dX10_isNumber_101 rfl (by decide) ?_ rfl rfl
      exact ⟨0, rfl, I1, rfl, hf, Or.inl ⟨rfl, fun z_z => z_z.1 hneg⟩⟩
    ·
      obtain ⟨h3, h2, hnn_z⟩ := h1 c_73
      refine z_s 77 hB_z dX10_isNumber_76 rfl rfl ?_
      refine z_getI 80 hB_z fX10_82 (N99 (zS := zS) hN_z) dX10_isNumber_77 rfl rfl ?_
      rw [show z_I (z_up zS I1) 99 3 = (z_num q_z p_z).1 from h3]
      refine z_s 81 hB_z dX10_isNumber_80 rfl rfl ?_
      refine z_s 82 hB_z dX10_isNumber_81 rfl rfl ?_
      refine z_callS 85 hB_z hM_z.2.1 kX10_67 dX10_isNumber_82 rfl (c_X10_in (d_z := 0)) (by omega) rfl rfl (Nat.le_of_ble_eq_true rfl) ⟨Nat.le_refl _, Nat.le_refl _⟩ ?_
      rintro _ _ ⟨rfl, rfl⟩
      refine z_b 88 100 hB_z dX10_isNumber_85 rfl rfl (by decide) (fun c_85 => ?_) (fun c_85 => ?_)
      ·
        refine z_s 101 hB_z dX10_isNumber_100 rfl rfl ?_
        refine z_zret hM_z dX10_isNumber_101 rfl (by decide) ?_ rfl rfl
        exact ⟨0, rfl, I1, rfl, hf, Or.inl ⟨rfl, fun z_z => z_of0 c_85 z_z.2.1⟩⟩
      ·
        refine z_s 89 hB_z dX10_isNumber_88 rfl rfl ?_
        refine z_s 90 hB_z dX10_isNumber_89 rfl rfl ?_
        refine z_getI 93 hB_z fX10_85 (N99 (zS := zS) hN_z) dX10_isNumber_90 rfl rfl ?_
        rw [show z_I (z_up zS I1) 99 2 = nI (z_num q_z p_z).2 from h2]
        refine z_callV 96 hB_z hM_z.2.1 kX10_88 dX10_isNumber_93 rfl (N99 (zS := zS) hN_z) rfl (c_X10_letterAt (zS := z_up zS I1) (d_z := 0) (q_z := q_z) hN_z ((hf 99 0 (by unfold z_P23n; omega)).trans hx) h200 (fun k_z hk => (hf 100 k_z (by unfold z_P23n; omega)).trans (hq k_z hk)) (p_z := (z_num q_z p_z).2) (by omega)) (by omega) rfl rfl (Nat.le_of_ble_eq_true rfl) ⟨Nat.le_refl _, Nat.le_refl _⟩ ?_
        rintro _ _ ⟨rfl, rfl⟩
        refine z_s 97 hB_z dX10_isNumber_96 rfl rfl ?_
        refine z_b 100 102 hB_z dX10_isNumber_97 rfl rfl (by decide) (fun c_97 => ?_) (fun c_97 => ?_)
        ·
          refine z_s 103 hB_z dX10_isNumber_102 rfl rfl ?_
          refine z_s 104 hB_z dX10_isNumber_103 rfl rfl ?_
          refine z_getI 107 hB_z fX10_85 (N99 (zS := zS) hN_z) dX10_isNumber_104 rfl rfl ?_
          rw [show z_I (z_up zS I1) 99 2 = nI (z_num q_z p_z).2 from h2]
          refine z_s 108 hB_z dX10_isNumber_107 rfl rfl ?_
          refine z_s 109 hB_z dX10_isNumber_108 rfl rfl ?_
          rw [z_inc]
          refine z_putI 112 hB_z fX10_85 (N99 (zS := zS) hN_z) dX10_isNumber_109 rfl rfl rfl ?_
          refine z_s 113 hB_z dX10_isNumber_112 rfl rfl ?_
          refine z_zret hM_z dX10_isNumber_113 rfl (by decide) ?_ rfl rfl
          exact ⟨1, rfl, z_u2 I1 99 2 (nI ((z_num q_z p_z).2 + 1)), rfl, hf.u2 ⟨rfl, Or.inl rfl⟩, Or.inr ⟨rfl, ⟨hnn_z, z_of1 c_85, c_97⟩, (z_u2_ne (Or.inr (by decide))).trans h3, z_u2_same _ _ _ _⟩⟩
        ·
          refine z_s 101 hB_z dX10_isNumber_100 rfl rfl ?_
          refine z_zret hM_z dX10_isNumber_101 rfl (by decide) ?_ rfl rfl
          exact ⟨0, rfl, I1, rfl, hf, Or.inl ⟨rfl, fun z_z => c_97 z_z.2.2⟩⟩
  refine z_s 1 hB_z dX10_isNumber_0 rfl rfl ?_
  refine z_s 3 hB_z dX10_isNumber_1 rfl rfl ?_
  refine z_s 4 hB_z dX10_isNumber_3 rfl rfl ?_
  refine z_s 5 hB_z dX10_isNumber_4 rfl rfl ?_
  refine z_putI 8 hB_z fX10_82 (N99 (zS := zS) hN_z) dX10_isNumber_5 rfl rfl rfl ?_
  have hf0 : z_f2 z_P23n (z_I zS) (z_I (z_pI zS 99 3 0)) := z_f2.rf.u2 ⟨rfl, Or.inr rfl⟩
  have g2 : z_I (z_pI zS 99 3 0) 99 2 = nI p_z := (z_Ine (Or.inr (by decide))).trans hp2
  refine z_s 10 hB_z dX10_isNumber_8 rfl rfl ?_
  refine z_s 11 hB_z dX10_isNumber_10 rfl rfl ?_
  refine z_b 14 71 hB_z dX10_isNumber_11 rfl rfl (by decide) (fun c_11 => ?_) (fun c_11 => ?_)
  ·
    exact absurd c_11 (by decide)
  ·
    refine z_s 15 hB_z dX10_isNumber_14 rfl rfl ?_
    refine z_s 16 hB_z dX10_isNumber_15 rfl rfl ?_
    refine z_getI 19 hB_z fX10_85 (N99 (zS := zS) hN_z) dX10_isNumber_16 rfl rfl ?_
    rw [g2]
    refine z_callV 22 hB_z hM_z.2.1 kX10_88 dX10_isNumber_19 rfl (N99 (zS := zS) hN_z) rfl (c_X10_letterAt (zS := z_pI zS 99 3 0) (d_z := 0) (q_z := q_z) hN_z ((hf0 99 0 (by unfold z_P23n; omega)).trans hx) h200 (fun k_z hk => (hf0 100 k_z (by unfold z_P23n; omega)).trans (hq k_z hk)) (p_z := p_z) (by omega)) (by omega) rfl rfl (Nat.le_of_ble_eq_true rfl) ⟨Nat.le_refl _, Nat.le_refl _⟩ ?_
    rintro _ _ ⟨rfl, rfl⟩
    refine z_s 24 hB_z dX10_isNumber_22 rfl rfl ?_
    refine z_s 26 hB_z dX10_isNumber_24 rfl rfl ?_
    refine z_callS 29 hB_z hM_z.2.1 kX10_67 dX10_isNumber_26 rfl (c_X10_in (d_z := 0)) (by omega) rfl rfl (Nat.le_of_ble_eq_true rfl) ⟨Nat.le_refl _, Nat.le_refl _⟩ ?_
    rintro _ _ ⟨rfl, rfl⟩
    refine z_b 32 71 hB_z dX10_isNumber_29 rfl rfl (by decide) (fun c_29 => ?_) (fun c_29 => ?_)
    ·
      exact z_eqS (z_wkn (tl (z_u2 (z_I zS) 99 3 0) 0 (z_f2.rf.u2 ⟨rfl, Or.inr rfl⟩) (fun _ => z_num0 (z_fig_n (z_of0 c_29))) (fun z_z => absurd rfl z_z)) ⟨rfl, rfl, rfl, rfl, rfl, trivial⟩) rfl
    ·
      refine z_s 33 hB_z dX10_isNumber_32 rfl rfl ?_
      refine z_s 35 hB_z dX10_isNumber_33 rfl rfl ?_
      refine z_s 36 hB_z dX10_isNumber_35 rfl rfl ?_
      refine z_getI 39 hB_z fX10_82 (N99 (zS := zS) hN_z) dX10_isNumber_36 rfl rfl ?_
      rw [show z_I (z_pI zS 99 3 0) 99 3 = 0 from z_Ieq]
      refine z_s 40 hB_z dX10_isNumber_39 rfl rfl ?_
      refine z_s 41 hB_z dX10_isNumber_40 rfl rfl ?_
      refine z_s 42 hB_z dX10_isNumber_41 rfl rfl ?_
      refine z_getI 45 hB_z fX10_85 (N99 (zS := zS) hN_z) dX10_isNumber_42 rfl rfl ?_
      rw [g2]
      refine z_callV 48 hB_z hM_z.2.1 kX10_88 dX10_isNumber_45 rfl (N99 (zS := zS) hN_z) rfl (c_X10_letterAt (zS := z_pI zS 99 3 0) (d_z := 0) (q_z := q_z) hN_z ((hf0 99 0 (by unfold z_P23n; omega)).trans hx) h200 (fun k_z hk => (hf0 100 k_z (by unfold z_P23n; omega)).trans (hq k_z hk)) (p_z := p_z) (by omega)) (by omega) rfl rfl (Nat.le_of_ble_eq_true rfl) ⟨Nat.le_refl _, Nat.le_refl _⟩ ?_
      rintro _ _ ⟨rfl, rfl⟩
      refine z_s 49 hB_z dX10_isNumber_48 rfl rfl ?_
      refine z_s 51 hB_z dX10_isNumber_49 rfl rfl ?_
      refine z_s 52 hB_z dX10_isNumber_51 rfl rfl ?_
      refine z_putI 55 hB_z fX10_82 (N99 (zS := zS) hN_z) dX10_isNumber_52 rfl rfl rfl ?_
      refine z_s 56 hB_z dX10_isNumber_55 rfl rfl ?_
      refine z_s 57 hB_z dX10_isNumber_56 rfl rfl ?_
      refine z_getI 60 hB_z fX10_85 (N99 (zS := zS) hN_z) dX10_isNumber_57 rfl rfl ?_
      rw [show z_I (z_pI (z_pI zS 99 3 0) 99 3 (10 * 0 + z_lt q_z p_z - 48)) 99 2 = nI p_z from (z_Ine (Or.inr (by decide))).trans g2]
      refine z_s 61 hB_z dX10_isNumber_60 rfl rfl ?_
      refine z_s 62 hB_z dX10_isNumber_61 rfl rfl ?_
      rw [z_inc]
      refine z_putI 65 hB_z fX10_85 (N99 (zS := zS) hN_z) dX10_isNumber_62 rfl rfl rfl ?_
      have hf1 : z_f2 z_P23n (z_I zS) (z_I (z_pI (z_pI (z_pI zS 99 3 0) 99 3 (10 * 0 + z_lt q_z p_z - 48)) 99 2 (nI (p_z + 1)))) := (hf0.u2 ⟨rfl, Or.inr rfl⟩).u2 ⟨rfl, Or.inl rfl⟩
      have k2_z : z_I (z_pI (z_pI (z_pI zS 99 3 0) 99 3 (10 * 0 + z_lt q_z p_z - 48)) 99 2 (nI (p_z + 1))) 99 2 = nI (p_z + 1) := z_Ieq
      have k3_z : z_I (z_pI (z_pI (z_pI zS 99 3 0) 99 3 (10 * 0 + z_lt q_z p_z - 48)) 99 2 (nI (p_z + 1))) 99 3 = 10 * 0 + z_lt q_z p_z - 48 := (z_Ine (Or.inr (by decide))).trans z_Ieq
      obtain ⟨fy, fn_z⟩ := z_fig_y (z_of1 c_29)
      refine z_s 68 hB_z dX10_isNumber_65 rfl rfl ?_
      refine z_j 8 hB_z dX10_isNumber_68 (by decide) ?_
      refine z_s 10 hB_z dX10_isNumber_8 rfl rfl ?_
      refine z_s 11 hB_z dX10_isNumber_10 rfl rfl ?_
      refine z_b 14 71 hB_z dX10_isNumber_11 rfl rfl (by decide) (fun c_11 => ?_) (fun c_11 => ?_)
      ·
        exact absurd c_11 (by decide)
      ·
        refine z_s 15 hB_z dX10_isNumber_14 rfl rfl ?_
        refine z_s 16 hB_z dX10_isNumber_15 rfl rfl ?_
        refine z_getI 19 hB_z fX10_85 (N99 (zS := zS) hN_z) dX10_isNumber_16 rfl rfl ?_
        rw [k2_z]
        refine z_callV 22 hB_z hM_z.2.1 kX10_88 dX10_isNumber_19 rfl (N99 (zS := zS) hN_z) rfl (c_X10_letterAt (zS := z_pI (z_pI (z_pI zS 99 3 0) 99 3 (10 * 0 + z_lt q_z p_z - 48)) 99 2 (nI (p_z + 1))) (d_z := 0) (q_z := q_z) hN_z ((hf1 99 0 (by unfold z_P23n; omega)).trans hx) h200 (fun k_z hk => (hf1 100 k_z (by unfold z_P23n; omega)).trans (hq k_z hk)) (p_z := p_z + 1) (by omega)) (by omega) rfl rfl (Nat.le_of_ble_eq_true rfl) ⟨Nat.le_refl _, Nat.le_refl _⟩ ?_
        rintro _ _ ⟨rfl, rfl⟩
        refine z_s 24 hB_z dX10_isNumber_22 rfl rfl ?_
        refine z_s 26 hB_z dX10_isNumber_24 rfl rfl ?_
        refine z_callS 29 hB_z hM_z.2.1 kX10_67 dX10_isNumber_26 rfl (c_X10_in (d_z := 0)) (by omega) rfl rfl (Nat.le_of_ble_eq_true rfl) ⟨Nat.le_refl _, Nat.le_refl _⟩ ?_
        rintro _ _ ⟨rfl, rfl⟩
        refine z_b 32 71 hB_z dX10_isNumber_29 rfl rfl (by decide) (fun d_29 => ?_) (fun d_29 => ?_)
        ·
          exact z_eqS (z_wkn (tl (z_u2 (z_u2 (z_u2 (z_I zS) 99 3 0) 99 3 (10 * 0 + z_lt q_z p_z - 48)) 99 2 (nI (p_z + 1))) (0 + 1) hf1 (fun z_z => absurd z_z (by decide)) (fun _ => by rw [z_num1 fn_z (z_fig_n (z_of0 d_29))]; exact ⟨k3_z.trans ((z_ar1 _).trans fy.symm), k2_z, fn_z⟩)) ⟨rfl, rfl, rfl, rfl, rfl, trivial⟩) rfl
        ·
          refine z_s 33 hB_z dX10_isNumber_32 rfl rfl ?_
          refine z_s 35 hB_z dX10_isNumber_33 rfl rfl ?_
          refine z_s 36 hB_z dX10_isNumber_35 rfl rfl ?_
          refine z_getI 39 hB_z fX10_82 (N99 (zS := zS) hN_z) dX10_isNumber_36 rfl rfl ?_
          rw [k3_z]
          refine z_s 40 hB_z dX10_isNumber_39 rfl rfl ?_
          refine z_s 41 hB_z dX10_isNumber_40 rfl rfl ?_
          refine z_s 42 hB_z dX10_isNumber_41 rfl rfl ?_
          refine z_getI 45 hB_z fX10_85 (N99 (zS := zS) hN_z) dX10_isNumber_42 rfl rfl ?_
          rw [k2_z]
          refine z_callV 48 hB_z hM_z.2.1 kX10_88 dX10_isNumber_45 rfl (N99 (zS := zS) hN_z) rfl (c_X10_letterAt (zS := z_pI (z_pI (z_pI zS 99 3 0) 99 3 (10 * 0 + z_lt q_z p_z - 48)) 99 2 (nI (p_z + 1))) (d_z := 0) (q_z := q_z) hN_z ((hf1 99 0 (by unfold z_P23n; omega)).trans hx) h200 (fun k_z hk => (hf1 100 k_z (by unfold z_P23n; omega)).trans (hq k_z hk)) (p_z := p_z + 1) (by omega)) (by omega) rfl rfl (Nat.le_of_ble_eq_true rfl) ⟨Nat.le_refl _, Nat.le_refl _⟩ ?_
          rintro _ _ ⟨rfl, rfl⟩
          refine z_s 49 hB_z dX10_isNumber_48 rfl rfl ?_
          refine z_s 51 hB_z dX10_isNumber_49 rfl rfl ?_
          refine z_s 52 hB_z dX10_isNumber_51 rfl rfl ?_
          refine z_putI 55 hB_z fX10_82 (N99 (zS := zS) hN_z) dX10_isNumber_52 rfl rfl rfl ?_
          refine z_s 56 hB_z dX10_isNumber_55 rfl rfl ?_
          refine z_s 57 hB_z dX10_isNumber_56 rfl rfl ?_
          refine z_getI 60 hB_z fX10_85 (N99 (zS := zS) hN_z) dX10_isNumber_57 rfl rfl ?_
          rw [show z_I (z_pI (z_pI (z_pI (z_pI zS 99 3 0) 99 3 (10 * 0 + z_lt q_z p_z - 48)) 99 2 (nI (p_z + 1))) 99 3 (10 * (10 * 0 + z_lt q_z p_z - 48) + z_lt q_z (p_z + 1) - 48)) 99 2 = nI (p_z + 1) from (z_Ine (Or.inr (by decide))).trans k2_z]
          refine z_s 61 hB_z dX10_isNumber_60 rfl rfl ?_
          refine z_s 62 hB_z dX10_isNumber_61 rfl rfl ?_
          rw [z_inc]
          refine z_putI 65 hB_z fX10_85 (N99 (zS := zS) hN_z) dX10_isNumber_62 rfl rfl rfl ?_
          refine z_s 68 hB_z dX10_isNumber_65 rfl rfl ?_
          refine z_j 8 hB_z dX10_isNumber_68 (by decide) ?_
          refine z_s 10 hB_z dX10_isNumber_8 rfl rfl ?_
          refine z_s 11 hB_z dX10_isNumber_10 rfl rfl ?_
          refine z_b 14 71 hB_z dX10_isNumber_11 rfl rfl (by decide) (fun c_11 => ?_) (fun c_11 => ?_)
          ·
            exact z_eqS (z_wkn (tl (z_u2 (z_u2 (z_u2 (z_u2 (z_u2 (z_I zS) 99 3 0) 99 3 (10 * 0 + z_lt q_z p_z - 48)) 99 2 (nI (p_z + 1))) 99 3 (10 * (10 * 0 + z_lt q_z p_z - 48) + z_lt q_z (p_z + 1) - 48)) 99 2 (nI (p_z + 1 + 1))) (0 + 1 + 1) ((hf1.u2 ⟨rfl, Or.inr rfl⟩).u2 ⟨rfl, Or.inl rfl⟩) (fun z_z => absurd z_z (by decide)) (fun _ => by
              obtain ⟨gy, gn⟩ := z_fig_y (z_of1 d_29)
              have nn := z_num_nn fn_z
              rw [z_num2 fn_z gn] at nn ⊢
              refine ⟨(z_u2_ne (Or.inr (by decide))).trans ((z_u2_same _ _ _ _).trans ?_), z_u2_same _ _ _ _, nn⟩
              rw [z_ar2, z_ar1, fy, gy])) ⟨rfl, rfl, rfl, rfl, rfl, trivial⟩) rfl
          ·
            exact absurd c_11 (by decide)

