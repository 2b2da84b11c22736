/-! the model: its cells, its small methods -/
def z_kLM : List (Nat × Nat) := [(0, 10), (1, 200), (1, 24), (1, 40), (1, 6), (1, 24), (1, 40), (1, 17), (1, 17), (1, 136), (1, 34), (1, 24), (1, 10)]
def z_rLM : List (Nat × Nat × Nat) := [(99, 1, 100), (99, 7, 101), (99, 8, 102), (99, 9, 103), (99, 13, 104), (99, 14, 105), (99, 15, 106), (99, 16, 107), (99, 17, 108), (99, 19, 109), (99, 22, 110), (99, 29, 111)]
def z_LM (zS : z_S) : Prop := (∀ k_z, k_z < 13 → z_kd zS (k_z + 99) = z_kLM.getD k_z (0, 0)) ∧ 108 ≤ z_nx zS ∧ ∀ t_z ∈ z_rLM, z_R zS t_z.1 t_z.2.1 = some t_z.2.2
theorem z_LM_is {zS : z_S} (hN_z : z_LM zS) (k_z : Nat) {q_z : Nat × Nat} (hk : k_z < 13) (hq : z_kLM.getD k_z (0, 0) = q_z) : z_is zS (k_z + 99) q_z := ⟨(hN_z.1 k_z hk).trans hq, by omega, by have := hN_z.2.1; omega⟩
theorem z_LM_r {zS : z_S} (hN_z : z_LM zS) (i_z : Nat) {a_z k_z b_z : Nat} (h_z : z_rLM[i_z]? = some (a_z, k_z, b_z)) : z_R zS a_z k_z = some b_z := hN_z.2.2 (a_z, k_z, b_z) (List.mem_of_getElem? h_z)
theorem z_LM.up {zS : z_S} {f_z : Nat → Nat → Int32} (h_z : z_LM zS) : z_LM (z_up zS f_z) := h_z
theorem z_LM.pI {zS : z_S} {o k_z : Nat} {v_z : Int32} (h_z : z_LM zS) : z_LM (z_pI zS o k_z v_z) := h_z
theorem N99 {zS : z_S} (hN_z : z_LM zS) : z_is zS 99 (0, 10) := z_LM_is hN_z 0 (by decide) rfl
theorem N100 {zS : z_S} (hN_z : z_LM zS) : z_is zS 100 (1, 200) := z_LM_is hN_z 1 (by decide) rfl
theorem N101 {zS : z_S} (hN_z : z_LM zS) : z_is zS 101 (1, 24) := z_LM_is hN_z 2 (by decide) rfl
theorem N102 {zS : z_S} (hN_z : z_LM zS) : z_is zS 102 (1, 40) := z_LM_is hN_z 3 (by decide) rfl
theorem N103 {zS : z_S} (hN_z : z_LM zS) : z_is zS 103 (1, 6) := z_LM_is hN_z 4 (by decide) rfl
theorem N104 {zS : z_S} (hN_z : z_LM zS) : z_is zS 104 (1, 24) := z_LM_is hN_z 5 (by decide) rfl
theorem N105 {zS : z_S} (hN_z : z_LM zS) : z_is zS 105 (1, 40) := z_LM_is hN_z 6 (by decide) rfl
theorem N106 {zS : z_S} (hN_z : z_LM zS) : z_is zS 106 (1, 17) := z_LM_is hN_z 7 (by decide) rfl
theorem N107 {zS : z_S} (hN_z : z_LM zS) : z_is zS 107 (1, 17) := z_LM_is hN_z 8 (by decide) rfl
theorem N108 {zS : z_S} (hN_z : z_LM zS) : z_is zS 108 (1, 136) := z_LM_is hN_z 9 (by decide) rfl
theorem N109 {zS : z_S} (hN_z : z_LM zS) : z_is zS 109 (1, 34) := z_LM_is hN_z 10 (by decide) rfl
theorem N110 {zS : z_S} (hN_z : z_LM zS) : z_is zS 110 (1, 24) := z_LM_is hN_z 11 (by decide) rfl
theorem N111 {zS : z_S} (hN_z : z_LM zS) : z_is zS 111 (1, 10) := z_LM_is hN_z 12 (by decide) rfl
theorem n99_1 {zS : z_S} (hN_z : z_LM zS) : z_R zS 99 1 = some 100 := z_LM_r hN_z 0 rfl
theorem n99_7 {zS : z_S} (hN_z : z_LM zS) : z_R zS 99 7 = some 101 := z_LM_r hN_z 1 rfl
theorem n99_8 {zS : z_S} (hN_z : z_LM zS) : z_R zS 99 8 = some 102 := z_LM_r hN_z 2 rfl
theorem n99_9 {zS : z_S} (hN_z : z_LM zS) : z_R zS 99 9 = some 103 := z_LM_r hN_z 3 rfl
theorem n99_13 {zS : z_S} (hN_z : z_LM zS) : z_R zS 99 13 = some 104 := z_LM_r hN_z 4 rfl
theorem n99_14 {zS : z_S} (hN_z : z_LM zS) : z_R zS 99 14 = some 105 := z_LM_r hN_z 5 rfl
theorem n99_15 {zS : z_S} (hN_z : z_LM zS) : z_R zS 99 15 = some 106 := z_LM_r hN_z 6 rfl
theorem n99_16 {zS : z_S} (hN_z : z_LM zS) : z_R zS 99 16 = some 107 := z_LM_r hN_z 7 rfl
theorem n99_17 {zS : z_S} (hN_z : z_LM zS) : z_R zS 99 17 = some 108 := z_LM_r hN_z 8 rfl
theorem n99_19 {zS : z_S} (hN_z : z_LM zS) : z_R zS 99 19 = some 109 := z_LM_r hN_z 9 rfl
theorem n99_22 {zS : z_S} (hN_z : z_LM zS) : z_R zS 99 22 = some 110 := z_LM_r hN_z 10 rfl
theorem n99_29 {zS : z_S} (hN_z : z_LM zS) : z_R zS 99 29 = some 111 := z_LM_r hN_z 11 rfl

theorem c_X10_in {g_z : z_U} {d_z : Nat} {zS : z_S} {x_z a_z b_z : Int32} : z_C g_z (d_z) 0 0 mX10_in [.int x_z, .int a_z, .int b_z] zS (fun r_z zS' => zS = zS' ∧ r_z = some (.int (if a_z ≤ x_z ∧ x_z ≤ b_z then 1 else 0))) := by
  refine z_enter [some (.int x_z), some (.int a_z), some (.int b_z)] rfl rfl (Nat.le_of_ble_eq_true rfl) rfl (fun zX hM_z => ?_)
  have hB_z : z_B g_z zX RX10 cX10_in 3 := hM_z.1
  refine z_s 1 hB_z dX10_in_0 rfl rfl ?_
  refine z_s 2 hB_z dX10_in_1 rfl rfl ?_
  refine z_b 5 14 hB_z dX10_in_2 rfl rfl (by decide) (fun c_2 => ?_) (fun c_2 => ?_)
  ·
    refine z_s 15 hB_z dX10_in_14 rfl rfl ?_
    refine z_zret hM_z dX10_in_15 rfl (by decide) ?_ rfl rfl
    exact ⟨rfl, by rw [if_neg (fun q_z => z_nlt0 q_z.1 c_2)]⟩
  ·
    refine z_s 6 hB_z dX10_in_5 rfl rfl ?_
    refine z_s 7 hB_z dX10_in_6 rfl rfl ?_
    refine z_b 10 14 hB_z dX10_in_7 rfl rfl (by decide) (fun c_7 => ?_) (fun c_7 => ?_)
    ·
      refine z_s 15 hB_z dX10_in_14 rfl rfl ?_
      refine z_zret hM_z dX10_in_15 rfl (by decide) ?_ rfl rfl
      exact ⟨rfl, by rw [if_neg (fun q_z => z_nlt0 q_z.2 c_7)]⟩
    ·
      refine z_s 11 hB_z dX10_in_10 rfl rfl ?_
      refine z_j 15 hB_z dX10_in_11 (by decide) ?_
      refine z_zret hM_z dX10_in_15 rfl (by decide) ?_ rfl rfl
      exact ⟨rfl, by rw [if_pos ⟨c_2, c_7⟩]⟩

theorem c_X10_has {g_z : z_U} {d_z : Nat} {zS : z_S} {x_z i_z : Int32} : z_C g_z (d_z) 0 0 mX10_has [.int x_z, .int i_z] zS (fun r_z zS' => zS = zS' ∧ r_z = some (.int (if x_z >>> (i_z &&& 31) &&& 1 = 1 then 1 else 0))) := by
  refine z_enter [some (.int x_z), some (.int i_z)] rfl rfl (Nat.le_of_ble_eq_true rfl) rfl (fun zX hM_z => ?_)
  have hB_z : z_B g_z zX RX10 cX10_has 2 := hM_z.1
  refine z_s 1 hB_z dX10_has_0 rfl rfl ?_
  refine z_s 2 hB_z dX10_has_1 rfl rfl ?_
  refine z_s 3 hB_z dX10_has_2 rfl rfl ?_
  refine z_s 4 hB_z dX10_has_3 rfl rfl ?_
  refine z_s 5 hB_z dX10_has_4 rfl rfl ?_
  refine z_s 6 hB_z dX10_has_5 rfl rfl ?_
  refine z_b 9 13 hB_z dX10_has_6 rfl rfl (by decide) (fun c_6 => ?_) (fun c_6 => ?_)
  ·
    refine z_s 14 hB_z dX10_has_13 rfl rfl ?_
    refine z_zret hM_z dX10_has_14 rfl (by decide) ?_ rfl rfl
    exact ⟨rfl, by rw [if_neg c_6]⟩
  ·
    refine z_s 10 hB_z dX10_has_9 rfl rfl ?_
    refine z_j 14 hB_z dX10_has_10 (by decide) ?_
    refine z_zret hM_z dX10_has_14 rfl (by decide) ?_ rfl rfl
    exact ⟨rfl, by rw [if_pos c_6]⟩

/-- how many of the first k bits are set -/
def z_bt (x_z : Int32) : Nat → Int32
  | 0 => 0
  | k_z + 1 => z_bt x_z k_z + (x_z >>> (nI k_z &&& 31) &&& 1)
theorem c_X10_bits {g_z : z_U} {d_z : Nat} {zS : z_S} {x_z : Int32} : z_C g_z (d_z) 0 0 mX10_bits [.int x_z] zS (fun r_z zS' => zS = zS' ∧ r_z = some (.int (z_bt x_z 15))) := by
  refine z_enter [some (.int x_z), none, none] rfl rfl (Nat.le_of_ble_eq_true rfl) rfl (fun zX hM_z => ?_)
  have hB_z : z_B g_z zX RX10 cX10_bits 3 := hM_z.1
  have loop := z_loop (fun k_z => z_W g_z zX 4 [some (.int x_z), some (.int (z_bt x_z k_z)), some (.int (nI k_z))] [] 0 0 zS) 15 (fun k_z hk ih_z => by
    refine z_s 5 hB_z dX10_bits_4 rfl rfl ?_
    refine z_s 7 hB_z dX10_bits_5 rfl rfl ?_
    refine z_b 10 24 hB_z dX10_bits_7 rfl rfl (by decide) (fun c_7 => ?_) (fun c_7 => ?_)
    ·
      have hk2 : k_z = 15 := by
        have := (nI_leI (by omega) (by omega)).mp (show nI 15 ≤ nI k_z from c_7)
        omega
      subst hk2
      refine z_s 25 hB_z dX10_bits_24 rfl rfl ?_
      refine z_iret hM_z dX10_bits_25 rfl ?_ rfl rfl
      exact ⟨rfl, rfl⟩
    ·
      have hk2 : k_z < 15 := (nI_ltI (by omega) (by omega)).mp (show nI k_z < nI 15 from c_7)
      refine z_s 11 hB_z dX10_bits_10 rfl rfl ?_
      refine z_s 12 hB_z dX10_bits_11 rfl rfl ?_
      refine z_s 13 hB_z dX10_bits_12 rfl rfl ?_
      refine z_s 14 hB_z dX10_bits_13 rfl rfl ?_
      refine z_s 15 hB_z dX10_bits_14 rfl rfl ?_
      refine z_s 16 hB_z dX10_bits_15 rfl rfl ?_
      refine z_s 17 hB_z dX10_bits_16 rfl rfl ?_
      refine z_s 18 hB_z dX10_bits_17 rfl rfl ?_
      refine z_s 21 hB_z dX10_bits_18 rfl rfl ?_
      refine z_j 4 hB_z dX10_bits_21 (by decide) ?_
      exact z_wkn (ih_z hk2) ⟨rfl, rfl, congrArg (fun q_z => some (Value.int q_z)) (z_inc k_z), trivial⟩) 0 (Nat.zero_le _)
  refine z_s 1 hB_z dX10_bits_0 rfl rfl ?_
  refine z_s 2 hB_z dX10_bits_1 rfl rfl ?_
  refine z_s 3 hB_z dX10_bits_2 rfl rfl ?_
  refine z_s 4 hB_z dX10_bits_3 rfl rfl ?_
  exact loop

theorem z_lm1 {n_z : Nat} {s_z : Int32} (hn : n_z ≤ 10) (h_z : 0 ≤ s_z ∧ s_z ≤ nI n_z - 1) : z_in s_z n_z := by
  rcases n_z with - | n_z
  · exact absurd (Int32.le_trans h_z.1 h_z.2) (by decide)
  · rw [z_nIp] at h_z
    exact ⟨h_z.1, Int32.lt_of_le_of_lt h_z.2 ((nI_ltI (by omega) (by omega)).mpr (Nat.lt_succ_self n_z))⟩
theorem z_lm2 {n_z : Nat} {s_z : Int32} (hn : n_z ≤ 10) (h_z : z_in s_z n_z) : 0 ≤ s_z ∧ s_z ≤ nI n_z - 1 := by
  obtain ⟨j_z, hj, rfl⟩ := h_z.of (by omega)
  rcases n_z with - | n_z
  · omega
  · rw [z_nIp]
    exact ⟨h_z.1, (nI_leI (by omega) (by omega)).mpr (by omega)⟩
theorem c_X10_isOne {g_z : z_U} {d_z : Nat} {zS : z_S} (hN_z : z_LM zS) {n_z : Nat} (hn : z_I zS 99 10 = nI n_z) (hn0 : n_z ≤ 10) {s_z : Int32} : z_C g_z (d_z + 1) 0 0 mX10_isOne [.ref 99, .int s_z] zS (fun r_z zS' => zS = zS' ∧ ∃ v_z : Int32, r_z = some (.int v_z) ∧ (v_z = 0 ∧ ¬ z_in s_z n_z ∨ v_z = 1 ∧ z_in s_z n_z)) := by
  refine z_enter [some (.ref 99), some (.int s_z)] rfl rfl (Nat.le_of_ble_eq_true rfl) rfl (fun zX hM_z => ?_)
  have hB_z : z_B g_z zX RX10 cX10_isOne 2 := hM_z.1
  refine z_s 1 hB_z dX10_isOne_0 rfl rfl ?_
  refine z_s 2 hB_z dX10_isOne_1 rfl rfl ?_
  refine z_s 3 hB_z dX10_isOne_2 rfl rfl ?_
  refine z_getI 6 hB_z fX10_50 (N99 (zS := zS) hN_z) dX10_isOne_3 rfl rfl ?_
  rw [hn]
  refine z_s 7 hB_z dX10_isOne_6 rfl rfl ?_
  refine z_s 8 hB_z dX10_isOne_7 rfl rfl ?_
  refine z_callS 11 hB_z hM_z.2.1 kX10_67 dX10_isOne_8 rfl (c_X10_in (d_z := 0)) (by omega) rfl rfl (Nat.le_of_ble_eq_true rfl) ⟨Nat.le_refl _, Nat.le_refl _⟩ ?_
  rintro _ _ ⟨rfl, rfl⟩
  refine z_zret hM_z dX10_isOne_11 rfl z_b01 ?_ rfl rfl
  by_cases h_z : 0 ≤ s_z ∧ s_z ≤ nI n_z - 1
  · exact ⟨rfl, 1, by rw [if_pos h_z], Or.inr ⟨rfl, z_lm1 hn0 h_z⟩⟩
  · exact ⟨rfl, 0, by rw [if_neg h_z], Or.inl ⟨rfl, fun q_z => h_z (z_lm2 hn0 q_z)⟩⟩

theorem c_X10_isGuest {g_z : z_U} {d_z : Nat} {zS : z_S} (hN_z : z_LM zS) {n_z : Nat} (hn : z_I zS 99 11 = nI n_z) (hn0 : n_z ≤ 10) {s_z : Int32} : z_C g_z (d_z + 1) 0 0 mX10_isGuest [.ref 99, .int s_z] zS (fun r_z zS' => zS = zS' ∧ ∃ v_z : Int32, r_z = some (.int v_z) ∧ (v_z = 0 ∧ ¬ z_in s_z n_z ∨ v_z = 1 ∧ z_in s_z n_z)) := by
  refine z_enter [some (.ref 99), some (.int s_z)] rfl rfl (Nat.le_of_ble_eq_true rfl) rfl (fun zX hM_z => ?_)
  have hB_z : z_B g_z zX RX10 cX10_isGuest 2 := hM_z.1
  refine z_s 1 hB_z dX10_isGuest_0 rfl rfl ?_
  refine z_s 2 hB_z dX10_isGuest_1 rfl rfl ?_
  refine z_s 3 hB_z dX10_isGuest_2 rfl rfl ?_
  refine z_getI 6 hB_z fX10_61 (N99 (zS := zS) hN_z) dX10_isGuest_3 rfl rfl ?_
  rw [hn]
  refine z_s 7 hB_z dX10_isGuest_6 rfl rfl ?_
  refine z_s 8 hB_z dX10_isGuest_7 rfl rfl ?_
  refine z_callS 11 hB_z hM_z.2.1 kX10_67 dX10_isGuest_8 rfl (c_X10_in (d_z := 0)) (by omega) rfl rfl (Nat.le_of_ble_eq_true rfl) ⟨Nat.le_refl _, Nat.le_refl _⟩ ?_
  rintro _ _ ⟨rfl, rfl⟩
  refine z_zret hM_z dX10_isGuest_11 rfl z_b01 ?_ rfl rfl
  by_cases h_z : 0 ≤ s_z ∧ s_z ≤ nI n_z - 1
  · exact ⟨rfl, 1, by rw [if_pos h_z], Or.inr ⟨rfl, z_lm1 hn0 h_z⟩⟩
  · exact ⟨rfl, 0, by rw [if_neg h_z], Or.inl ⟨rfl, fun q_z => h_z (z_lm2 hn0 q_z)⟩⟩

/-- n numbers of A from i on go to B from j on -/
def z_cpy (zI : Nat → Nat → Int32) (A_z i_z B_z j_z n_z : Nat) : Nat → Nat → Int32 := fun o k_z => if o = B_z ∧ j_z ≤ k_z ∧ k_z < j_z + n_z then zI A_z (i_z + (k_z - j_z)) else zI o k_z
theorem z_cpy_0 {zI : Nat → Nat → Int32} {A_z i_z B_z j_z : Nat} : z_cpy zI A_z i_z B_z j_z 0 = zI := by
  funext o k_z
  exact if_neg (by omega)
theorem z_cpy_in {zI : Nat → Nat → Int32} {A_z i_z B_z j_z n_z k_z : Nat} (h_z : j_z ≤ k_z ∧ k_z < j_z + n_z) : z_cpy zI A_z i_z B_z j_z n_z B_z k_z = zI A_z (i_z + (k_z - j_z)) := if_pos ⟨rfl, h_z⟩
theorem z_cpy_out {zI : Nat → Nat → Int32} {A_z i_z B_z j_z n_z o k_z : Nat} (h_z : ¬ (o = B_z ∧ j_z ≤ k_z ∧ k_z < j_z + n_z)) : z_cpy zI A_z i_z B_z j_z n_z o k_z = zI o k_z := if_neg h_z
theorem z_cpy_succ {zI : Nat → Nat → Int32} {A_z i_z B_z j_z n_z : Nat} (h_z : A_z ≠ B_z ∨ j_z ≤ i_z) : z_u2 (z_cpy zI A_z i_z B_z j_z n_z) B_z (j_z + n_z) (z_cpy zI A_z i_z B_z j_z n_z A_z (i_z + n_z)) = z_cpy zI A_z i_z B_z j_z (n_z + 1) := by
  have e0_z : z_cpy zI A_z i_z B_z j_z n_z A_z (i_z + n_z) = zI A_z (i_z + n_z) := z_cpy_out (by omega)
  rw [e0_z]
  funext o k_z
  by_cases e_z : o = B_z ∧ k_z = j_z + n_z
  · rw [e_z.1, e_z.2, z_u2_same, z_cpy_in (by omega), show j_z + n_z - j_z = n_z by omega]
  · rw [z_u2_ne (by omega)]
    by_cases q_z : o = B_z ∧ j_z ≤ k_z ∧ k_z < j_z + n_z
    · rw [q_z.1, z_cpy_in q_z.2, z_cpy_in (by omega)]
    · rw [z_cpy_out q_z, z_cpy_out (by omega)]
theorem z_nIa (a_z b_z : Nat) : nI a_z + nI b_z = nI (a_z + b_z) := nI_add a_z b_z
theorem z_eqS {g_z : z_U} {zX : z_X} {pc : Nat} {ls : List (Option Value)} {st_z : List Value} {cl_z sl_z : Nat} {zS S2 : z_S} (h_z : z_W g_z zX pc ls st_z cl_z sl_z S2) (h1 : zS = S2) : z_W g_z zX pc ls st_z cl_z sl_z zS := by
  subst h1; exact h_z
theorem c_X10_bring {g_z : z_U} {d_z : Nat} {zS : z_S} {A_z i_z B_z j_z n_z NA NB : Nat} (hA : z_is zS A_z (1, NA)) (hB2 : z_is zS B_z (1, NB)) (hab : A_z ≠ B_z ∨ j_z ≤ i_z) (hi_z : i_z + n_z ≤ NA) (hj : j_z + n_z ≤ NB) (hNA : NA < 2 ^ 30) (hNB : NB < 2 ^ 30) : z_C g_z (d_z) 0 0 mX10_bring [.ref A_z, .int (nI i_z), .ref B_z, .int (nI j_z), .int (nI n_z)] zS (fun r_z zS' => r_z = none ∧ z_up zS (z_cpy (z_I zS) A_z i_z B_z j_z n_z) = zS') := by
  refine z_enter [some (.ref A_z), some (.int (nI i_z)), some (.ref B_z), some (.int (nI j_z)), some (.int (nI n_z)), none] rfl rfl (Nat.le_of_ble_eq_true rfl) rfl (fun zX hM_z => ?_)
  have hB_z : z_B g_z zX RX10 cX10_bring 6 := hM_z.1
  have loop := z_loop (fun k_z => z_W g_z zX 3 [some (.ref A_z), some (.int (nI i_z)), some (.ref B_z), some (.int (nI j_z)), some (.int (nI n_z)), some (.int (nI k_z))] [] 0 0 (z_up zS (z_cpy (z_I zS) A_z i_z B_z j_z k_z))) n_z (fun k_z hk ih_z => by
    refine z_s 5 hB_z dX10_bring_3 rfl rfl ?_
    refine z_s 7 hB_z dX10_bring_5 rfl rfl ?_
    refine z_b 10 28 hB_z dX10_bring_7 rfl rfl (by decide) (fun c_7 => ?_) (fun c_7 => ?_)
    ·
      have hk2 : k_z = n_z := by
        have := (nI_leI (by omega) (by omega)).mp (show nI n_z ≤ nI k_z from c_7)
        omega
      subst hk2
      refine z_vret hM_z dX10_bring_28 rfl ?_ rfl rfl
      exact ⟨rfl, rfl⟩
    ·
      have hk2 : k_z < n_z := (nI_ltI (by omega) (by omega)).mp (show nI k_z < nI n_z from c_7)
      refine z_s 11 hB_z dX10_bring_10 rfl rfl ?_
      refine z_s 12 hB_z dX10_bring_11 rfl rfl ?_
      refine z_s 14 hB_z dX10_bring_12 rfl rfl ?_
      refine z_s 15 hB_z dX10_bring_14 rfl rfl ?_
      refine z_s 16 hB_z dX10_bring_15 rfl rfl ?_
      refine z_s 17 hB_z dX10_bring_16 rfl rfl ?_
      refine z_s 19 hB_z dX10_bring_17 rfl rfl ?_
      refine z_s 20 hB_z dX10_bring_19 rfl rfl ?_
      rw [z_nIa, z_nIa]
      refine z_ald 21 hB_z hA dX10_bring_20 rfl (vp_in_nI (show i_z + k_z < NA by omega) (by omega)) ?_
      rw [nI_clamp (show i_z + k_z < 2 ^ 31 by omega)]
      refine z_ast 22 hB_z hB2 dX10_bring_21 rfl (vp_in_nI (show j_z + k_z < NB by omega) (by omega)) ?_
      rw [nI_clamp (show j_z + k_z < 2 ^ 31 by omega)]
      refine z_s 25 hB_z dX10_bring_22 rfl rfl ?_
      refine z_j 3 hB_z dX10_bring_25 (by decide) ?_
      exact z_eqS (z_wkn (ih_z hk2) ⟨rfl, rfl, rfl, rfl, rfl, congrArg (fun q_z => some (Value.int q_z)) (z_inc k_z), trivial⟩) (congrArg (fun f_z => z_up zS f_z) (z_cpy_succ hab))) 0 (Nat.zero_le _)
  rw [z_cpy_0] at loop
  refine z_s 1 hB_z dX10_bring_0 rfl rfl ?_
  refine z_s 3 hB_z dX10_bring_1 rfl rfl ?_
  exact loop

theorem c_X10_letterAt {g_z : z_U} {d_z : Nat} {zS : z_S} {q_z : (Nat → Int32) × Nat} (hN_z : z_LM zS) (hx : z_I zS 99 0 = nI q_z.2) (h200 : q_z.2 ≤ 200) (hq : ∀ k_z, k_z < q_z.2 → z_I zS 100 k_z = q_z.1 k_z) {p_z : Nat} (hp : p_z < 1000) : z_C g_z (d_z) 0 0 mX10_letterAt [.ref 99, .int (nI p_z)] zS (fun r_z zS' => zS = zS' ∧ r_z = some (.int (z_lt q_z p_z))) := by
  refine z_enter [some (.ref 99), some (.int (nI p_z))] rfl rfl (Nat.le_of_ble_eq_true rfl) rfl (fun zX hM_z => ?_)
  have hB_z : z_B g_z zX RX10 cX10_letterAt 2 := hM_z.1
  refine z_s 1 hB_z dX10_letterAt_0 rfl rfl ?_
  refine z_s 2 hB_z dX10_letterAt_1 rfl rfl ?_
  refine z_getI 5 hB_z fX10_79 (N99 (zS := zS) hN_z) dX10_letterAt_2 rfl rfl ?_
  rw [hx]
  refine z_b 8 17 hB_z dX10_letterAt_5 rfl rfl (by decide) (fun c_5 => ?_) (fun c_5 => ?_)
  ·
    have hlt : ¬ p_z < q_z.2 := by
      have := (nI_leI (by omega) (by omega)).mp (show nI q_z.2 ≤ nI p_z from c_5)
      omega
    refine z_s 18 hB_z dX10_letterAt_17 rfl rfl ?_
    refine z_iret hM_z dX10_letterAt_18 rfl ?_ rfl rfl
    exact ⟨rfl, by unfold z_lt; rw [if_neg hlt]⟩
  ·
    have hlt : p_z < q_z.2 := (nI_ltI (by omega) (by omega)).mp (show nI p_z < nI q_z.2 from c_5)
    refine z_s 9 hB_z dX10_letterAt_8 rfl rfl ?_
    refine z_getR 12 hB_z fX10_7 (N99 (zS := zS) hN_z) dX10_letterAt_9 rfl rfl (n99_1 (zS := zS) hN_z) ?_
    refine z_s 13 hB_z dX10_letterAt_12 rfl rfl ?_
    refine z_ald 14 hB_z (N100 (zS := zS) hN_z) dX10_letterAt_13 rfl (vp_in_nI (show p_z < 200 by omega) (by decide)) ?_
    rw [nI_clamp (by omega), hq p_z hlt]
    refine z_j 18 hB_z dX10_letterAt_14 (by decide) ?_
    refine z_iret hM_z dX10_letterAt_18 rfl ?_ rfl rfl
    exact ⟨rfl, by unfold z_lt; rw [if_pos hlt]⟩

