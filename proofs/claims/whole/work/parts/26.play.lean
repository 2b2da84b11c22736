/-! the night -/
theorem z_hb_if {x_z : Int32} {i_z : Nat} {a_z b_z : Int32} : (if z_hb x_z i_z = true then a_z else b_z) = if x_z >>> (nI i_z &&& 31) &&& 1 = 1 then a_z else b_z := by
  unfold z_hb
  by_cases h_z : x_z >>> (nI i_z &&& 31) &&& 1 = 1
  · rw [if_pos (decide_eq_true h_z), if_pos h_z]
  · rw [if_neg (by rw [decide_eq_false h_z]; exact Bool.false_ne_true), if_neg h_z]
theorem z_bit01 (y_z : Int32) : y_z &&& 1 = 0 ∨ y_z &&& 1 = 1 := by
  have h_z : ∀ b_z : BitVec 32, b_z &&& 1#32 = 0#32 ∨ b_z &&& 1#32 = 1#32 := by
    intro b_z
    rcases Nat.mod_two_eq_zero_or_one b_z.toNat with h_z | h_z
    · exact Or.inl (BitVec.eq_of_toNat_eq (by rw [BitVec.toNat_and]; show b_z.toNat &&& 1 = 0; rw [Nat.and_one_is_mod]; exact h_z))
    · exact Or.inr (BitVec.eq_of_toNat_eq (by rw [BitVec.toNat_and]; show b_z.toNat &&& 1 = 1; rw [Nat.and_one_is_mod]; exact h_z))
  rcases h_z y_z.toBitVec with h_z | h_z
  · exact Or.inl (Int32.toBitVec_inj.mp h_z)
  · exact Or.inr (Int32.toBitVec_inj.mp h_z)
theorem z_b01 {p_z : Prop} [h_z : Decidable p_z] : (if p_z then (1 : Int32) else 0) &&& 1 = if p_z then 1 else 0 := by
  by_cases h_z : p_z
  · rw [if_pos h_z]; rfl
  · rw [if_neg h_z]; rfl
theorem z_if0 {b_z : Bool} (h_z : (if b_z = true then (1 : Int32) else 0) = 0) : b_z = false := by
  cases b_z
  · rfl
  · exact absurd h_z (by decide)
theorem z_if1 {b_z : Bool} (h_z : ¬ (if b_z = true then (1 : Int32) else 0) = 0) : b_z = true := by
  cases b_z
  · exact absurd rfl h_z
  · rfl
theorem c_has {g_z : z_U} {d_z : Nat} {zS : z_S} {x_z : Int32} {i_z : Nat} : z_C g_z d_z 0 0 mX9_has [.int x_z, .int (nI i_z)] zS (fun r_z zS' => zS = zS' ∧ r_z = some (.int (if z_hb x_z i_z = true then 1 else 0))) := by
  rw [z_hb_if]
  exact c_X9_has
theorem c_bit {g_z : z_U} {d_z : Nat} {zS : z_S} {x_z : Int32} {i_z : Nat} : z_C g_z d_z 0 0 mX9_bit [.int x_z, .int (nI i_z)] zS (fun r_z zS' => zS = zS' ∧ r_z = some (.int (if z_hb x_z i_z = true then 1 else 0))) := by
  have e_z : (if z_hb x_z i_z = true then (1 : Int32) else 0) = x_z >>> (nI i_z &&& 31) &&& 1 := by
    rw [z_hb_if]
    rcases z_bit01 (x_z >>> (nI i_z &&& 31)) with h_z | h_z
    · rw [h_z]; rfl
    · rw [h_z]; rfl
  rw [e_z]
  exact c_X9_bit
theorem z_rdI {zI : Nat → Nat → Int32} {a_z n_z k_z : Nat} (hk : k_z < n_z) (hn : n_z < 2 ^ 31) : z_rd zI a_z n_z (nI k_z) = zI a_z k_z := by
  unfold z_rd
  rw [if_pos ⟨nI_pos' (by omega), (nI_ltI (by omega) hn).mpr hk⟩, nI_clamp (by omega)]
theorem c_at {g_z : z_U} {d_z : Nat} {zS : z_S} {o a_z n_z k_z : Nat} (hr : z_row zS o a_z n_z) (hn : n_z < 2 ^ 31) (hk : k_z < n_z) : z_C g_z d_z 0 0 mX3_at [.ref o, .int (nI k_z)] zS (fun r_z zS' => zS = zS' ∧ r_z = some (.int (z_I zS a_z k_z))) := by
  have h_z := c_X3_at (g_z := g_z) (d_z := d_z) hr hn (i_z := nI k_z)
  rw [z_rdI hk hn] at h_z
  exact h_z
theorem c_put {g_z : z_U} {d_z : Nat} {zS : z_S} {o a_z n_z k_z : Nat} {v_z : Int32} (hr : z_row zS o a_z n_z) (hn : n_z < 2 ^ 31) (hk : k_z < n_z) : z_C g_z d_z 0 0 mX3_put [.ref o, .int (nI k_z), .int v_z] zS (fun r_z zS' => r_z = none ∧ z_pI zS a_z k_z v_z = zS') := by
  have h_z := c_X3_put (g_z := g_z) (d_z := d_z) hr hn (i_z := nI k_z) (v_z := v_z)
  rw [if_pos ⟨nI_pos' (by omega), (nI_ltI (by omega) hn).mpr hk⟩, nI_clamp (by omega)] at h_z
  have e_z : (fun (r_z : Option Value) (zS' : z_S) => r_z = none ∧ z_pI zS a_z k_z v_z = zS') = fun r_z zS' => r_z = none ∧ zS' = z_pI zS a_z k_z v_z := by
    funext r_z zS'
    exact propext ⟨fun q_z => ⟨q_z.1, q_z.2.symm⟩, fun q_z => ⟨q_z.1, q_z.2.symm⟩⟩
  rw [e_z]
  exact h_z
theorem c_pair {g_z : z_U} {d_z : Nat} {zS : z_S} {a_z b_z : Nat} (h_z : a_z < b_z) (hb_z : b_z < 6) : z_C g_z d_z 0 0 mX9_pair [.int (nI a_z), .int (nI b_z)] zS (fun r_z zS' => zS = zS' ∧ r_z = some (.int (nI (6 * a_z + b_z)))) := by
  have e_z := c_X9_pair (g_z := g_z) (zS := zS) (d_z := d_z) (a_z := nI a_z) (b_z := nI b_z)
  rw [if_pos ((nI_ltI (by omega) (by omega)).mpr h_z)] at e_z
  have e2_z : 6 * nI a_z + nI b_z = nI (6 * a_z + b_z) := by
    have e3_z : ∀ a_z, a_z < 6 → ∀ b_z, b_z < 6 → 6 * nI a_z + nI b_z = nI (6 * a_z + b_z) := by decide +kernel
    exact e3_z a_z (by omega) b_z hb_z
  rw [e2_z] at e_z
  exact e_z
theorem z_bar_mono {w_z Q_z : Int32} {s_z l m_z : Nat} (h_z : z_bar w_z Q_z s_z l = true) (hm_z : l ≤ m_z) : z_bar w_z Q_z s_z m_z = true := by
  induction m_z with
  | zero => rw [show l = 0 by omega] at h_z; exact h_z
  | succ m_z ih_z =>
    rcases Nat.lt_or_ge m_z l with q_z | q_z
    · rw [show l = m_z + 1 by omega] at h_z; exact h_z
    · unfold z_bar; rw [ih_z q_z]; rfl
theorem z_rd_V2 {zI : Nat → Nat → Int32} {zV : z_V} (hV : z_rV zI 7 zV) (i_z : Int32) : z_rd zI 25 6 i_z = z_rd zV.1 8 6 i_z := by
  unfold z_rd
  by_cases h_z : 0 ≤ i_z ∧ i_z < nI 6
  · rw [if_pos h_z, if_pos h_z]
    obtain ⟨j_z, hj, rfl⟩ := nI_of (z_nlt0 h_z.1)
    have h6 := (nI_ltI hj (by decide)).mp h_z.2
    rw [nI_clamp hj]
    exact hV.1 8 (by decide) j_z (by unfold z_vl; exact h6)
  · rw [if_neg h_z, if_neg h_z]
theorem z_rN_w {zI : Nat → Nat → Int32} {w_z v_z : Int32} {D_z : z_N} (h_z : z_rN zI w_z D_z) : z_rN (z_u2 zI 48 2 v_z) v_z D_z := by
  obtain ⟨h1, h2, h3, h4, h5, h6, h7, h8⟩ := h_z
  exact ⟨z_u2_same _ _ _ _, (z_u2_ne (Or.inr (by decide))).trans h2, (z_u2_ne (Or.inr (by decide))).trans h3, (z_u2_ne (Or.inr (by decide))).trans h4, (z_u2_ne (Or.inr (by decide))).trans h5, (z_u2_ne (Or.inr (by decide))).trans h6, (z_u2_ne (Or.inr (by decide))).trans h7, fun c_z hc_z => (z_u2_ne (Or.inl (by decide))).trans (h8 c_z hc_z)⟩
theorem z_rN_K {zI : Nat → Nat → Int32} {w_z v_z : Int32} {D_z : z_N} (h_z : z_rN zI w_z D_z) : z_rN (z_u2 zI 48 3 v_z) w_z (v_z, D_z.2) := by
  obtain ⟨h1, h2, h3, h4, h5, h6, h7, h8⟩ := h_z
  exact ⟨(z_u2_ne (Or.inr (by decide))).trans h1, z_u2_same _ _ _ _, (z_u2_ne (Or.inr (by decide))).trans h3, (z_u2_ne (Or.inr (by decide))).trans h4, (z_u2_ne (Or.inr (by decide))).trans h5, (z_u2_ne (Or.inr (by decide))).trans h6, (z_u2_ne (Or.inr (by decide))).trans h7, fun c_z hc_z => (z_u2_ne (Or.inl (by decide))).trans (h8 c_z hc_z)⟩
theorem z_rN_sv {zI : Nat → Nat → Int32} {w_z v_z : Int32} {D_z : z_N} (h_z : z_rN zI w_z D_z) : z_rN (z_u2 zI 48 4 v_z) w_z (D_z.1, v_z, D_z.2.2) := by
  obtain ⟨h1, h2, h3, h4, h5, h6, h7, h8⟩ := h_z
  exact ⟨(z_u2_ne (Or.inr (by decide))).trans h1, (z_u2_ne (Or.inr (by decide))).trans h2, z_u2_same _ _ _ _, (z_u2_ne (Or.inr (by decide))).trans h4, (z_u2_ne (Or.inr (by decide))).trans h5, (z_u2_ne (Or.inr (by decide))).trans h6, (z_u2_ne (Or.inr (by decide))).trans h7, fun c_z hc_z => (z_u2_ne (Or.inl (by decide))).trans (h8 c_z hc_z)⟩
theorem z_rN_hm {zI : Nat → Nat → Int32} {w_z v_z : Int32} {D_z : z_N} (h_z : z_rN zI w_z D_z) : z_rN (z_u2 zI 48 5 v_z) w_z (D_z.1, D_z.2.1, v_z, D_z.2.2.2) := by
  obtain ⟨h1, h2, h3, h4, h5, h6, h7, h8⟩ := h_z
  exact ⟨(z_u2_ne (Or.inr (by decide))).trans h1, (z_u2_ne (Or.inr (by decide))).trans h2, (z_u2_ne (Or.inr (by decide))).trans h3, z_u2_same _ _ _ _, (z_u2_ne (Or.inr (by decide))).trans h5, (z_u2_ne (Or.inr (by decide))).trans h6, (z_u2_ne (Or.inr (by decide))).trans h7, fun c_z hc_z => (z_u2_ne (Or.inl (by decide))).trans (h8 c_z hc_z)⟩
theorem z_rN_fi {zI : Nat → Nat → Int32} {w_z v_z : Int32} {D_z : z_N} (h_z : z_rN zI w_z D_z) : z_rN (z_u2 zI 48 6 v_z) w_z (D_z.1, D_z.2.1, D_z.2.2.1, v_z, D_z.2.2.2.2) := by
  obtain ⟨h1, h2, h3, h4, h5, h6, h7, h8⟩ := h_z
  exact ⟨(z_u2_ne (Or.inr (by decide))).trans h1, (z_u2_ne (Or.inr (by decide))).trans h2, (z_u2_ne (Or.inr (by decide))).trans h3, (z_u2_ne (Or.inr (by decide))).trans h4, z_u2_same _ _ _ _, (z_u2_ne (Or.inr (by decide))).trans h6, (z_u2_ne (Or.inr (by decide))).trans h7, fun c_z hc_z => (z_u2_ne (Or.inl (by decide))).trans (h8 c_z hc_z)⟩
theorem z_rN_ti {zI : Nat → Nat → Int32} {w_z v_z : Int32} {D_z : z_N} (h_z : z_rN zI w_z D_z) : z_rN (z_u2 zI 48 7 v_z) w_z (D_z.1, D_z.2.1, D_z.2.2.1, D_z.2.2.2.1, v_z, D_z.2.2.2.2.2) := by
  obtain ⟨h1, h2, h3, h4, h5, h6, h7, h8⟩ := h_z
  exact ⟨(z_u2_ne (Or.inr (by decide))).trans h1, (z_u2_ne (Or.inr (by decide))).trans h2, (z_u2_ne (Or.inr (by decide))).trans h3, (z_u2_ne (Or.inr (by decide))).trans h4, (z_u2_ne (Or.inr (by decide))).trans h5, z_u2_same _ _ _ _, (z_u2_ne (Or.inr (by decide))).trans h7, fun c_z hc_z => (z_u2_ne (Or.inl (by decide))).trans (h8 c_z hc_z)⟩
theorem z_rN_dr {zI : Nat → Nat → Int32} {w_z v_z : Int32} {D_z : z_N} (h_z : z_rN zI w_z D_z) : z_rN (z_u2 zI 48 8 v_z) w_z (D_z.1, D_z.2.1, D_z.2.2.1, D_z.2.2.2.1, D_z.2.2.2.2.1, v_z, D_z.2.2.2.2.2.2) := by
  obtain ⟨h1, h2, h3, h4, h5, h6, h7, h8⟩ := h_z
  exact ⟨(z_u2_ne (Or.inr (by decide))).trans h1, (z_u2_ne (Or.inr (by decide))).trans h2, (z_u2_ne (Or.inr (by decide))).trans h3, (z_u2_ne (Or.inr (by decide))).trans h4, (z_u2_ne (Or.inr (by decide))).trans h5, (z_u2_ne (Or.inr (by decide))).trans h6, z_u2_same _ _ _ _, fun c_z hc_z => (z_u2_ne (Or.inl (by decide))).trans (h8 c_z hc_z)⟩
theorem z_rN_se {zI : Nat → Nat → Int32} {w_z v_z : Int32} {D_z : z_N} {k_z : Nat} (h_z : z_rN zI w_z D_z) : z_rN (z_u2 zI 50 k_z v_z) w_z (D_z.1, D_z.2.1, D_z.2.2.1, D_z.2.2.2.1, D_z.2.2.2.2.1, D_z.2.2.2.2.2.1, fun q_z => if q_z = k_z then v_z else D_z.2.2.2.2.2.2 q_z) := by
  obtain ⟨h1, h2, h3, h4, h5, h6, h7, h8⟩ := h_z
  have e_z : ∀ j_z, z_u2 zI 50 k_z v_z 48 j_z = zI 48 j_z := fun j_z => z_u2_ne (Or.inl (by decide))
  refine ⟨(e_z 2).trans h1, (e_z 3).trans h2, (e_z 4).trans h3, (e_z 5).trans h4, (e_z 6).trans h5, (e_z 7).trans h6, (e_z 8).trans h7, fun c_z hc_z => ?_⟩
  by_cases q_z : c_z = k_z
  · subst q_z; rw [z_u2_same]; simp
  · rw [z_u2_ne (Or.inr q_z), h8 c_z hc_z]; simp [q_z]
theorem c_X1_isReadyFor {g_z : z_U} {d_z : Nat} {zS : z_S} (hL : z_L zS) {s_z : Nat} {th : Int32} : z_C g_z (d_z + 1) 0 0 mX1_isReadyFor [.ref 48, .int (nI s_z), .int th] zS (fun r_z zS' => zS = zS' ∧ r_z = some (.int (if z_hb (z_I zS 48 2 &&& (z_I zS 48 3 ^^^ -1) &&& z_rd (z_I zS) 25 6 th) s_z = true then 1 else 0))) := by
  refine z_enter [some (.ref 48), some (.int (nI s_z)), some (.int th)] rfl rfl (Nat.le_of_ble_eq_true rfl) rfl (fun zX hM_z => ?_)
  have hB_z : z_B g_z zX RX1 cX1_isReadyFor 3 := hM_z.1
  refine z_s 1 hB_z dX1_isReadyFor_0 rfl rfl ?_
  refine z_getI 4 hB_z fX1_43 (L48 (zS := zS) hL) dX1_isReadyFor_1 rfl rfl ?_
  refine z_s 5 hB_z dX1_isReadyFor_4 rfl rfl ?_
  refine z_getI 8 hB_z fX1_46 (L48 (zS := zS) hL) dX1_isReadyFor_5 rfl rfl ?_
  refine z_s 9 hB_z dX1_isReadyFor_8 rfl rfl ?_
  refine z_s 10 hB_z dX1_isReadyFor_9 rfl rfl ?_
  refine z_s 11 hB_z dX1_isReadyFor_10 rfl rfl ?_
  refine z_s 12 hB_z dX1_isReadyFor_11 rfl rfl ?_
  refine z_getR 15 hB_z fX1_20 (L48 (zS := zS) hL) dX1_isReadyFor_12 rfl rfl (r48_0 (zS := zS) hL) ?_
  refine z_getR 18 hB_z fX1_109 (L7 (zS := zS) hL) dX1_isReadyFor_15 rfl rfl (r7_8 (zS := zS) hL) ?_
  refine z_s 19 hB_z dX1_isReadyFor_18 rfl rfl ?_
  refine z_callV 22 hB_z hM_z.2.1 kX1_76 dX1_isReadyFor_19 rfl (L24 (zS := zS) hL) rfl (c_X3_at (d_z := 0) (w24 (zS := zS) hL) (by decide)) (by omega) rfl rfl (Nat.le_of_ble_eq_true rfl) ⟨Nat.le_refl _, Nat.le_refl _⟩ ?_
  rintro _ _ ⟨rfl, rfl⟩
  refine z_s 23 hB_z dX1_isReadyFor_22 rfl rfl ?_
  refine z_s 24 hB_z dX1_isReadyFor_23 rfl rfl ?_
  refine z_callS 27 hB_z hM_z.2.1 kX1_83 dX1_isReadyFor_24 rfl (c_has (d_z := 0)) (by omega) rfl rfl (Nat.le_of_ble_eq_true rfl) ⟨Nat.le_refl _, Nat.le_refl _⟩ ?_
  rintro _ _ ⟨rfl, rfl⟩
  refine z_zret hM_z dX1_isReadyFor_27 rfl z_b01 ?_ rfl rfl
  exact ⟨rfl, rfl⟩

theorem c_X1_isBarred {g_z : z_U} {d_z : Nat} {zS : z_S} (hL : z_L zS) {s_z : Nat} (hs : s_z < 6) {Q_z : Int32} : z_C g_z (d_z + 1) 0 0 mX1_isBarred [.ref 48, .int (nI s_z), .int Q_z] zS (fun r_z zS' => zS = zS' ∧ r_z = some (.int (if z_bar (z_I zS 48 2) Q_z s_z s_z = true then 1 else 0))) := by
  refine z_enter [some (.ref 48), some (.int (nI s_z)), some (.int Q_z), none] rfl rfl (Nat.le_of_ble_eq_true rfl) rfl (fun zX hM_z => ?_)
  have hB_z : z_B g_z zX RX1 cX1_isBarred 4 := hM_z.1
  have loop := z_loop (fun j_z => z_bar (z_I zS 48 2) Q_z s_z j_z = false → z_W g_z zX 2 [some (.ref 48), some (.int (nI s_z)), some (.int Q_z), some (.int (nI j_z))] [] 0 0 zS) s_z (fun j_z hj ih_z hb_z => by
    refine z_s 3 hB_z dX1_isBarred_2 rfl rfl ?_
    refine z_s 4 hB_z dX1_isBarred_3 rfl rfl ?_
    refine z_b 7 38 hB_z dX1_isBarred_4 rfl rfl (by decide) (fun c_4 => ?_) (fun c_4 => ?_)
    ·
      have hjs : s_z ≤ j_z := (nI_leI (by omega) (by omega)).mp c_4
      refine z_s 39 hB_z dX1_isBarred_38 rfl rfl ?_
      refine z_zret hM_z dX1_isBarred_39 rfl (by decide) ?_ rfl rfl
      rw [show j_z = s_z by omega] at hb_z
      exact ⟨rfl, by rw [hb_z]; rfl⟩
    ·
      have hjs : j_z < s_z := (nI_ltI (by omega) (by omega)).mp c_4
      refine z_s 8 hB_z dX1_isBarred_7 rfl rfl ?_
      refine z_getI 11 hB_z fX1_43 (L48 (zS := zS) hL) dX1_isBarred_8 rfl rfl ?_
      refine z_s 12 hB_z dX1_isBarred_11 rfl rfl ?_
      refine z_callS 15 hB_z hM_z.2.1 kX1_83 dX1_isBarred_12 rfl (c_has (d_z := 0)) (by omega) rfl rfl (Nat.le_of_ble_eq_true rfl) ⟨Nat.le_refl _, Nat.le_refl _⟩ ?_
      rintro _ _ ⟨rfl, rfl⟩
      refine z_b 18 32 hB_z dX1_isBarred_15 rfl rfl (by decide) (fun c_15 => ?_) (fun c_15 => ?_)
      ·
        refine z_s 35 hB_z dX1_isBarred_32 rfl rfl ?_
        refine z_j 2 hB_z dX1_isBarred_35 (by decide) ?_
        exact z_eq (ih_z hjs (by
          unfold z_bar
          rw [hb_z]
          first
            | rw [z_if0 c_15]; exact Bool.false_or _
            | rw [z_if0 c_27, Bool.and_false]; exact Bool.false_or _)) (by rw [← z_inc]; rfl) rfl rfl
      ·
        refine z_s 19 hB_z dX1_isBarred_18 rfl rfl ?_
        refine z_s 20 hB_z dX1_isBarred_19 rfl rfl ?_
        refine z_s 21 hB_z dX1_isBarred_20 rfl rfl ?_
        refine z_callS 24 hB_z hM_z.2.1 kX1_92 dX1_isBarred_21 rfl (c_pair (d_z := 0) hjs hs) (by omega) rfl rfl (Nat.le_of_ble_eq_true rfl) ⟨Nat.le_refl _, Nat.le_refl _⟩ ?_
        rintro _ _ ⟨rfl, rfl⟩
        refine z_callS 27 hB_z hM_z.2.1 kX1_83 dX1_isBarred_24 rfl (c_has (d_z := 0)) (by omega) rfl rfl (Nat.le_of_ble_eq_true rfl) ⟨Nat.le_refl _, Nat.le_refl _⟩ ?_
        rintro _ _ ⟨rfl, rfl⟩
        refine z_b 30 32 hB_z dX1_isBarred_27 rfl rfl (by decide) (fun c_27 => ?_) (fun c_27 => ?_)
        ·
          refine z_s 35 hB_z dX1_isBarred_32 rfl rfl ?_
          refine z_j 2 hB_z dX1_isBarred_35 (by decide) ?_
          exact z_eq (ih_z hjs (by
            unfold z_bar
            rw [hb_z]
            first
              | rw [z_if0 c_15]; exact Bool.false_or _
              | rw [z_if0 c_27, Bool.and_false]; exact Bool.false_or _)) (by rw [← z_inc]; rfl) rfl rfl
        ·
          refine z_s 31 hB_z dX1_isBarred_30 rfl rfl ?_
          refine z_zret hM_z dX1_isBarred_31 rfl (by decide) ?_ rfl rfl
          have q1_z := z_if1 c_15
          have q2_z := z_if1 c_27
          have q3_z : z_bar (z_I zS 48 2) Q_z s_z (j_z + 1) = true := by
            unfold z_bar
            rw [q1_z, q2_z]
            exact Bool.or_true _
          exact ⟨rfl, by rw [z_bar_mono q3_z hjs]; rfl⟩) 0 (Nat.zero_le s_z) rfl
  refine z_s 1 hB_z dX1_isBarred_0 rfl rfl ?_
  refine z_s 2 hB_z dX1_isBarred_1 rfl rfl ?_
  exact z_eq loop rfl rfl rfl

