/-! the model: two of the staff, their quarrel -/
theorem c_X10_areTwo {g_z : z_U} {d_z : Nat} {zS : z_S} (hN_z : z_LM zS) {n_z : Nat} (hn : z_I zS 99 10 = nI n_z) (hn0 : n_z ≤ 10) {a_z b_z : Int32} : z_C g_z (d_z + 2) 0 0 mX10_areTwo [.ref 99, .int a_z, .int b_z] zS (fun r_z zS' => zS = zS' ∧ ∃ v_z : Int32, r_z = some (.int v_z) ∧ (v_z = 0 ∧ ¬ (z_in a_z n_z ∧ z_in b_z n_z ∧ a_z ≠ b_z) ∨ v_z = 1 ∧ z_in a_z n_z ∧ z_in b_z n_z ∧ a_z ≠ b_z)) := by
  refine z_enter [some (.ref 99), some (.int a_z), some (.int b_z)] rfl rfl (Nat.le_of_ble_eq_true rfl) rfl (fun zX hM_z => ?_)
  have hB_z : z_B g_z zX RX10 cX10_areTwo 3 := hM_z.1
  refine z_s 1 hB_z dX10_areTwo_0 rfl rfl ?_
  refine z_s 2 hB_z dX10_areTwo_1 rfl rfl ?_
  refine z_callV 5 hB_z hM_z.2.1 kX10_71 dX10_areTwo_2 rfl (N99 (zS := zS) hN_z) rfl (c_X10_isOne (d_z := 0) hN_z hn hn0) (by omega) rfl rfl (Nat.le_of_ble_eq_true rfl) ⟨Nat.le_refl _, Nat.le_refl _⟩ ?_
  rintro _ _ ⟨rfl, v_z, rfl, hv⟩
  refine z_b 8 25 hB_z dX10_areTwo_5 rfl rfl (by decide) (fun c_5 => ?_) (fun c_5 => ?_)
  ·
    have ha_z : ¬ z_in a_z n_z := hv.elim (fun z_z => z_z.2) (fun z_z => absurd (z_z.1.symm.trans c_5) (by decide))
    refine z_s 26 hB_z dX10_areTwo_25 rfl rfl ?_
    refine z_zret hM_z dX10_areTwo_26 rfl (by decide) ?_ rfl rfl
    exact ⟨rfl, 0, rfl, Or.inl ⟨rfl, fun q_z => ha_z q_z.1⟩⟩
  ·
    have ha_z : z_in a_z n_z := hv.elim (fun z_z => absurd z_z.1 c_5) (fun z_z => z_z.2)
    refine z_s 9 hB_z dX10_areTwo_8 rfl rfl ?_
    refine z_s 10 hB_z dX10_areTwo_9 rfl rfl ?_
    refine z_callV 13 hB_z hM_z.2.1 kX10_71 dX10_areTwo_10 rfl (N99 (zS := zS) hN_z) rfl (c_X10_isOne (d_z := 0) hN_z hn hn0) (by omega) rfl rfl (Nat.le_of_ble_eq_true rfl) ⟨Nat.le_refl _, Nat.le_refl _⟩ ?_
    rintro _ _ ⟨rfl, w_z, rfl, hw⟩
    refine z_b 16 25 hB_z dX10_areTwo_13 rfl rfl (by decide) (fun c_13 => ?_) (fun c_13 => ?_)
    ·
      have hb_z : ¬ z_in b_z n_z := hw.elim (fun z_z => z_z.2) (fun z_z => absurd (z_z.1.symm.trans c_13) (by decide))
      refine z_s 26 hB_z dX10_areTwo_25 rfl rfl ?_
      refine z_zret hM_z dX10_areTwo_26 rfl (by decide) ?_ rfl rfl
      exact ⟨rfl, 0, rfl, Or.inl ⟨rfl, fun q_z => hb_z q_z.2.1⟩⟩
    ·
      have hb_z : z_in b_z n_z := hw.elim (fun z_z => absurd z_z.1 c_13) (fun z_z => z_z.2)
      refine z_s 17 hB_z dX10_areTwo_16 rfl rfl ?_
      refine z_s 18 hB_z dX10_areTwo_17 rfl rfl ?_
      refine z_b 21 25 hB_z dX10_areTwo_18 rfl rfl (by decide) (fun c_18 => ?_) (fun c_18 => ?_)
      ·
        refine z_s 26 hB_z dX10_areTwo_25 rfl rfl ?_
        refine z_zret hM_z dX10_areTwo_26 rfl (by decide) ?_ rfl rfl
        exact ⟨rfl, 0, rfl, Or.inl ⟨rfl, fun q_z => q_z.2.2 c_18⟩⟩
      ·
        refine z_s 22 hB_z dX10_areTwo_21 rfl rfl ?_
        refine z_j 26 hB_z dX10_areTwo_22 (by decide) ?_
        refine z_zret hM_z dX10_areTwo_26 rfl (by decide) ?_ rfl rfl
        exact ⟨rfl, 1, rfl, Or.inr ⟨rfl, ha_z, hb_z, c_18⟩⟩

/-- six bits, as they are gathered -/
def z_g6 (c_z : Nat → Bool) : Nat → Int32
  | 0 => 0
  | k_z + 1 => z_g6 c_z k_z ||| (if c_z k_z then 1 <<< (nI k_z &&& 31) else 0)
theorem z_qr_g6 (w_z : Int32) (a_z : Nat) : ∀ k_z, z_qr w_z a_z k_z = z_g6 (z_qb w_z a_z) k_z
  | 0 => rfl
  | k_z + 1 => by
    show z_qr w_z a_z k_z ||| _ = z_g6 (z_qb w_z a_z) k_z ||| _
    rw [z_qr_g6 w_z a_z k_z]
def z_l6 (a_z b_z c_z e_z f_z h_z : Bool) (k_z : Nat) : Bool := if k_z = 0 then a_z else if k_z = 1 then b_z else if k_z = 2 then c_z else if k_z = 3 then e_z else if k_z = 4 then f_z else h_z
theorem z_g6_l6 (c_z : Nat → Bool) : z_g6 c_z 6 = z_g6 (z_l6 (c_z 0) (c_z 1) (c_z 2) (c_z 3) (c_z 4) (c_z 5)) 6 := rfl
theorem z_l6_at (c_z : Nat → Bool) (k_z : Nat) (hk : k_z < 6) : z_l6 (c_z 0) (c_z 1) (c_z 2) (c_z 3) (c_z 4) (c_z 5) k_z = c_z k_z := by
  rcases (show k_z = 0 ∨ k_z = 1 ∨ k_z = 2 ∨ k_z = 3 ∨ k_z = 4 ∨ k_z = 5 by omega) with rfl | rfl | rfl | rfl | rfl | rfl <;> rfl
theorem z_g6_tab : ∀ a_z b_z c_z e_z f_z h_z : Bool, ∀ k_z, k_z < 6 → (z_g6 (z_l6 a_z b_z c_z e_z f_z h_z) 6 >>> (nI k_z &&& 31)) &&& 1 = if z_l6 a_z b_z c_z e_z f_z h_z k_z then 1 else 0 := by decide +kernel
theorem z_qr_bit (w_z : Int32) (a_z k_z : Nat) (hk : k_z < 6) : (z_qr w_z a_z 6 >>> (nI k_z &&& 31)) &&& 1 = if z_qb w_z a_z k_z then 1 else 0 := by
  rw [z_qr_g6, z_g6_l6, z_g6_tab _ _ _ _ _ _ k_z hk, z_l6_at _ k_z hk]
theorem z_n5 (j_z : Nat) : (5 : Int32) + nI j_z = nI (5 + j_z) := nI_add 5 j_z
theorem z_qb_pr {w_z : Int32} {a_z b_z : Nat} (h_z : a_z ≠ b_z) : z_qb w_z a_z b_z = z_hb w_z (z_pr a_z b_z) := if_neg h_z
set_option maxHeartbeats 1000000 in
theorem c_X10_quarrel {g_z : z_U} {d_z : Nat} {zS : z_S} {A_z : z_Ab} (hN_z : z_LM zS) (hR : z_RM (z_I zS) A_z) (hn6 : (z_AV A_z).2.1 ≤ 6) {a_z b_z : Int32} : z_C g_z (d_z + 3) 0 0 mX10_quarrel [.ref 99, .int a_z, .int b_z] zS (z_MQ zS (z_ansQuarrel A_z a_z b_z)) := by
  refine z_enter [some (.ref 99), some (.int a_z), some (.int b_z)] rfl rfl (Nat.le_of_ble_eq_true rfl) rfl (fun zX hM_z => ?_)
  have hB_z : z_B g_z zX RX10 cX10_quarrel 3 := hM_z.1
  refine z_s 1 hB_z dX10_quarrel_0 rfl rfl ?_
  refine z_s 2 hB_z dX10_quarrel_1 rfl rfl ?_
  refine z_s 3 hB_z dX10_quarrel_2 rfl rfl ?_
  refine z_callV 6 hB_z hM_z.2.1 kX10_180 dX10_quarrel_3 rfl (N99 (zS := zS) hN_z) rfl (c_X10_areTwo (d_z := 0) hN_z hR.sn (by omega)) (by omega) rfl rfl (Nat.le_of_ble_eq_true rfl) ⟨Nat.le_refl _, Nat.le_refl _⟩ ?_
  rintro _ _ ⟨rfl, v_z, rfl, hv⟩
  refine z_b 9 24 hB_z dX10_quarrel_6 rfl rfl (by decide) (fun c_6 => ?_) (fun c_6 => ?_)
  ·
    have hs : ¬ (z_in a_z (z_AV A_z).2.1 ∧ z_in b_z (z_AV A_z).2.1 ∧ a_z ≠ b_z) := hv.elim (fun z_z => z_z.2) (fun z_z => absurd (z_z.1.symm.trans c_6) (by decide))
    refine z_s 25 hB_z dX10_quarrel_24 rfl rfl ?_
    refine z_iret hM_z dX10_quarrel_25 rfl ?_ rfl rfl
    have e_z : z_ansQuarrel A_z a_z b_z = -1 := if_neg hs
    rw [e_z]
    exact ⟨rfl, z_I zS, rfl, z_f2.rf⟩
  ·
    have hs : z_in a_z (z_AV A_z).2.1 ∧ z_in b_z (z_AV A_z).2.1 ∧ a_z ≠ b_z := hv.elim (fun z_z => absurd z_z.1 c_6) (fun z_z => z_z.2)
    obtain ⟨j_z, hj, rfl⟩ := hs.1.of (by omega)
    obtain ⟨k_z, hk, rfl⟩ := hs.2.1.of (by omega)
    have hjk : j_z ≠ k_z := fun q_z => hs.2.2 (by rw [q_z])
    refine z_s 10 hB_z dX10_quarrel_9 rfl rfl ?_
    refine z_getR 13 hB_z fX10_28 (N99 (zS := zS) hN_z) dX10_quarrel_10 rfl rfl (n99_15 (zS := zS) hN_z) ?_
    refine z_s 14 hB_z dX10_quarrel_13 rfl rfl ?_
    refine z_s 15 hB_z dX10_quarrel_14 rfl rfl ?_
    refine z_s 16 hB_z dX10_quarrel_15 rfl rfl ?_
    rw [z_n5]
    refine z_ald 17 hB_z (N106 (zS := zS) hN_z) dX10_quarrel_16 rfl (vp_in_nI (show 5 + j_z < 17 by omega) (by decide)) ?_
    rw [nI_clamp (by omega), show z_I zS 106 (5 + j_z) = z_qr (z_AT A_z 4) j_z 6 from (congrArg (z_I zS 106) (show 5 + j_z = 0 + 5 + j_z by omega)).trans (hR.nw.aq j_z (by omega))]
    refine z_s 18 hB_z dX10_quarrel_17 rfl rfl ?_
    refine z_s 19 hB_z dX10_quarrel_18 rfl rfl ?_
    refine z_s 20 hB_z dX10_quarrel_19 rfl rfl ?_
    refine z_s 21 hB_z dX10_quarrel_20 rfl rfl ?_
    refine z_j 25 hB_z dX10_quarrel_21 (by decide) ?_
    refine z_iret hM_z dX10_quarrel_25 rfl ?_ rfl rfl
    have e_z : z_ansQuarrel A_z (nI j_z) (nI k_z) = if z_qb (z_AT A_z 4) j_z k_z then 1 else 0 := by
      unfold z_ansQuarrel
      rw [nI_clamp (by omega), nI_clamp (by omega), z_qb_pr hjk]
      exact if_pos hs
    rw [e_z]
    exact ⟨congrArg (fun q_z => some (Value.int q_z)) (z_qr_bit _ _ _ (by omega)), z_I zS, rfl, z_f2.rf⟩

