/-! shelves of states -/
def z_sf (zS : z_S) (f_z a_z N_z b_z : Nat) (r_z : Nat → Nat) : Prop := z_is zS f_z (0, 4) ∧ z_R zS f_z 0 = some a_z ∧ z_is zS a_z (2, N_z) ∧ (∀ j_z, j_z < N_z → z_R zS a_z j_z = some (b_z + 3 * r_z j_z)) ∧ (∀ j_z, j_z < N_z → r_z j_z < N_z) ∧ (∀ i_z j_z, i_z < N_z → j_z < N_z → r_z i_z = r_z j_z → i_z = j_z) ∧ ∀ i_z, i_z < N_z → z_st zS (b_z + 3 * i_z)
/-- a shelf with u states, U the bottom first -/
def z_shelf (zS : z_S) (f_z a_z N_z b_z : Nat) (U_z : Nat → Nat → Int32) (u_z : Nat) : Prop := ∃ r_z, z_sf zS f_z a_z N_z b_z r_z ∧ z_I zS f_z 1 = nI u_z ∧ u_z ≤ N_z ∧ ∀ j_z, j_z < u_z → z_rT (z_I zS) (b_z + 3 * r_z j_z) (U_z j_z)
def z_q (zS : z_S) (Rn : Nat → Nat → Option Nat) : z_S := (zS.1, zS.2.1, Rn, zS.2.2.2)
/-- a whole other store of the same kinds -/
def z_w (zS : z_S) (f_z : Nat → Nat → Int32) (Rn : Nat → Nat → Option Nat) : z_S := (zS.1, f_z, Rn, zS.2.2.2)
def z_PS (f_z b_z N_z : Nat) : Nat → Prop := fun q_z => q_z = f_z ∨ (b_z ≤ q_z ∧ q_z < b_z + 3 * N_z)
def z_Rf (a_z : Nat) (Ra_z Rb_z : Nat → Nat → Option Nat) : Prop := ∀ q_z k_z, q_z ≠ a_z → Rb_z q_z k_z = Ra_z q_z k_z
theorem z_nIp (n_z : Nat) : nI (n_z + 1) - 1 = nI n_z := nI_pred n_z
set_option maxHeartbeats 1000000 in
theorem c_X4_dropOldest {g_z : z_U} {d_z : Nat} {zS : z_S} {f_z a_z N_z b_z : Nat} {r_z : Nat → Nat} (hsf : z_sf zS f_z a_z N_z b_z r_z) (hfa : f_z ≠ a_z) (hN_z : 0 < N_z) (hN2 : N_z < 1000) : z_C g_z (d_z) 0 0 mX4_dropOldest [.ref f_z] zS (fun v_z zS' => v_z = none ∧ ∃ zI' R_z', zS' = z_w zS zI' R_z' ∧ z_fr (fun q_z => q_z = f_z) (z_I zS) zI' ∧ z_Rf a_z (z_R zS) R_z' ∧ (∀ j_z, j_z < N_z → R_z' a_z j_z = if j_z < N_z - 1 then some (b_z + 3 * r_z (j_z + 1)) else some (b_z + 3 * r_z 0)) ∧ zI' f_z 1 = nI (N_z - 1)) := by
  refine z_enter [some (.ref f_z), none, none] rfl rfl (Nat.le_of_ble_eq_true rfl) rfl (fun zX hM_z => ?_)
  have hB_z : z_B g_z zX RX4 cX4_dropOldest 3 := hM_z.1
  obtain ⟨g1, g2, g3_z, g4, g5_z, g6, g7⟩ := id hsf
  have loop := z_loop (fun k_z => ∀ R1, z_Rf a_z (z_R zS) R1 → (∀ j_z, j_z < N_z → R1 a_z j_z = if j_z < k_z then z_R zS a_z (j_z + 1) else z_R zS a_z j_z) → z_W g_z zX 18 [some (.ref f_z), some (.ref (b_z + 3 * r_z 0)), some (.int (nI (k_z + 1)))] [] 0 0 (z_q zS R1)) (N_z - 1) (fun k_z hkN ih_z R1 hRf hRa => by
    refine z_s 19 hB_z dX4_dropOldest_18 rfl rfl ?_
    refine z_s 20 hB_z dX4_dropOldest_19 rfl rfl ?_
    refine z_getR 23 hB_z fX4_9 g1 dX4_dropOldest_20 rfl rfl ((hRf f_z 0 hfa).trans g2) ?_
    refine z_alenQ 24 hB_z g3_z dX4_dropOldest_23 rfl ?_
    refine z_b 27 47 hB_z dX4_dropOldest_24 rfl rfl (by decide) (fun c_24 => ?_) (fun c_24 => ?_)
    ·
      have hjs : N_z ≤ k_z + 1 := (nI_leI (by omega) (by omega)).mp c_24
      have hk : k_z = N_z - 1 := by omega
      have hNk : N_z = k_z + 1 := by omega
      refine z_s 48 hB_z dX4_dropOldest_47 rfl rfl ?_
      refine z_getR 51 hB_z fX4_9 g1 dX4_dropOldest_48 rfl rfl ((hRf f_z 0 hfa).trans g2) ?_
      refine z_s 52 hB_z dX4_dropOldest_51 rfl rfl ?_
      refine z_getR 55 hB_z fX4_9 g1 dX4_dropOldest_52 rfl rfl ((hRf f_z 0 hfa).trans g2) ?_
      refine z_alenQ 56 hB_z g3_z dX4_dropOldest_55 rfl ?_
      refine z_s 57 hB_z dX4_dropOldest_56 rfl rfl ?_
      refine z_s 58 hB_z dX4_dropOldest_57 rfl rfl ?_
      refine z_s 59 hB_z dX4_dropOldest_58 rfl rfl ?_
      have eN_z : Int32.ofNat N_z - 1 = nI k_z := by rw [hNk]; exact z_nIp k_z
      rw [eN_z]
      refine z_astQ 60 hB_z g3_z (g7 _ (g5_z 0 (by omega))).1 dX4_dropOldest_59 rfl (vp_in_nI (by omega) (by omega)) ?_
      rw [nI_clamp (by omega)]
      refine z_s 61 hB_z dX4_dropOldest_60 rfl rfl ?_
      refine z_s 62 hB_z dX4_dropOldest_61 rfl rfl ?_
      refine z_getR 65 hB_z fX4_9 g1 dX4_dropOldest_62 rfl rfl ((z_u2_ne (Or.inl hfa)).trans ((hRf f_z 0 hfa).trans g2)) ?_
      refine z_alenQ 66 hB_z g3_z dX4_dropOldest_65 rfl ?_
      refine z_s 67 hB_z dX4_dropOldest_66 rfl rfl ?_
      refine z_s 68 hB_z dX4_dropOldest_67 rfl rfl ?_
      rw [eN_z]
      refine z_putI 71 hB_z fX4_16 g1 dX4_dropOldest_68 rfl rfl rfl ?_
      refine z_vret hM_z dX4_dropOldest_71 rfl ?_ rfl rfl
      refine ⟨rfl, _, _, rfl, ?_, ?_, fun j_z hj => ?_, (z_u2_same _ _ _ _).trans (by rw [hk])⟩
      · exact z_fr.rf.u2 rfl
      · intro q_z j_z hq
        show z_u2 R1 a_z k_z _ q_z j_z = _
        rw [z_u2_ne (Or.inl hq)]; exact hRf q_z j_z hq
      · show z_u2 R1 a_z k_z _ a_z j_z = _
        by_cases h_z : j_z = k_z
        · rw [h_z, z_u2_same, if_neg (by omega)]
        · rw [z_u2_ne (Or.inr h_z), hRa j_z hj, if_pos (by omega), if_pos (by omega)]
          exact g4 (j_z + 1) (by omega)
    ·
      have hjs : k_z + 1 < N_z := (nI_ltI (by omega) (by omega)).mp c_24
      have hR1 : R1 a_z (k_z + 1) = some (b_z + 3 * r_z (k_z + 1)) := (hRa (k_z + 1) hjs).trans (by rw [if_neg (by omega)]; exact g4 (k_z + 1) hjs)
      refine z_s 28 hB_z dX4_dropOldest_27 rfl rfl ?_
      refine z_getR 31 hB_z fX4_9 g1 dX4_dropOldest_28 rfl rfl ((hRf f_z 0 hfa).trans g2) ?_
      refine z_s 32 hB_z dX4_dropOldest_31 rfl rfl ?_
      refine z_s 33 hB_z dX4_dropOldest_32 rfl rfl ?_
      refine z_s 34 hB_z dX4_dropOldest_33 rfl rfl ?_
      refine z_s 35 hB_z dX4_dropOldest_34 rfl rfl ?_
      refine z_getR 38 hB_z fX4_9 g1 dX4_dropOldest_35 rfl rfl ((hRf f_z 0 hfa).trans g2) ?_
      refine z_s 39 hB_z dX4_dropOldest_38 rfl rfl ?_
      refine z_aldQ 40 hB_z g3_z dX4_dropOldest_39 rfl (vp_in_nI hjs (by omega)) (by rw [nI_clamp (by omega)]; exact hR1) ?_
      rw [z_nIp k_z]
      refine z_astQ 41 hB_z g3_z (g7 _ (g5_z _ hjs)).1 dX4_dropOldest_40 rfl (vp_in_nI (by omega) (by omega)) ?_
      refine z_s 44 hB_z dX4_dropOldest_41 rfl rfl ?_
      refine z_j 18 hB_z dX4_dropOldest_44 (by decide) ?_
      exact z_eq (ih_z (by omega) (z_u2 R1 a_z k_z (some (b_z + 3 * r_z (k_z + 1)))) (fun q_z j_z hq => (z_u2_ne (Or.inl hq)).trans (hRf q_z j_z hq)) (fun j_z hj => by
        by_cases h_z : j_z = k_z
        · rw [h_z, z_u2_same, if_pos (by omega)]; exact (g4 (k_z + 1) hjs).symm
        · rw [z_u2_ne (Or.inr h_z), hRa j_z hj]
          by_cases h2 : j_z < k_z
          · rw [if_pos h2, if_pos (by omega)]
          · rw [if_neg h2, if_neg (by omega)])) (by rw [← z_inc (k_z + 1)]; rfl) rfl (by rw [nI_clamp (by omega)] <;> rfl)) 0 (Nat.zero_le _)
  refine z_s 1 hB_z dX4_dropOldest_0 rfl rfl ?_
  refine z_getR 4 hB_z fX4_9 g1 dX4_dropOldest_1 rfl rfl g2 ?_
  refine z_alenQ 5 hB_z g3_z dX4_dropOldest_4 rfl ?_
  refine z_b 8 9 hB_z dX4_dropOldest_5 rfl rfl (by decide) (fun c_5 => ?_) (fun c_5 => ?_)
  ·
    refine z_s 10 hB_z dX4_dropOldest_9 rfl rfl ?_
    refine z_getR 13 hB_z fX4_9 g1 dX4_dropOldest_10 rfl rfl g2 ?_
    refine z_s 14 hB_z dX4_dropOldest_13 rfl rfl ?_
    refine z_aldQ 15 hB_z g3_z dX4_dropOldest_14 rfl (show vp_in (nI 0) N_z from vp_in_nI hN_z (by omega)) (g4 0 hN_z) ?_
    refine z_s 16 hB_z dX4_dropOldest_15 rfl rfl ?_
    refine z_s 17 hB_z dX4_dropOldest_16 rfl rfl ?_
    refine z_s 18 hB_z dX4_dropOldest_17 rfl rfl ?_
    exact z_eq (loop (z_R zS) (fun _ _ _ => rfl) (fun j_z hj => by rw [if_neg (Nat.not_lt_zero j_z)])) rfl rfl rfl
  ·
    exfalso
    rw [show (0 : Int32) = nI 0 from rfl] at c_5
    exact absurd ((nI_eq (by omega) (by omega)).mp c_5) (by omega)

theorem c_X4_clear {g_z : z_U} {d_z : Nat} {zS : z_S} {f_z : Nat} (g1 : z_is zS f_z (0, 4)) : z_C g_z (d_z) 0 0 mX4_clear [.ref f_z] zS (fun v_z zS' => v_z = none ∧ z_pI zS f_z 1 0 = zS') := by
  refine z_enter [some (.ref f_z)] rfl rfl (Nat.le_of_ble_eq_true rfl) rfl (fun zX hM_z => ?_)
  have hB_z : z_B g_z zX RX4 cX4_clear 1 := hM_z.1
  refine z_s 1 hB_z dX4_clear_0 rfl rfl ?_
  refine z_s 2 hB_z dX4_clear_1 rfl rfl ?_
  refine z_putI 5 hB_z fX4_16 g1 dX4_clear_2 rfl rfl rfl ?_
  refine z_vret hM_z dX4_clear_5 rfl ?_ rfl rfl
  exact ⟨rfl, rfl⟩

set_option maxHeartbeats 1000000 in
theorem c_X4_takeInto {g_z : z_U} {d_z : Nat} {zS : z_S} {f_z a_z N_z b_z u_z o : Nat} {U_z : Nat → Nat → Int32} (hsh : z_shelf zS f_z a_z N_z b_z U_z (u_z + 1)) (hN2 : N_z < 1000) (hso : z_st zS o) (hd_z : o + 3 ≤ f_z) (hfb : f_z < b_z) (hfo : f_z ≠ o ∧ f_z ≠ o + 2) : z_C g_z (d_z + 3) 0 0 mX4_takeInto [.ref f_z, .ref o] zS (fun v_z zS' => v_z = none ∧ ∃ zI', z_up zS zI' = zS' ∧ z_fr (fun q_z => q_z = f_z ∨ q_z = o ∨ q_z = o + 2) (z_I zS) zI' ∧ z_rT zI' o (U_z u_z) ∧ zI' f_z 1 = nI u_z) := by
  refine z_enter [some (.ref f_z), some (.ref o), none] rfl rfl (Nat.le_of_ble_eq_true rfl) rfl (fun zX hM_z => ?_)
  have hB_z : z_B g_z zX RX4 cX4_takeInto 3 := hM_z.1
  obtain ⟨r_z, hsf, hsz, huN, hU⟩ := hsh
  obtain ⟨g1, g2, g3_z, g4, g5_z, g6, g7⟩ := id hsf
  have gu := g5_z u_z (by omega)
  refine z_s 1 hB_z dX4_takeInto_0 rfl rfl ?_
  refine z_getI 4 hB_z fX4_16 g1 dX4_takeInto_1 rfl rfl ?_
  refine z_s 5 hB_z dX4_takeInto_4 rfl rfl ?_
  refine z_s 6 hB_z dX4_takeInto_5 rfl rfl ?_
  rw [hsz, z_nIp u_z]
  refine z_s 7 hB_z dX4_takeInto_6 rfl rfl ?_
  refine z_s 8 hB_z dX4_takeInto_7 rfl rfl ?_
  refine z_b 11 44 hB_z dX4_takeInto_8 rfl rfl (by decide) (fun c_8 => ?_) (fun c_8 => ?_)
  ·
    exact absurd c_8 (nI_pos (by omega))
  ·
    refine z_s 12 hB_z dX4_takeInto_11 rfl rfl ?_
    refine z_s 13 hB_z dX4_takeInto_12 rfl rfl ?_
    refine z_getR 16 hB_z fX4_9 g1 dX4_takeInto_13 rfl rfl g2 ?_
    refine z_alenQ 17 hB_z g3_z dX4_takeInto_16 rfl ?_
    refine z_b 20 44 hB_z dX4_takeInto_17 rfl rfl (by decide) (fun c_17 => ?_) (fun c_17 => ?_)
    ·
      exact absurd ((nI_leI (by omega) (by omega)).mp c_17) (by omega)
    ·
      refine z_s 21 hB_z dX4_takeInto_20 rfl rfl ?_
      refine z_getR 24 hB_z fX4_9 g1 dX4_takeInto_21 rfl rfl g2 ?_
      refine z_s 25 hB_z dX4_takeInto_24 rfl rfl ?_
      refine z_aldQ 26 hB_z g3_z dX4_takeInto_25 rfl (vp_in_nI (by omega) (by omega)) (by rw [nI_clamp (by omega)]; exact g4 u_z (by omega)) ?_
      refine z_b 29 44 hB_z dX4_takeInto_26 rfl rfl (by decide) (fun c_26 => ?_) (fun c_26 => ?_)
      ·
        exact c_26.elim
      ·
        refine z_s 30 hB_z dX4_takeInto_29 rfl rfl ?_
        refine z_s 31 hB_z dX4_takeInto_30 rfl rfl ?_
        refine z_getR 34 hB_z fX4_9 g1 dX4_takeInto_31 rfl rfl g2 ?_
        refine z_s 35 hB_z dX4_takeInto_34 rfl rfl ?_
        refine z_aldQ 36 hB_z g3_z dX4_takeInto_35 rfl (vp_in_nI (by omega) (by omega)) (by rw [nI_clamp (by omega)]; exact g4 u_z (by omega)) ?_
        refine z_callV 39 hB_z hM_z.2.1 kX4_23 dX4_takeInto_36 rfl hso.1 rfl (c_X7_copy (d_z := 0) hso (g7 _ gu) (by omega) (by omega)) (by omega) rfl rfl (Nat.le_of_ble_eq_true rfl) ⟨Nat.le_refl _, Nat.le_refl _⟩ ?_
        rintro _ _ ⟨rfl, I2_z, rfl, hf2, hT2⟩
        refine z_s 40 hB_z dX4_takeInto_39 rfl rfl ?_
        refine z_s 41 hB_z dX4_takeInto_40 rfl rfl ?_
        refine z_putI 44 hB_z fX4_16 g1 dX4_takeInto_41 rfl rfl rfl ?_
        refine z_vret hM_z dX4_takeInto_44 rfl ?_ rfl rfl
        refine ⟨rfl, _, rfl, ?_, ?_, z_u2_same _ _ _ _⟩
        · exact (hf2.mono (fun _ q_z => Or.inr q_z)).u2 (Or.inl rfl)
        · exact (hT2 (U_z u_z) (hU u_z (by omega))).fr (P_z := fun q_z => q_z = f_z) (z_fr.rf.u2 rfl) ⟨fun q_z => hfo.1 q_z.symm, fun q_z => hfo.2 q_z.symm⟩

theorem z_sf_w {zS : z_S} {f_z a_z N_z b_z : Nat} {r_z : Nat → Nat} {I1 : Nat → Nat → Int32} (h_z : z_sf zS f_z a_z N_z b_z r_z) : z_sf (z_up zS I1) f_z a_z N_z b_z r_z := h_z
set_option maxHeartbeats 2000000 in
theorem c_X4_put {g_z : z_U} {d_z : Nat} {zS : z_S} {f_z a_z N_z b_z u_z o : Nat} {U_z : Nat → Nat → Int32} {zT : Nat → Int32} (hsh : z_shelf zS f_z a_z N_z b_z U_z u_z) (hN_z : 0 < N_z) (hN2 : N_z < 1000) (hso : z_st zS o) (hT_z : z_rT (z_I zS) o zT) (hof : o + 3 ≤ f_z) (hfa : f_z < a_z) (hab : a_z < b_z) : z_C g_z (d_z + 3) 0 0 mX4_put [.ref f_z, .ref o] zS (fun v_z zS' => v_z = none ∧ ∃ zI' R_z', zS' = z_w zS zI' R_z' ∧ z_fr (z_PS f_z b_z N_z) (z_I zS) zI' ∧ z_Rf a_z (z_R zS) R_z' ∧ z_shelf zS' f_z a_z N_z b_z (if u_z < N_z then (fun j_z => if j_z = u_z then zT else U_z j_z) else fun j_z => if j_z = N_z - 1 then zT else U_z (j_z + 1)) (if u_z < N_z then u_z + 1 else N_z)) := by
  refine z_enter [some (.ref f_z), some (.ref o)] rfl rfl (Nat.le_of_ble_eq_true rfl) rfl (fun zX hM_z => ?_)
  have hB_z : z_B g_z zX RX4 cX4_put 2 := hM_z.1
  obtain ⟨r_z, hsf, hsz, huN, hU⟩ := hsh
  obtain ⟨g1, g2, g3_z, g4, g5_z, g6, g7⟩ := id hsf
  have step : ∀ (S1 : z_S) (r1_z : Nat → Nat) (v_z : Nat), z_sf S1 f_z a_z N_z b_z r1_z → z_I S1 f_z 1 = nI v_z → v_z < N_z → z_st S1 o → z_rT (z_I S1) o zT →
      (∀ I2_z, z_fr (fun q_z => q_z = b_z + 3 * r1_z v_z ∨ q_z = b_z + 3 * r1_z v_z + 2) (z_I S1) I2_z → z_rT I2_z (b_z + 3 * r1_z v_z) zT → (none : Option Value) = none ∧ ∃ zI' R_z', z_pI (z_up S1 I2_z) f_z 1 (nI (v_z + 1)) = z_w zS zI' R_z' ∧ z_fr (z_PS f_z b_z N_z) (z_I zS) zI' ∧ z_Rf a_z (z_R zS) R_z' ∧ z_shelf (z_pI (z_up S1 I2_z) f_z 1 (nI (v_z + 1))) f_z a_z N_z b_z (if u_z < N_z then (fun j_z => if j_z = u_z then zT else U_z j_z) else fun j_z => if j_z = N_z - 1 then zT else U_z (j_z + 1)) (if u_z < N_z then u_z + 1 else N_z)) →
      z_W g_z zX 16 [some (.ref f_z), some (.ref o)] [] 0 0 S1 := by
    intro S1 r1_z v_z hk hz1 hv hs1 hT1 fin1
    obtain ⟨k1_z, k2_z, k3_z, k4_z, k5_z, k6_z, k7_z⟩ := id hk
    have kv := k5_z v_z hv
    refine z_s 17 hB_z dX4_put_16 rfl rfl ?_
    refine z_getI 20 hB_z fX4_16 k1_z dX4_put_17 rfl rfl ?_
    refine z_b 23 70 hB_z dX4_put_20 rfl rfl (by decide) (fun c_20 => ?_) (fun c_20 => ?_)
    ·
      exact absurd c_20 (by rw [hz1]; exact nI_pos (by omega))
    ·
      refine z_s 24 hB_z dX4_put_23 rfl rfl ?_
      refine z_getI 27 hB_z fX4_16 k1_z dX4_put_24 rfl rfl ?_
      refine z_s 28 hB_z dX4_put_27 rfl rfl ?_
      refine z_getR 31 hB_z fX4_9 k1_z dX4_put_28 rfl rfl k2_z ?_
      refine z_alenQ 32 hB_z k3_z dX4_put_31 rfl ?_
      refine z_b 35 70 hB_z dX4_put_32 rfl rfl (by decide) (fun c_32 => ?_) (fun c_32 => ?_)
      ·
        exact absurd c_32 (by rw [hz1]; exact nI_ge hv (by omega))
      ·
        refine z_s 36 hB_z dX4_put_35 rfl rfl ?_
        refine z_getR 39 hB_z fX4_9 k1_z dX4_put_36 rfl rfl k2_z ?_
        refine z_s 40 hB_z dX4_put_39 rfl rfl ?_
        refine z_getI 43 hB_z fX4_16 k1_z dX4_put_40 rfl rfl ?_
        rw [hz1]
        refine z_aldQ 44 hB_z k3_z dX4_put_43 rfl (vp_in_nI hv (by omega)) (by rw [nI_clamp (by omega)]; exact k4_z v_z hv) ?_
        refine z_b 47 70 hB_z dX4_put_44 rfl rfl (by decide) (fun c_44 => ?_) (fun c_44 => ?_)
        ·
          exact c_44.elim
        ·
          refine z_s 48 hB_z dX4_put_47 rfl rfl ?_
          refine z_getR 51 hB_z fX4_9 k1_z dX4_put_48 rfl rfl k2_z ?_
          refine z_s 52 hB_z dX4_put_51 rfl rfl ?_
          refine z_getI 55 hB_z fX4_16 k1_z dX4_put_52 rfl rfl ?_
          rw [hz1]
          refine z_aldQ 56 hB_z k3_z dX4_put_55 rfl (vp_in_nI hv (by omega)) (by rw [nI_clamp (by omega)]; exact k4_z v_z hv) ?_
          refine z_s 57 hB_z dX4_put_56 rfl rfl ?_
          refine z_callV 60 hB_z hM_z.2.1 kX4_23 dX4_put_57 rfl (k7_z _ kv).1 rfl (c_X7_copy (zS := S1) (d_z := 0) (k7_z _ kv) hs1 (by omega) (by omega)) (by omega) rfl rfl (Nat.le_of_ble_eq_true rfl) ⟨Nat.le_refl _, Nat.le_refl _⟩ ?_
          rintro _ _ ⟨rfl, I2_z, rfl, hf2, hT2⟩
          refine z_s 61 hB_z dX4_put_60 rfl rfl ?_
          refine z_s 62 hB_z dX4_put_61 rfl rfl ?_
          refine z_getI 65 hB_z fX4_16 k1_z dX4_put_62 rfl rfl ?_
          refine z_s 66 hB_z dX4_put_65 rfl rfl ?_
          refine z_s 67 hB_z dX4_put_66 rfl rfl ?_
          rw [show z_I (z_up S1 I2_z) f_z 1 = nI v_z from (hf2 f_z 1 (by omega)).trans hz1, z_inc]
          refine z_putI 70 hB_z fX4_16 k1_z dX4_put_67 rfl rfl rfl ?_
          refine z_vret hM_z dX4_put_70 rfl ?_ rfl rfl
          exact fin1 I2_z hf2 (hT2 zT hT1)
  refine z_s 1 hB_z dX4_put_0 rfl rfl ?_
  refine z_getI 4 hB_z fX4_16 g1 dX4_put_1 rfl rfl ?_
  refine z_s 5 hB_z dX4_put_4 rfl rfl ?_
  refine z_getR 8 hB_z fX4_9 g1 dX4_put_5 rfl rfl g2 ?_
  refine z_alenQ 9 hB_z g3_z dX4_put_8 rfl ?_
  refine z_b 12 16 hB_z dX4_put_9 rfl rfl (by decide) (fun c_9 => ?_) (fun c_9 => ?_)
  ·
    have hv : u_z < N_z := (nI_ltI (by omega) (by omega)).mp (by rw [← hsz]; exact c_9)
    have hlt : ∀ j_z, j_z < u_z → r_z j_z ≠ r_z u_z := fun j_z hj q_z => by have := g6 j_z u_z (by omega) hv q_z; omega
    exact step zS r_z u_z hsf hsz hv hso hT_z (fun I2_z hf2 hT2 => ⟨rfl, _, _, rfl, ((hf2.mono (fun q_z hq => by
        have := g5_z u_z hv
        rcases hq with hq | hq <;> exact Or.inr (by omega))).u2 (Or.inl rfl)), fun _ _ _ => rfl, by
      rw [if_pos hv, if_pos hv]
      refine ⟨r_z, hsf, z_u2_same _ _ _ _, hv, fun j_z hj => ?_⟩
      have e_z := (z_fr.rf (P_z := fun q_z => q_z = f_z) (zI := I2_z)).u2 (o := f_z) (k_z := 1) (v_z := nI (u_z + 1)) rfl
      show z_rT (z_u2 I2_z f_z 1 (nI (u_z + 1))) (b_z + 3 * r_z j_z) (if j_z = u_z then zT else U_z j_z)
      by_cases h_z : j_z = u_z
      · rw [h_z, if_pos rfl]
        exact hT2.fr e_z ⟨by omega, by omega⟩
      · rw [if_neg h_z]
        have h2 := hlt j_z (by omega)
        exact ((hU j_z (by omega)).fr hf2 ⟨by omega, by omega⟩).fr e_z ⟨by omega, by omega⟩⟩)
  ·
    have hv : u_z = N_z := by
      have q_z := (nI_leI (by omega) (by omega)).mp (show nI N_z ≤ nI u_z by rw [← hsz]; exact c_9)
      omega
    refine z_s 13 hB_z dX4_put_12 rfl rfl ?_
    refine z_callV 16 hB_z hM_z.2.1 kX4_20 dX4_put_13 rfl g1 rfl (c_X4_dropOldest (d_z := 0) hsf (by omega) hN_z hN2) (by omega) rfl rfl (Nat.le_of_ble_eq_true rfl) ⟨Nat.le_refl _, Nat.le_refl _⟩ ?_
    rintro _ _ ⟨rfl, I1, R1, rfl, hf1, hR1, hq1, hI1⟩
    have hsf1 : z_sf (z_w zS I1 R1) f_z a_z N_z b_z (fun j_z => if j_z < N_z - 1 then r_z (j_z + 1) else r_z 0) := by
      refine ⟨g1, (hR1 f_z 0 (by omega)).trans g2, g3_z, fun j_z hj => ?_, fun j_z hj => ?_, fun i_z j_z hi_z hj hij => ?_, fun i_z hi_z => ?_⟩
      · show R1 a_z j_z = _
        rw [hq1 j_z hj]
        dsimp only
        by_cases h_z : j_z < N_z - 1
        · rw [if_pos h_z, if_pos h_z]
        · rw [if_neg h_z, if_neg h_z]
      · dsimp only
        by_cases h_z : j_z < N_z - 1
        · rw [if_pos h_z]; exact g5_z _ (by omega)
        · rw [if_neg h_z]; exact g5_z _ hN_z
      · dsimp only at hij
        by_cases h_z : i_z < N_z - 1 <;> by_cases h2 : j_z < N_z - 1
        · rw [if_pos h_z, if_pos h2] at hij
          have := g6 _ _ (by omega) (by omega) hij
          omega
        · rw [if_pos h_z, if_neg h2] at hij
          have := g6 _ _ (by omega) hN_z hij
          omega
        · rw [if_neg h_z, if_pos h2] at hij
          have := g6 _ _ hN_z (by omega) hij
          omega
        · omega
      · have k_z := g7 i_z hi_z
        exact ⟨k_z.1, (hR1 _ _ (by omega)).trans k_z.2.1, k_z.2.2.1, (hR1 _ _ (by omega)).trans k_z.2.2.2.1, k_z.2.2.2.2⟩
    have hs1 : z_st (z_w zS I1 R1) o := ⟨hso.1, (hR1 _ _ (by omega)).trans hso.2.1, hso.2.2.1, (hR1 _ _ (by omega)).trans hso.2.2.2.1, hso.2.2.2.2⟩
    have er : ∀ j_z, j_z < N_z - 1 → r_z (j_z + 1) ≠ r_z 0 := fun j_z hj q_z => by
      have := g6 (j_z + 1) 0 (by omega) hN_z q_z
      omega
    refine step (z_w zS I1 R1) _ (N_z - 1) hsf1 hI1 (by omega) hs1 (hT_z.fr hf1 ⟨by omega, by omega⟩) ?_
    intro I2_z hf2 hT2
    have g50 := g5_z 0 hN_z
    rw [show (if N_z - 1 < N_z - 1 then r_z (N_z - 1 + 1) else r_z 0) = r_z 0 from if_neg (Nat.lt_irrefl _)] at hf2 hT2
    refine ⟨rfl, _, _, rfl, (((hf1.mono (fun q_z hq => Or.inl hq)).tr (hf2.mono (fun q_z hq => by rcases hq with hq | hq <;> exact Or.inr (by omega)))).u2 (Or.inl rfl)), hR1, ?_⟩
    rw [if_neg (by omega), if_neg (by omega)]
    refine ⟨_, hsf1, (z_u2_same _ _ _ _).trans (by rw [show N_z - 1 + 1 = N_z by omega]), Nat.le_refl _, fun j_z hj => ?_⟩
    have e_z := (z_fr.rf (P_z := fun q_z => q_z = f_z) (zI := I2_z)).u2 (o := f_z) (k_z := 1) (v_z := nI (N_z - 1 + 1)) rfl
    show z_rT (z_u2 I2_z f_z 1 (nI (N_z - 1 + 1))) (b_z + 3 * (if j_z < N_z - 1 then r_z (j_z + 1) else r_z 0)) (if j_z = N_z - 1 then zT else U_z (j_z + 1))
    by_cases h_z : j_z = N_z - 1
    · rw [if_pos h_z, if_neg (by omega)]
      exact hT2.fr e_z ⟨by omega, by omega⟩
    · have h2 := er j_z (by omega)
      rw [if_neg h_z, if_pos (by omega)]
      have h3 := g5_z (j_z + 1) (by omega)
      exact (((hU (j_z + 1) (by omega)).fr hf1 ⟨by omega, by omega⟩).fr hf2 ⟨by omega, by omega⟩).fr e_z ⟨by omega, by omega⟩

