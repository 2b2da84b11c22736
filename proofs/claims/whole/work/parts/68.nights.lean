/-! the model: settle, pass, behind, ham -/
theorem z_RM.ofTs {zI zI' : Nat → Nat → Int32} {A_z : z_Ab} {x_z : Nat → Int32} (h_z : z_RM zI A_z) (hf : z_f2 (fun q_z k_z => z_scM q_z k_z ∨ q_z = 106) zI zI') (g1 : z_rW zI' 106 0 x_z) : z_RM zI' (z_setT A_z x_z) := by
  have h1 : z_RM (fun q_z k_z => if q_z = 106 then zI q_z k_z else zI' q_z k_z) A_z := h_z.scr (fun q_z k_z hq => by
    by_cases e_z : q_z = 106
    · exact if_pos e_z
    · exact (if_neg e_z).trans (hf q_z k_z (fun z_z => z_z.elim hq e_z)))
  exact h1.ofT (fun q_z k_z hq => (if_neg hq).symm) g1
theorem z_qn_eq {Q_z : Int32} (h6 : z_qn Q_z ≤ 6) (hq : z_OQ Q_z) : (6 : Int32) ≤ z_bc Q_z ↔ z_qn Q_z = 6 := by
  rw [hq.bc]
  constructor
  · intro q_z
    have := (nI_leI (show 6 < 2 ^ 31 by decide) (show z_qn Q_z < 2 ^ 31 by omega)).mp q_z
    omega
  · intro q_z
    rw [q_z]
    decide
theorem z_nI_inj {a_z b_z : Nat} (ha_z : a_z < 2 ^ 31) (hb_z : b_z < 2 ^ 31) (h_z : nI a_z = nI b_z) : a_z = b_z := by
  have h1 := (nI_leI ha_z hb_z).mp (by rw [h_z]; exact Int32.le_refl _)
  have h2 := (nI_leI hb_z ha_z).mp (by rw [h_z]; exact Int32.le_refl _)
  omega
theorem z_set1 {A_z : z_Ab} {j_z k_z : Nat} (hj : z_in (nI j_z) (z_AV A_z).2.1) (hk : z_in (nI k_z) (z_AV A_z).2.1) (h1 : j_z < 6) (h2 : k_z < 6) (hjk : nI j_z ≠ nI k_z) (hc_z : ¬ (z_hb (z_AT A_z 4) (z_pr j_z k_z) = false ∧ 6 ≤ z_bc (z_AT A_z 4))) : z_settle A_z (nI j_z) (nI k_z) = (z_setT (z_setU A_z (z_push (z_AU A_z) (z_AT A_z) 8)) (z_putT (z_AT A_z) 4 (z_AT A_z 4 ^^^ (1 <<< (nI (z_pr j_z k_z) &&& 31)))), if z_hb (z_AT A_z 4 ^^^ (1 <<< (nI (z_pr j_z k_z) &&& 31))) (z_pr j_z k_z) = true then 1 else 0) := by
  unfold z_settle
  rw [nI_clamp (by omega), nI_clamp (by omega)]
  exact (if_pos ⟨hj, hk, hjk⟩).trans (if_neg hc_z)
theorem z_set0 {A_z : z_Ab} {j_z k_z : Nat} (hj : z_in (nI j_z) (z_AV A_z).2.1) (hk : z_in (nI k_z) (z_AV A_z).2.1) (h1 : j_z < 6) (h2 : k_z < 6) (hjk : nI j_z ≠ nI k_z) (hc_z : z_hb (z_AT A_z 4) (z_pr j_z k_z) = false ∧ 6 ≤ z_bc (z_AT A_z 4)) : z_settle A_z (nI j_z) (nI k_z) = (A_z, -3) := by
  unfold z_settle
  rw [nI_clamp (by omega), nI_clamp (by omega)]
  exact (if_pos ⟨hj, hk, hjk⟩).trans (if_pos hc_z)
set_option maxHeartbeats 4000000 in
theorem c_X10_settle {g_z : z_U} {d_z : Nat} {zS : z_S} {A_z : z_Ab} (hN_z : z_LM zS) (hR : z_RM (z_I zS) A_z) (hO : z_OV (z_AV A_z)) (hT_z : z_OT (z_AT A_z)) (hu8 : (z_AU A_z).2 ≤ 8) {a_z b_z : Int32} : z_C g_z (d_z + 4) 0 0 mX10_settle [.ref 99, .int a_z, .int b_z] zS (z_MC zS (z_settle A_z a_z b_z)) := by
  refine z_enter [some (.ref 99), some (.int a_z), some (.int b_z)] rfl rfl (Nat.le_of_ble_eq_true rfl) rfl (fun zX hM_z => ?_)
  have hB_z : z_B g_z zX RX10 cX10_settle 3 := hM_z.1
  have hn6 := hO.2.1
  obtain ⟨hA, hQ, hq6, -⟩ := id hT_z
  refine z_s 1 hB_z dX10_settle_0 rfl rfl ?_
  refine z_s 2 hB_z dX10_settle_1 rfl rfl ?_
  refine z_s 3 hB_z dX10_settle_2 rfl rfl ?_
  refine z_callV 6 hB_z hM_z.2.1 kX10_180 dX10_settle_3 rfl (N99 (zS := zS) hN_z) rfl (c_X10_areTwo (d_z := 0) hN_z hR.sn (by omega)) (by omega) rfl rfl (Nat.le_of_ble_eq_true rfl) ⟨Nat.le_refl _, Nat.le_refl _⟩ ?_
  rintro _ _ ⟨rfl, w_z, rfl, hw⟩
  refine z_b 9 11 hB_z dX10_settle_6 rfl rfl (by decide) (fun c_6 => ?_) (fun c_6 => ?_)
  ·
    obtain ⟨w1_z, w2_z, w3_z⟩ := hw.elim (fun z_z => absurd z_z.1 c_6) (fun z_z => z_z.2)
    obtain ⟨j_z, hj, rfl⟩ := w1_z.of (by omega)
    obtain ⟨k_z, hk, rfl⟩ := w2_z.of (by omega)
    have hjk : j_z ≠ k_z := fun z_z => w3_z (by rw [z_z])
    refine z_s 12 hB_z dX10_settle_11 rfl rfl ?_
    refine z_getR 15 hB_z fX10_28 (N99 (zS := zS) hN_z) dX10_settle_12 rfl rfl (n99_15 (zS := zS) hN_z) ?_
    refine z_s 16 hB_z dX10_settle_15 rfl rfl ?_
    refine z_s 17 hB_z dX10_settle_16 rfl rfl ?_
    refine z_s 18 hB_z dX10_settle_17 rfl rfl ?_
    rw [z_n5]
    refine z_ald 19 hB_z (N106 (zS := zS) hN_z) dX10_settle_18 rfl (vp_in_nI (show 5 + j_z < 17 by omega) (by decide)) ?_
    rw [nI_clamp (by omega), show z_I zS 106 (5 + j_z) = z_qr (z_AT A_z 4) j_z 6 from (congrArg (z_I zS 106) (show 5 + j_z = 0 + 5 + j_z by omega)).trans (hR.nw.aq j_z (by omega))]
    refine z_s 20 hB_z dX10_settle_19 rfl rfl ?_
    refine z_callS 23 hB_z hM_z.2.1 kX10_107 dX10_settle_20 rfl (c_X10_has (d_z := 0)) (by omega) rfl rfl (Nat.le_of_ble_eq_true rfl) ⟨Nat.le_refl _, Nat.le_refl _⟩ ?_
    rintro _ _ ⟨rfl, rfl⟩
    rw [show (if z_qr (z_AT A_z 4) j_z 6 >>> (nI k_z &&& 31) &&& 1 = 1 then (1 : Int32) else 0) = if z_hb (z_AT A_z 4) (z_pr j_z k_z) = true then 1 else 0 from by rw [z_qr_bit _ _ _ (by omega), z_qb_pr hjk]; cases z_hb (z_AT A_z 4) (z_pr j_z k_z) <;> rfl]
    refine z_b 26 42 hB_z dX10_settle_23 rfl rfl (by decide) (fun c_23 => ?_) (fun c_23 => ?_)
    ·
      have hcond : ¬ (z_hb (z_AT A_z 4) (z_pr j_z k_z) = false ∧ 6 ≤ z_bc (z_AT A_z 4)) := fun z_z => by rw [z_if1 c_23] at z_z; exact Bool.noConfusion z_z.1
      refine z_s 43 hB_z dX10_settle_42 rfl rfl ?_
      refine z_callV 46 hB_z hM_z.2.1 kX10_183 dX10_settle_43 rfl (N99 (zS := zS) hN_z) rfl (c_X10_note (d_z := 0) hN_z hR hu8) (by omega) rfl rfl (Nat.le_of_ble_eq_true rfl) ⟨Nat.le_refl _, Nat.le_refl _⟩ ?_
      rintro _ _ ⟨rfl, I1, rfl, hR1, hf1⟩
      refine z_s 47 hB_z dX10_settle_46 rfl rfl ?_
      refine z_getR 50 hB_z fX10_28 (N99 (zS := zS) hN_z) dX10_settle_47 rfl rfl (n99_15 (zS := zS) hN_z) ?_
      refine z_s 51 hB_z dX10_settle_50 rfl rfl ?_
      refine z_s 52 hB_z dX10_settle_51 rfl rfl ?_
      refine z_s 53 hB_z dX10_settle_52 rfl rfl ?_
      refine z_callS 56 hB_z hM_z.2.1 kX10_54 dX10_settle_53 rfl (c_X10_turn (zS := z_up zS I1) (d_z := 0) (f_z := 5) (a_z := j_z) (b_z := k_z) (N106 hN_z) (by omega) (by omega) (by decide)) (by omega) rfl rfl (Nat.le_of_ble_eq_true rfl) ⟨Nat.le_refl _, Nat.le_refl _⟩ ?_
      rintro _ _ ⟨rfl, rfl⟩
      have hW2 : z_rW (z_trn I1 106 5 j_z k_z) 106 0 (z_putT (z_AT A_z) 4 (z_AT A_z 4 ^^^ (1 <<< (nI (z_pr j_z k_z) &&& 31)))) := hR1.nw.trn (by omega) (by omega) hjk
      refine z_s 57 hB_z dX10_settle_56 rfl rfl ?_
      refine z_getR 60 hB_z fX10_28 (N99 (zS := zS) hN_z) dX10_settle_57 rfl rfl (n99_15 (zS := zS) hN_z) ?_
      refine z_s 61 hB_z dX10_settle_60 rfl rfl ?_
      refine z_s 62 hB_z dX10_settle_61 rfl rfl ?_
      refine z_s 63 hB_z dX10_settle_62 rfl rfl ?_
      rw [z_n5]
      refine z_ald 64 hB_z (N106 (zS := zS) hN_z) dX10_settle_63 rfl (vp_in_nI (show 5 + j_z < 17 by omega) (by decide)) ?_
      rw [nI_clamp (by omega), show z_I (z_up (z_up zS I1) (z_trn (z_I (z_up zS I1)) 106 5 j_z k_z)) 106 (5 + j_z) = z_qr (z_AT A_z 4 ^^^ (1 <<< (nI (z_pr j_z k_z) &&& 31))) j_z 6 from (congrArg (z_trn I1 106 5 j_z k_z 106) (show 5 + j_z = 0 + 5 + j_z by omega)).trans ((hW2.aq j_z (by omega)).trans (by rw [show z_putT (z_AT A_z) 4 (z_AT A_z 4 ^^^ (1 <<< (nI (z_pr j_z k_z) &&& 31))) 4 = z_AT A_z 4 ^^^ (1 <<< (nI (z_pr j_z k_z) &&& 31)) from if_pos rfl]))]
      refine z_s 65 hB_z dX10_settle_64 rfl rfl ?_
      refine z_s 66 hB_z dX10_settle_65 rfl rfl ?_
      refine z_s 67 hB_z dX10_settle_66 rfl rfl ?_
      refine z_s 68 hB_z dX10_settle_67 rfl rfl ?_
      refine z_iret hM_z dX10_settle_68 rfl ?_ rfl rfl
      refine ⟨congrArg (fun q_z => some (Value.int q_z)) ?_, z_trn I1 106 5 j_z k_z, rfl, ?_, ((hf1.mono (fun q_z k_z h_z => by omega)).u2 (by decide)).u2 (by decide)⟩
      · rw [z_set1 w1_z w2_z (by omega) (by omega) w3_z hcond, z_qr_bit _ _ _ (by omega), z_qb_pr hjk]
      · rw [z_set1 w1_z w2_z (by omega) (by omega) w3_z hcond]
        exact hR1.ofT (by unfold z_trn; refine z_f2.u2 (z_f2.u2 z_f2.rf ?_) ?_ <;> exact rfl) hW2
    ·
      refine z_s 27 hB_z dX10_settle_26 rfl rfl ?_
      refine z_getR 30 hB_z fX10_28 (N99 (zS := zS) hN_z) dX10_settle_27 rfl rfl (n99_15 (zS := zS) hN_z) ?_
      refine z_s 31 hB_z dX10_settle_30 rfl rfl ?_
      refine z_callS 34 hB_z hM_z.2.1 kX10_111 dX10_settle_31 rfl (c_X10_quarrelsIn (d_z := 0) (f_z := 5) (N106 hN_z) (by decide) (by decide)) (by omega) rfl rfl (Nat.le_of_ble_eq_true rfl) ⟨Nat.le_refl _, Nat.le_refl _⟩ ?_
      rintro _ _ ⟨rfl, rfl⟩
      rw [z_sb_qr (zI := z_I zS) (o := 106) (f_z := 5) (Q_z := z_AT A_z 4) (fun a_z ha_z => (congrArg (z_I zS 106) (show 5 + a_z = 0 + 5 + a_z by omega)).trans (hR.nw.aq a_z ha_z))]
      refine z_s 36 hB_z dX10_settle_34 rfl rfl ?_
      refine z_b 39 42 hB_z dX10_settle_36 rfl rfl (by decide) (fun c_36 => ?_) (fun c_36 => ?_)
      ·
        have hcond : ¬ (z_hb (z_AT A_z 4) (z_pr j_z k_z) = false ∧ 6 ≤ z_bc (z_AT A_z 4)) := fun z_z => c_36 (by rw [(z_qn_eq hq6 hQ).mp z_z.2]; rfl)
        refine z_s 43 hB_z dX10_settle_42 rfl rfl ?_
        refine z_callV 46 hB_z hM_z.2.1 kX10_183 dX10_settle_43 rfl (N99 (zS := zS) hN_z) rfl (c_X10_note (d_z := 0) hN_z hR hu8) (by omega) rfl rfl (Nat.le_of_ble_eq_true rfl) ⟨Nat.le_refl _, Nat.le_refl _⟩ ?_
        rintro _ _ ⟨rfl, I1, rfl, hR1, hf1⟩
        refine z_s 47 hB_z dX10_settle_46 rfl rfl ?_
        refine z_getR 50 hB_z fX10_28 (N99 (zS := zS) hN_z) dX10_settle_47 rfl rfl (n99_15 (zS := zS) hN_z) ?_
        refine z_s 51 hB_z dX10_settle_50 rfl rfl ?_
        refine z_s 52 hB_z dX10_settle_51 rfl rfl ?_
        refine z_s 53 hB_z dX10_settle_52 rfl rfl ?_
        refine z_callS 56 hB_z hM_z.2.1 kX10_54 dX10_settle_53 rfl (c_X10_turn (zS := z_up zS I1) (d_z := 0) (f_z := 5) (a_z := j_z) (b_z := k_z) (N106 hN_z) (by omega) (by omega) (by decide)) (by omega) rfl rfl (Nat.le_of_ble_eq_true rfl) ⟨Nat.le_refl _, Nat.le_refl _⟩ ?_
        rintro _ _ ⟨rfl, rfl⟩
        have hW2 : z_rW (z_trn I1 106 5 j_z k_z) 106 0 (z_putT (z_AT A_z) 4 (z_AT A_z 4 ^^^ (1 <<< (nI (z_pr j_z k_z) &&& 31)))) := hR1.nw.trn (by omega) (by omega) hjk
        refine z_s 57 hB_z dX10_settle_56 rfl rfl ?_
        refine z_getR 60 hB_z fX10_28 (N99 (zS := zS) hN_z) dX10_settle_57 rfl rfl (n99_15 (zS := zS) hN_z) ?_
        refine z_s 61 hB_z dX10_settle_60 rfl rfl ?_
        refine z_s 62 hB_z dX10_settle_61 rfl rfl ?_
        refine z_s 63 hB_z dX10_settle_62 rfl rfl ?_
        rw [z_n5]
        refine z_ald 64 hB_z (N106 (zS := zS) hN_z) dX10_settle_63 rfl (vp_in_nI (show 5 + j_z < 17 by omega) (by decide)) ?_
        rw [nI_clamp (by omega), show z_I (z_up (z_up zS I1) (z_trn (z_I (z_up zS I1)) 106 5 j_z k_z)) 106 (5 + j_z) = z_qr (z_AT A_z 4 ^^^ (1 <<< (nI (z_pr j_z k_z) &&& 31))) j_z 6 from (congrArg (z_trn I1 106 5 j_z k_z 106) (show 5 + j_z = 0 + 5 + j_z by omega)).trans ((hW2.aq j_z (by omega)).trans (by rw [show z_putT (z_AT A_z) 4 (z_AT A_z 4 ^^^ (1 <<< (nI (z_pr j_z k_z) &&& 31))) 4 = z_AT A_z 4 ^^^ (1 <<< (nI (z_pr j_z k_z) &&& 31)) from if_pos rfl]))]
        refine z_s 65 hB_z dX10_settle_64 rfl rfl ?_
        refine z_s 66 hB_z dX10_settle_65 rfl rfl ?_
        refine z_s 67 hB_z dX10_settle_66 rfl rfl ?_
        refine z_s 68 hB_z dX10_settle_67 rfl rfl ?_
        refine z_iret hM_z dX10_settle_68 rfl ?_ rfl rfl
        refine ⟨congrArg (fun q_z => some (Value.int q_z)) ?_, z_trn I1 106 5 j_z k_z, rfl, ?_, ((hf1.mono (fun q_z k_z h_z => by omega)).u2 (by decide)).u2 (by decide)⟩
        · rw [z_set1 w1_z w2_z (by omega) (by omega) w3_z hcond, z_qr_bit _ _ _ (by omega), z_qb_pr hjk]
        · rw [z_set1 w1_z w2_z (by omega) (by omega) w3_z hcond]
          exact hR1.ofT (by unfold z_trn; refine z_f2.u2 (z_f2.u2 z_f2.rf ?_) ?_ <;> exact rfl) hW2
      ·
        have hcond : z_hb (z_AT A_z 4) (z_pr j_z k_z) = false ∧ 6 ≤ z_bc (z_AT A_z 4) := ⟨z_if0 c_23, (z_qn_eq hq6 hQ).mpr (z_nI_inj (by omega) (by decide) (show nI (z_qn (z_AT A_z 4)) = nI 6 from c_36))⟩
        refine z_s 41 hB_z dX10_settle_39 rfl rfl ?_
        refine z_iret hM_z dX10_settle_41 rfl ?_ rfl rfl
        exact z_MC.of hR (z_set0 w1_z w2_z (by omega) (by omega) w3_z hcond)
  ·
    have hs := hw.elim (fun z_z => z_z.2) (fun z_z => absurd (z_z.1.symm.trans c_6) (by decide))
    refine z_s 10 hB_z dX10_settle_9 rfl rfl ?_
    refine z_iret hM_z dX10_settle_10 rfl ?_ rfl rfl
    exact z_MC.of hR (if_neg hs)

set_option maxHeartbeats 2000000 in
theorem c_X10_pass {g_z : z_U} {d_z : Nat} {zS : z_S} {A_z : z_Ab} (hN_z : z_LM zS) (hR : z_RM (z_I zS) A_z) (hO : z_OV (z_AV A_z)) (hT_z : z_OT (z_AT A_z)) (hu8 : (z_AU A_z).2 ≤ 8) {n_z : Int32} : z_C g_z (d_z + 4) 0 0 mX10_pass [.ref 99, .int n_z] zS (z_MC zS (z_pass A_z n_z)) := by
  refine z_enter [some (.ref 99), some (.int n_z), none] rfl rfl (Nat.le_of_ble_eq_true rfl) rfl (fun zX hM_z => ?_)
  have hB_z : z_B g_z zX RX10 cX10_pass 3 := hM_z.1
  have loop := fun (k_z : Nat) (hk : k_z ≤ 14) (hin : 1 ≤ nI k_z ∧ nI k_z ≤ 14) (hM_z : z_BM g_z zX (d_z + 4) 0 0 mX10_pass (z_MC zS (z_pass A_z (nI k_z)))) (I1 : Nat → Nat → Int32) (hR1 : z_RM I1 (z_setU A_z (z_push (z_AU A_z) (z_AT A_z) 8))) (hf1 : z_f2 (fun q_z k_z => q_z = 108 ∨ (q_z = 99 ∧ k_z = 18)) (z_I zS) I1) => z_loop (fun j_z => ∀ I2_z, z_f2 (fun q_z k_z => z_PLN q_z k_z ∨ q_z = 106 ∨ (q_z = 99 ∧ k_z = 25)) I1 I2_z → z_rW I2_z 106 0 (z_gob (z_AV A_z) j_z (z_AT A_z)) → I2_z 99 25 = -4 → z_W g_z zX 24 [some (.ref 99), some (.int (nI k_z)), some (.int (nI j_z))] [] 0 0 (z_up zS I2_z)) k_z (fun j_z hj ih_z I2_z hf hW h25 => by
    refine z_s 25 hB_z dX10_pass_24 rfl rfl ?_
    refine z_s 26 hB_z dX10_pass_25 rfl rfl ?_
    refine z_b 29 44 hB_z dX10_pass_26 rfl rfl (by decide) (fun c_26 => ?_) (fun c_26 => ?_)
    ·
      have hjk : j_z = k_z := by
        have := (nI_leI (by omega) (by omega)).mp c_26
        omega
      subst hjk
      refine z_s 45 hB_z dX10_pass_44 rfl rfl ?_
      refine z_getR 48 hB_z fX10_28 (N99 (zS := zS) hN_z) dX10_pass_45 rfl rfl (n99_15 (zS := zS) hN_z) ?_
      refine z_s 49 hB_z dX10_pass_48 rfl rfl ?_
      refine z_ald 50 hB_z (N106 (zS := zS) hN_z) dX10_pass_49 rfl (vp_in_nI (show 0 < 17 by decide) (by decide)) ?_
      rw [z_c0, show z_I (z_up zS I2_z) 106 0 = z_gob (z_AV A_z) j_z (z_AT A_z) 0 from hW.a0]
      refine z_iret hM_z dX10_pass_50 rfl ?_ rfl rfl
      have e_z : z_pass A_z (nI j_z) = (z_setT (z_setU A_z (z_push (z_AU A_z) (z_AT A_z) 8)) (z_gob (z_AV A_z) j_z (z_AT A_z)), z_gob (z_AV A_z) j_z (z_AT A_z) 0) := by
        unfold z_pass
        rw [nI_clamp (by omega)]
        exact if_pos hin
      rw [e_z]
      exact ⟨rfl, I2_z, rfl, hR1.ofTs (hf.mono (fun q_z k_z h_z => by rcases h_z with h_z | h_z | h_z; exact Or.inl (z_PLN_sc q_z k_z h_z); exact Or.inr h_z; exact Or.inl (by unfold z_scM; omega))) hW, (hf1.mono (fun q_z k_z h_z => by omega)).tr (hf.mono (fun q_z k_z h_z => by rcases h_z with h_z | h_z | h_z; unfold z_PLN at h_z; omega; omega; omega))⟩
    ·
      have hjk : j_z < k_z := (nI_ltI (by omega) (by omega)).mp c_26
      refine z_s 30 hB_z dX10_pass_29 rfl rfl ?_
      refine z_s 31 hB_z dX10_pass_30 rfl rfl ?_
      refine z_getR 34 hB_z fX10_28 (N99 (zS := zS) hN_z) dX10_pass_31 rfl rfl (n99_15 (zS := zS) hN_z) ?_
      refine z_callV 37 hB_z hM_z.2.1 kX10_186 dX10_pass_34 rfl (N99 (zS := zS) hN_z) rfl (c_X10_goBy (zS := z_up zS I2_z) (d_z := 0) hN_z hO (hR.mv.fr ((hf1.mono (fun q_z k_z h_z => (Or.inl h_z : (q_z = 108 ∨ (q_z = 99 ∧ k_z = 18)) ∨ (z_PLN q_z k_z ∨ q_z = 106 ∨ (q_z = 99 ∧ k_z = 25))))).tr (hf.mono (fun q_z k_z h_z => Or.inr h_z))) (by unfold z_PLN; omega) (by unfold z_PLN; omega) (by unfold z_PLN; omega) (fun _ => by unfold z_PLN; omega) (fun _ => by unfold z_PLN; omega)) (db := -4) h25 (N106 hN_z) (Or.inl rfl) hW ((hT_z.1.gob j_z).to hO.2.1) (dog := z_hasDog (z_AV A_z) (z_gob (z_AV A_z) j_z (z_AT A_z) 0)) (if_pos rfl)) (by omega) rfl rfl (Nat.le_of_ble_eq_true rfl) ⟨Nat.le_refl _, Nat.le_refl _⟩ ?_
      rintro _ _ ⟨rfl, I3, rfl, hf3, hW3, -, -⟩
      refine z_s 38 hB_z dX10_pass_37 rfl rfl ?_
      refine z_s 41 hB_z dX10_pass_38 rfl rfl ?_
      refine z_j 24 hB_z dX10_pass_41 (by decide) ?_
      exact z_wkn (ih_z hjk I3 (hf.tr (hf3.mono (fun q_z k_z h_z => by rcases h_z with h_z | h_z; exact Or.inl h_z; exact Or.inr (Or.inl h_z)))) hW3 ((hf3 99 25 (by unfold z_PGM z_PLN; omega)).trans h25)) ⟨rfl, rfl, congrArg (fun q_z => some (Value.int q_z)) (z_inc j_z), trivial⟩) 0 (Nat.zero_le _)
  refine z_s 1 hB_z dX10_pass_0 rfl rfl ?_
  refine z_s 2 hB_z dX10_pass_1 rfl rfl ?_
  refine z_s 4 hB_z dX10_pass_2 rfl rfl ?_
  refine z_callS 7 hB_z hM_z.2.1 kX10_67 dX10_pass_4 rfl (c_X10_in (d_z := 0)) (by omega) rfl rfl (Nat.le_of_ble_eq_true rfl) ⟨Nat.le_refl _, Nat.le_refl _⟩ ?_
  rintro _ _ ⟨rfl, rfl⟩
  refine z_b 10 12 hB_z dX10_pass_7 rfl rfl (by decide) (fun c_7 => ?_) (fun c_7 => ?_)
  ·
    have hin := z_of1 c_7
    obtain ⟨k_z, hk, rfl⟩ := z_le28 (Int32.le_trans (by decide) hin.1) (m_z := 14) (by decide) hin.2
    refine z_s 13 hB_z dX10_pass_12 rfl rfl ?_
    refine z_callV 16 hB_z hM_z.2.1 kX10_183 dX10_pass_13 rfl (N99 (zS := zS) hN_z) rfl (c_X10_note (d_z := 0) hN_z hR hu8) (by omega) rfl rfl (Nat.le_of_ble_eq_true rfl) ⟨Nat.le_refl _, Nat.le_refl _⟩ ?_
    rintro _ _ ⟨rfl, I1, rfl, hR1, hf1⟩
    refine z_s 17 hB_z dX10_pass_16 rfl rfl ?_
    refine z_s 19 hB_z dX10_pass_17 rfl rfl ?_
    refine z_putI 22 hB_z fX10_139 (N99 (zS := zS) hN_z) dX10_pass_19 rfl rfl rfl ?_
    refine z_s 23 hB_z dX10_pass_22 rfl rfl ?_
    refine z_s 24 hB_z dX10_pass_23 rfl rfl ?_
    exact z_eqS (z_wkn (loop k_z hk hin hM_z I1 hR1 hf1 (z_u2 I1 99 25 (-4)) (z_f2.rf.u2 (Or.inr (Or.inr ⟨rfl, rfl⟩))) (hR1.nw.fr (fun k_z _ _ => z_u2_ne (Or.inl (by decide)))) (z_u2_same _ _ _ _)) ⟨rfl, rfl, rfl, trivial⟩) rfl
  ·
    refine z_s 11 hB_z dX10_pass_10 rfl rfl ?_
    refine z_iret hM_z dX10_pass_11 rfl ?_ rfl rfl
    exact z_MC.of hR (if_neg (z_of0 c_7))

set_option maxHeartbeats 2000000 in
theorem c_X10_behind {g_z : z_U} {d_z : Nat} {zS : z_S} {A_z : z_Ab} (hN_z : z_LM zS) (hR : z_RM (z_I zS) A_z) (hO : z_OV (z_AV A_z)) (hT_z : z_OA (z_AT A_z)) {n_z what : Int32} : z_C g_z (d_z + 4) 0 0 mX10_behind [.ref 99, .int n_z, .int what] zS (z_MQ zS (z_ansBehind A_z n_z what)) := by
  refine z_enter [some (.ref 99), some (.int n_z), some (.int what), none] rfl rfl (Nat.le_of_ble_eq_true rfl) rfl (fun zX hM_z => ?_)
  have hB_z : z_B g_z zX RX10 cX10_behind 4 := hM_z.1
  have loop := fun (k_z : Nat) (hk : k_z ≤ 28) (hin : 0 ≤ nI k_z ∧ nI k_z ≤ 28) (m_z : Nat) (hm_z : m_z ≤ 2) (hM_z : z_BM g_z zX (d_z + 4) 0 0 mX10_behind (z_MQ zS (z_ansBehind A_z (nI k_z) (nI m_z)))) => z_loop (fun j_z => ∀ I2_z, z_f2 z_scM (z_I zS) I2_z → z_rW I2_z 107 0 (z_gob (z_AV A_z) j_z (z_AT A_z)) → I2_z 99 25 = -4 → z_W g_z zX 27 [some (.ref 99), some (.int (nI k_z)), some (.int (nI m_z)), some (.int (nI j_z))] [] 0 0 (z_up zS I2_z)) k_z (fun j_z hj ih_z I2_z hf hW h25 => by
    refine z_s 28 hB_z dX10_behind_27 rfl rfl ?_
    refine z_s 29 hB_z dX10_behind_28 rfl rfl ?_
    refine z_b 32 47 hB_z dX10_behind_29 rfl rfl (by decide) (fun c_29 => ?_) (fun c_29 => ?_)
    ·
      have hjk : j_z = k_z := by
        have := (nI_leI (by omega) (by omega)).mp c_29
        omega
      subst hjk
      refine z_s 48 hB_z dX10_behind_47 rfl rfl ?_
      refine z_getR 51 hB_z fX10_31 (N99 (zS := zS) hN_z) dX10_behind_48 rfl rfl (n99_16 (zS := zS) hN_z) ?_
      refine z_s 52 hB_z dX10_behind_51 rfl rfl ?_
      refine z_s 53 hB_z dX10_behind_52 rfl rfl ?_
      refine z_s 54 hB_z dX10_behind_53 rfl rfl ?_
      rw [show (1 : Int32) + nI m_z = nI (1 + m_z) from nI_add 1 m_z]
      refine z_ald 55 hB_z (N107 (zS := zS) hN_z) dX10_behind_54 rfl (vp_in_nI (show 1 + m_z < 17 by omega) (by decide)) ?_
      rw [nI_clamp (by omega)]
      refine z_iret hM_z dX10_behind_55 rfl ?_ rfl rfl
      refine z_MQ.ok ?_ hf
      unfold z_ansBehind
      rw [if_pos ⟨hin.1, hin.2, nI_pos' (by omega), (nI_leI (by omega) (show 2 < 2 ^ 31 by decide)).mpr hm_z⟩, nI_clamp (by omega)]
      rcases (show m_z = 0 ∨ m_z = 1 ∨ m_z = 2 by omega) with rfl | rfl | rfl
      · rw [if_pos (show nI 0 = 0 from rfl)]; exact hW.a1
      · rw [if_neg (show ¬ nI 1 = 0 by decide), if_pos (show nI 1 = 1 from rfl)]; exact hW.a2
      · rw [if_neg (show ¬ nI 2 = 0 by decide), if_neg (show ¬ nI 2 = 1 by decide)]; exact hW.a3
    ·
      have hjk : j_z < k_z := (nI_ltI (by omega) (by omega)).mp c_29
      refine z_s 33 hB_z dX10_behind_32 rfl rfl ?_
      refine z_s 34 hB_z dX10_behind_33 rfl rfl ?_
      refine z_getR 37 hB_z fX10_31 (N99 (zS := zS) hN_z) dX10_behind_34 rfl rfl (n99_16 (zS := zS) hN_z) ?_
      refine z_callV 40 hB_z hM_z.2.1 kX10_186 dX10_behind_37 rfl (N99 (zS := zS) hN_z) rfl (c_X10_goBy (zS := z_up zS I2_z) (d_z := 0) hN_z hO (hR.scr hf).mv (db := -4) h25 (N107 hN_z) (Or.inr rfl) hW ((hT_z.gob j_z).to hO.2.1) (dog := z_hasDog (z_AV A_z) (z_gob (z_AV A_z) j_z (z_AT A_z) 0)) (if_pos rfl)) (by omega) rfl rfl (Nat.le_of_ble_eq_true rfl) ⟨Nat.le_refl _, Nat.le_refl _⟩ ?_
      rintro _ _ ⟨rfl, I3, rfl, hf3, hW3, -, -⟩
      refine z_s 41 hB_z dX10_behind_40 rfl rfl ?_
      refine z_s 44 hB_z dX10_behind_41 rfl rfl ?_
      refine z_j 27 hB_z dX10_behind_44 (by decide) ?_
      exact z_wkn (ih_z hjk I3 (hf.tr (hf3.mono z_PGM_sc)) hW3 ((hf3 99 25 (by unfold z_PGM z_PLN; omega)).trans h25)) ⟨rfl, rfl, rfl, congrArg (fun q_z => some (Value.int q_z)) (z_inc j_z), trivial⟩) 0 (Nat.zero_le _)
  refine z_s 1 hB_z dX10_behind_0 rfl rfl ?_
  refine z_s 2 hB_z dX10_behind_1 rfl rfl ?_
  refine z_s 4 hB_z dX10_behind_2 rfl rfl ?_
  refine z_callS 7 hB_z hM_z.2.1 kX10_67 dX10_behind_4 rfl (c_X10_in (d_z := 0)) (by omega) rfl rfl (Nat.le_of_ble_eq_true rfl) ⟨Nat.le_refl _, Nat.le_refl _⟩ ?_
  rintro _ _ ⟨rfl, rfl⟩
  refine z_b 10 19 hB_z dX10_behind_7 rfl rfl (by decide) (fun c_7 => ?_) (fun c_7 => ?_)
  ·
    refine z_s 20 hB_z dX10_behind_19 rfl rfl ?_
    refine z_iret hM_z dX10_behind_20 rfl ?_ rfl rfl
    exact z_MQ.rf (if_neg (fun q_z => z_of0 c_7 ⟨q_z.1, q_z.2.1⟩)).symm
  ·
    refine z_s 11 hB_z dX10_behind_10 rfl rfl ?_
    refine z_s 12 hB_z dX10_behind_11 rfl rfl ?_
    refine z_s 13 hB_z dX10_behind_12 rfl rfl ?_
    refine z_callS 16 hB_z hM_z.2.1 kX10_67 dX10_behind_13 rfl (c_X10_in (d_z := 0)) (by omega) rfl rfl (Nat.le_of_ble_eq_true rfl) ⟨Nat.le_refl _, Nat.le_refl _⟩ ?_
    rintro _ _ ⟨rfl, rfl⟩
    refine z_b 19 21 hB_z dX10_behind_16 rfl rfl (by decide) (fun c_16 => ?_) (fun c_16 => ?_)
    ·
      have hin := z_of1 c_7
      have hiw := z_of1 c_16
      obtain ⟨k_z, hk, rfl⟩ := z_le28 hin.1 (m_z := 28) (by decide) hin.2
      obtain ⟨m_z, hm_z, rfl⟩ := z_le28 hiw.1 (m_z := 2) (by decide) hiw.2
      refine z_s 22 hB_z dX10_behind_21 rfl rfl ?_
      refine z_callV 25 hB_z hM_z.2.1 kX10_190 dX10_behind_22 rfl (N99 (zS := zS) hN_z) rfl (c_X10_begin (d_z := 0) hN_z hR) (by omega) rfl rfl (Nat.le_of_ble_eq_true rfl) ⟨Nat.le_refl _, Nat.le_refl _⟩ ?_
      rintro _ _ ⟨rfl, I1, rfl, hf1, hW1, h25⟩
      refine z_s 26 hB_z dX10_behind_25 rfl rfl ?_
      refine z_s 27 hB_z dX10_behind_26 rfl rfl ?_
      exact z_wkn (loop k_z hk hin m_z hm_z hM_z I1 hf1 hW1 h25) ⟨rfl, rfl, rfl, rfl, trivial⟩
    ·
      refine z_s 20 hB_z dX10_behind_19 rfl rfl ?_
      refine z_iret hM_z dX10_behind_20 rfl ?_ rfl rfl
      exact z_MQ.rf (if_neg (fun q_z => z_of0 c_16 q_z.2.2)).symm

set_option maxHeartbeats 2000000 in
theorem c_X10_ham {g_z : z_U} {d_z : Nat} {zS : z_S} {A_z : z_Ab} (hN_z : z_LM zS) (hR : z_RM (z_I zS) A_z) (hO : z_OV (z_AV A_z)) (hT_z : z_OA (z_AT A_z)) {what : Int32} : z_C g_z (d_z + 4) 0 0 mX10_ham [.ref 99, .int what] zS (z_MQ zS (z_ansHam A_z what)) := by
  refine z_enter [some (.ref 99), some (.int what), none] rfl rfl (Nat.le_of_ble_eq_true rfl) rfl (fun zX hM_z => ?_)
  have hB_z : z_B g_z zX RX10 cX10_ham 3 := hM_z.1
  have loop := z_loop (fun j_z => ∀ I2_z, z_f2 z_scM (z_I zS) I2_z → z_rW I2_z 107 0 (z_gob (z_AV A_z) j_z (z_AT A_z)) → I2_z 99 25 = -4 → z_ansHam A_z what = z_ham1 (z_AV A_z) (z_AT A_z) what (28 - j_z) (j_z + 1) → z_W g_z zX 17 [some (.ref 99), some (.int what), some (.int (nI (j_z + 1)))] [] 0 0 (z_up zS I2_z)) 28 (fun j_z hj ih_z I2_z hf hW h25 he => by
    refine z_s 18 hB_z dX10_ham_17 rfl rfl ?_
    refine z_s 20 hB_z dX10_ham_18 rfl rfl ?_
    refine z_b 23 53 hB_z dX10_ham_20 rfl rfl (by decide) (fun c_20 => ?_) (fun c_20 => ?_)
    ·
      have hj28 : j_z = 28 := by
        have := (nI_ltI (by decide) (by omega)).mp (show nI 28 < nI (j_z + 1) from c_20)
        omega
      subst hj28
      refine z_s 55 hB_z dX10_ham_53 rfl rfl ?_
      refine z_iret hM_z dX10_ham_55 rfl ?_ rfl rfl
      exact z_MQ.ok he.symm hf
    ·
      have hj28 : j_z < 28 := by
        have := (nI_leI (by omega) (by decide)).mp (show nI (j_z + 1) ≤ nI 28 from c_20)
        omega
      rw [z_ham1_step _ _ _ hj28] at he
      refine z_s 24 hB_z dX10_ham_23 rfl rfl ?_
      refine z_s 25 hB_z dX10_ham_24 rfl rfl ?_
      refine z_getR 28 hB_z fX10_31 (N99 (zS := zS) hN_z) dX10_ham_25 rfl rfl (n99_16 (zS := zS) hN_z) ?_
      refine z_callV 31 hB_z hM_z.2.1 kX10_186 dX10_ham_28 rfl (N99 (zS := zS) hN_z) rfl (c_X10_goBy (zS := z_up zS I2_z) (d_z := 0) hN_z hO (hR.scr hf).mv (db := -4) h25 (N107 hN_z) (Or.inr rfl) hW ((hT_z.gob j_z).to hO.2.1) (dog := z_hasDog (z_AV A_z) (z_gob (z_AV A_z) j_z (z_AT A_z) 0)) (if_pos rfl)) (by omega) rfl rfl (Nat.le_of_ble_eq_true rfl) ⟨Nat.le_refl _, Nat.le_refl _⟩ ?_
      rintro _ _ ⟨rfl, I3, rfl, hf3, hW3, h26, -⟩
      refine z_b 34 47 hB_z dX10_ham_31 rfl rfl (by decide) (fun c_31 => ?_) (fun c_31 => ?_)
      ·
        have hng : ¬ 0 < (z_hm1 (z_AV A_z) (z_AT A_z) (j_z + 1)).2.2.1 := z_nlt0 c_31
        rw [if_neg hng] at he
        refine z_s 50 hB_z dX10_ham_47 rfl rfl ?_
        refine z_j 17 hB_z dX10_ham_50 (by decide) ?_
        exact z_wkn (ih_z hj28 I3 (hf.tr (hf3.mono z_PGM_sc)) hW3 ((hf3 99 25 (by unfold z_PGM z_PLN; omega)).trans h25) he) ⟨rfl, rfl, congrArg (fun q_z => some (Value.int q_z)) (z_inc (j_z + 1)), trivial⟩
      ·
        have hg : 0 < (z_hm1 (z_AV A_z) (z_AT A_z) (j_z + 1)).2.2.1 := c_31
        rw [if_pos hg] at he
        refine z_s 35 hB_z dX10_ham_34 rfl rfl ?_
        refine z_b 38 42 hB_z dX10_ham_35 rfl rfl (by decide) (fun c_35 => ?_) (fun c_35 => ?_)
        ·
          refine z_s 43 hB_z dX10_ham_42 rfl rfl ?_
          refine z_getI 46 hB_z fX10_158 (N99 (zS := zS) hN_z) dX10_ham_43 rfl rfl ?_
          rw [show z_I (z_up (z_up zS I2_z) I3) 99 26 = (z_hm1 (z_AV A_z) (z_AT A_z) (j_z + 1)).2.2.2.1 from h26]
          refine z_iret hM_z dX10_ham_46 rfl ?_ rfl rfl
          exact z_MQ.ok (by rw [he, if_neg c_35]) (hf.tr (hf3.mono z_PGM_sc))
        ·
          refine z_s 39 hB_z dX10_ham_38 rfl rfl ?_
          refine z_j 46 hB_z dX10_ham_39 (by decide) ?_
          refine z_iret hM_z dX10_ham_46 rfl ?_ rfl rfl
          exact z_MQ.ok (by rw [he, if_pos c_35]) (hf.tr (hf3.mono z_PGM_sc))) 0 (Nat.zero_le _)
  refine z_s 1 hB_z dX10_ham_0 rfl rfl ?_
  refine z_s 2 hB_z dX10_ham_1 rfl rfl ?_
  refine z_s 3 hB_z dX10_ham_2 rfl rfl ?_
  refine z_callS 6 hB_z hM_z.2.1 kX10_67 dX10_ham_3 rfl (c_X10_in (d_z := 0)) (by omega) rfl rfl (Nat.le_of_ble_eq_true rfl) ⟨Nat.le_refl _, Nat.le_refl _⟩ ?_
  rintro _ _ ⟨rfl, rfl⟩
  refine z_b 9 11 hB_z dX10_ham_6 rfl rfl (by decide) (fun c_6 => ?_) (fun c_6 => ?_)
  ·
    refine z_s 12 hB_z dX10_ham_11 rfl rfl ?_
    refine z_callV 15 hB_z hM_z.2.1 kX10_190 dX10_ham_12 rfl (N99 (zS := zS) hN_z) rfl (c_X10_begin (d_z := 0) hN_z hR) (by omega) rfl rfl (Nat.le_of_ble_eq_true rfl) ⟨Nat.le_refl _, Nat.le_refl _⟩ ?_
    rintro _ _ ⟨rfl, I1, rfl, hf1, hW1, h25⟩
    refine z_s 16 hB_z dX10_ham_15 rfl rfl ?_
    refine z_s 17 hB_z dX10_ham_16 rfl rfl ?_
    exact z_wkn (loop I1 hf1 hW1 h25 (if_pos (z_of1 c_6))) ⟨rfl, rfl, rfl, trivial⟩
  ·
    refine z_s 10 hB_z dX10_ham_9 rfl rfl ?_
    refine z_iret hM_z dX10_ham_10 rfl ?_ rfl rfl
    exact z_MQ.rf (if_neg (z_of0 c_6)).symm

