/-! apart -/
/-- quarrels without those of a set, numbered as they lie: what is left, how many were seen -/
def z_wo (Q_z set_z : Int32) : Nat → Int32 × Nat
  | 0 => (Q_z, 0)
  | p_z + 1 => if z_hb Q_z p_z = true then ((z_wo Q_z set_z p_z).1 ^^^ ((if z_hb set_z (z_wo Q_z set_z p_z).2 = true then 1 else 0) <<< (nI p_z &&& 31)), (z_wo Q_z set_z p_z).2 + 1) else z_wo Q_z set_z p_z
def z_mu (zV : z_V) (zT : Nat → Int32) : Nat → Int32
  | 0 => 0
  | i_z + 1 => z_mu zV zT i_z + (z_dayO zV (z_gob zV i_z zT) (z_hasDog zV (z_gob zV i_z zT 0))).2.1
def z_muV (zV : z_V) (zT : Nat → Int32) (set_z : Int32) (n_z : Nat) : Int32 := z_mu zV (z_putT zT 4 (z_wo (zT 4) set_z 30).1) n_z
def z_ap (zV : z_V) (zT : Nat → Int32) (n_z : Nat) : Nat → Int32 × Int32
  | 0 => (0, -4)
  | j_z + 1 => z_off (z_ap zV zT n_z j_z) (nI j_z) (z_muV zV zT (nI j_z) n_z)
def z_ansApart (A_z : z_Ab) (qn : Nat) (n_z what : Int32) : Int32 := if (1 ≤ n_z ∧ n_z ≤ 14) ∧ 0 ≤ what ∧ what ≤ 1 then (if what = 0 then (z_ap (z_AV A_z) (z_AT A_z) n_z.toNatClampNeg (2 ^ qn)).2 else (z_ap (z_AV A_z) (z_AT A_z) n_z.toNatClampNeg (2 ^ qn)).1) else -1
theorem c_X9_without {g_z : z_U} {d_z : Nat} {zS : z_S} {Q_z set_z : Int32} : z_C g_z (d_z + 1) 0 0 mX9_without [.int Q_z, .int set_z] zS (fun r_z zS' => zS = zS' ∧ r_z = some (.int (z_wo Q_z set_z 30).1)) := by
  refine z_enter [some (.int Q_z), some (.int set_z), none, none, none] rfl rfl (Nat.le_of_ble_eq_true rfl) rfl (fun zX hM_z => ?_)
  have hB_z : z_B g_z zX RX9 cX9_without 5 := hM_z.1
  have loop := z_loop (fun p_z => z_W g_z zX 7 [some (.int Q_z), some (.int set_z), some (.int (z_wo Q_z set_z p_z).1), some (.int (nI (z_wo Q_z set_z p_z).2)), some (.int (nI p_z))] [] 0 0 zS) 30 (fun p_z hp0 ih_z => by
    refine z_s 9 hB_z dX9_without_7 rfl rfl ?_
    refine z_s 11 hB_z dX9_without_9 rfl rfl ?_
    refine z_b 14 43 hB_z dX9_without_11 rfl rfl (by decide) (fun c_11 => ?_) (fun c_11 => ?_)
    ·
      have hp : p_z = 30 := by
        have := (nI_leI (by omega) (by omega)).mp (show nI 30 ≤ nI p_z from c_11)
        omega
      refine z_s 44 hB_z dX9_without_43 rfl rfl ?_
      refine z_iret hM_z dX9_without_44 rfl ?_ rfl rfl
      exact ⟨rfl, by rw [hp]⟩
    ·
      have hp : p_z < 30 := (nI_ltI (by omega) (by omega)).mp (show nI p_z < nI 30 from c_11)
      refine z_s 15 hB_z dX9_without_14 rfl rfl ?_
      refine z_s 17 hB_z dX9_without_15 rfl rfl ?_
      refine z_callS 20 hB_z hM_z.2.1 kX9_193 dX9_without_17 rfl (c_has (d_z := 0)) (by omega) rfl rfl (Nat.le_of_ble_eq_true rfl) ⟨Nat.le_refl _, Nat.le_refl _⟩ ?_
      rintro _ _ ⟨rfl, rfl⟩
      refine z_b 23 37 hB_z dX9_without_20 rfl rfl (by decide) (fun c_20 => ?_) (fun c_20 => ?_)
      ·
        refine z_s 40 hB_z dX9_without_37 rfl rfl ?_
        refine z_j 7 hB_z dX9_without_40 (by decide) ?_
        exact z_eq (ih_z hp) (by rw [← z_inc p_z, show z_wo Q_z set_z (p_z + 1) = z_wo Q_z set_z p_z from if_neg (by rw [z_if0 c_20]; exact Bool.false_ne_true)]; rfl) rfl rfl
      ·
        refine z_s 24 hB_z dX9_without_23 rfl rfl ?_
        refine z_s 25 hB_z dX9_without_24 rfl rfl ?_
        refine z_s 26 hB_z dX9_without_25 rfl rfl ?_
        refine z_callS 29 hB_z hM_z.2.1 kX9_136 dX9_without_26 rfl (c_bit (d_z := 0)) (by omega) rfl rfl (Nat.le_of_ble_eq_true rfl) ⟨Nat.le_refl _, Nat.le_refl _⟩ ?_
        rintro _ _ ⟨rfl, rfl⟩
        refine z_s 31 hB_z dX9_without_29 rfl rfl ?_
        refine z_s 32 hB_z dX9_without_31 rfl rfl ?_
        refine z_s 33 hB_z dX9_without_32 rfl rfl ?_
        refine z_s 34 hB_z dX9_without_33 rfl rfl ?_
        refine z_s 37 hB_z dX9_without_34 rfl rfl ?_
        refine z_s 40 hB_z dX9_without_37 rfl rfl ?_
        refine z_j 7 hB_z dX9_without_40 (by decide) ?_
        exact z_eq (ih_z hp) (by rw [← z_inc p_z, show z_wo Q_z set_z (p_z + 1) = ((z_wo Q_z set_z p_z).1 ^^^ ((if z_hb set_z (z_wo Q_z set_z p_z).2 = true then 1 else 0) <<< (nI p_z &&& 31)), (z_wo Q_z set_z p_z).2 + 1) from if_pos (z_if1 c_20), ← z_inc (z_wo Q_z set_z p_z).2]; rfl) rfl rfl) 0 (Nat.zero_le _)
  refine z_s 1 hB_z dX9_without_0 rfl rfl ?_
  refine z_s 2 hB_z dX9_without_1 rfl rfl ?_
  refine z_s 3 hB_z dX9_without_2 rfl rfl ?_
  refine z_s 4 hB_z dX9_without_3 rfl rfl ?_
  refine z_s 5 hB_z dX9_without_4 rfl rfl ?_
  refine z_s 7 hB_z dX9_without_5 rfl rfl ?_
  exact z_eq loop rfl rfl rfl

theorem z_PT7 : ∀ q_z : Nat, 7 ≤ q_z → q_z < 7 + 19 → ¬ z_PT q_z := fun q_z a_z b_z z_z => by
  rcases z_z with (z_z | z_z) | z_z | z_z <;> omega
theorem z_PGT : ∀ q_z, z_PG 54 q_z → z_PT q_z := fun q_z h_z => by
  rcases h_z with h_z | h_z | h_z
  · exact Or.inl h_z
  · exact Or.inr (Or.inl h_z)
  · exact Or.inr (Or.inr h_z)
set_option maxHeartbeats 1000000 in
theorem c_X9_servedIfMadeUp {g_z : z_U} {d_z : Nat} {zS : z_S} {zV : z_V} {zT : Nat → Int32} (hL : z_L zS) (hV : z_rV (z_I zS) 7 zV) (hT_z : z_rT (z_I zS) 51 zT) {set_z : Int32} {n_z : Nat} (hn : n_z < 1000) : z_C g_z (d_z + 5) 0 0 mX9_servedIfMadeUp [.ref 4, .int set_z, .int (nI n_z)] zS (fun r_z zS' => r_z = some (.int (z_muV zV zT set_z n_z)) ∧ ∃ zI', z_up zS zI' = zS' ∧ z_fr z_PT (z_I zS) zI') := by
  refine z_enter [some (.ref 4), some (.int set_z), some (.int (nI n_z)), none, none] rfl rfl (Nat.le_of_ble_eq_true rfl) rfl (fun zX hM_z => ?_)
  have hB_z : z_B g_z zX RX9 cX9_servedIfMadeUp 5 := hM_z.1
  have loop := z_loop (fun i_z => ∀ I1, z_fr z_PT (z_I zS) I1 → z_rT I1 54 (z_gob zV i_z (z_putT zT 4 (z_wo (zT 4) set_z 30).1)) → z_W g_z zX 34 [some (.ref 4), some (.int set_z), some (.int (nI n_z)), some (.int (z_mu zV (z_putT zT 4 (z_wo (zT 4) set_z 30).1) i_z)), some (.int (nI i_z))] [] 0 0 (z_up zS I1)) n_z (fun i_z hi_z ih_z I1 hf hT1 => by
    refine z_s 36 hB_z dX9_servedIfMadeUp_34 rfl rfl ?_
    refine z_s 37 hB_z dX9_servedIfMadeUp_36 rfl rfl ?_
    refine z_b 40 65 hB_z dX9_servedIfMadeUp_37 rfl rfl (by decide) (fun c_37 => ?_) (fun c_37 => ?_)
    ·
      have hjk : i_z = n_z := by
        have := (nI_leI (by omega) (by omega)).mp (show nI n_z ≤ nI i_z from c_37)
        omega
      refine z_s 66 hB_z dX9_servedIfMadeUp_65 rfl rfl ?_
      refine z_iret hM_z dX9_servedIfMadeUp_66 rfl ?_ rfl rfl
      exact ⟨by rw [hjk]; rfl, I1, rfl, hf⟩
    ·
      have hjk : i_z < n_z := (nI_ltI (by omega) (by omega)).mp (show nI i_z < nI n_z from c_37)
      refine z_s 41 hB_z dX9_servedIfMadeUp_40 rfl rfl ?_
      refine z_s 42 hB_z dX9_servedIfMadeUp_41 rfl rfl ?_
      refine z_getR 45 hB_z fX9_51 (L4_z (zS := zS) hL) dX9_servedIfMadeUp_42 rfl rfl (r4_6 (zS := zS) hL) ?_
      refine z_s 46 hB_z dX9_servedIfMadeUp_45 rfl rfl ?_
      refine z_callV 49 hB_z hM_z.2.1 kX9_189 dX9_servedIfMadeUp_46 rfl (L4_z (zS := zS) hL) rfl (c_X9_goBy (zS := z_up zS I1) (d_z := 0) hL (hV.fr hf z_PT7) (by decide) (s54 hL) hT1 (n_z := 1) (by decide)) (by omega) rfl rfl (Nat.le_of_ble_eq_true rfl) ⟨Nat.le_refl _, Nat.le_refl _⟩ ?_
      rintro _ _ ⟨rfl, I3, rfl, hf3, hT3, hl3⟩
      obtain ⟨w3_z, hN3⟩ := hl3 (by decide)
      refine z_s 50 hB_z dX9_servedIfMadeUp_49 rfl rfl ?_
      refine z_s 51 hB_z dX9_servedIfMadeUp_50 rfl rfl ?_
      refine z_getR 54 hB_z fX9_40 (L4_z (zS := zS) hL) dX9_servedIfMadeUp_51 rfl rfl (r4_4 (zS := zS) hL) ?_
      refine z_getI 57 hB_z fX9_312 (L48 (zS := zS) hL) dX9_servedIfMadeUp_54 rfl rfl ?_
      rw [show z_I (z_up (z_up zS I1) I3) 48 4 = _ from hN3.2.2.1]
      refine z_s 58 hB_z dX9_servedIfMadeUp_57 rfl rfl ?_
      refine z_s 59 hB_z dX9_servedIfMadeUp_58 rfl rfl ?_
      refine z_s 62 hB_z dX9_servedIfMadeUp_59 rfl rfl ?_
      refine z_j 34 hB_z dX9_servedIfMadeUp_62 (by decide) ?_
      exact z_eq (ih_z hjk I3 (hf.tr (hf3.mono z_PGT)) hT3) (by rw [← z_inc i_z]; rfl) rfl rfl) 0 (Nat.zero_le _)
  refine z_s 1 hB_z dX9_servedIfMadeUp_0 rfl rfl ?_
  refine z_getR 4 hB_z fX9_51 (L4_z (zS := zS) hL) dX9_servedIfMadeUp_1 rfl rfl (r4_6 (zS := zS) hL) ?_
  refine z_s 5 hB_z dX9_servedIfMadeUp_4 rfl rfl ?_
  refine z_getR 8 hB_z fX9_47 (L4_z (zS := zS) hL) dX9_servedIfMadeUp_5 rfl rfl (r4_5 (zS := zS) hL) ?_
  refine z_callV 11 hB_z hM_z.2.1 kX9_210 dX9_servedIfMadeUp_8 rfl (L54 (zS := zS) hL) rfl (c_X7_copy (d_z := 0) (s54 hL) (s51 hL) (by decide) (by decide)) (by omega) rfl rfl (Nat.le_of_ble_eq_true rfl) ⟨Nat.le_refl _, Nat.le_refl _⟩ ?_
  rintro _ _ ⟨rfl, I2_z, rfl, hf2, hT2⟩
  have hT3 := hT2 zT hT_z
  have e4_z : z_I (z_up zS I2_z) 51 4 = zT 4 := (hf2 51 4 (by decide)).trans (hT_z.1 4 (by decide))
  refine z_s 12 hB_z dX9_servedIfMadeUp_11 rfl rfl ?_
  refine z_getR 15 hB_z fX9_51 (L4_z (zS := zS) hL) dX9_servedIfMadeUp_12 rfl rfl (r4_6 (zS := zS) hL) ?_
  refine z_s 16 hB_z dX9_servedIfMadeUp_15 rfl rfl ?_
  refine z_getR 19 hB_z fX9_47 (L4_z (zS := zS) hL) dX9_servedIfMadeUp_16 rfl rfl (r4_5 (zS := zS) hL) ?_
  refine z_getI 22 hB_z fX9_173 (L51 (zS := zS) hL) dX9_servedIfMadeUp_19 rfl rfl ?_
  refine z_s 23 hB_z dX9_servedIfMadeUp_22 rfl rfl ?_
  rw [e4_z]
  refine z_callS 26 hB_z hM_z.2.1 kX9_313 dX9_servedIfMadeUp_23 rfl (c_X9_without (d_z := 0)) (by omega) rfl rfl (Nat.le_of_ble_eq_true rfl) ⟨Nat.le_refl _, Nat.le_refl _⟩ ?_
  rintro _ _ ⟨rfl, rfl⟩
  refine z_putI 29 hB_z fX9_173 (L54 (zS := zS) hL) dX9_servedIfMadeUp_26 rfl rfl rfl ?_
  refine z_s 30 hB_z dX9_servedIfMadeUp_29 rfl rfl ?_
  refine z_s 31 hB_z dX9_servedIfMadeUp_30 rfl rfl ?_
  refine z_s 32 hB_z dX9_servedIfMadeUp_31 rfl rfl ?_
  refine z_s 34 hB_z dX9_servedIfMadeUp_32 rfl rfl ?_
  exact z_eq (loop (z_u2 I2_z 54 4 (z_wo (zT 4) set_z 30).1) ((hf2.mono (fun q_z h_z => by rcases h_z with h_z | h_z; exact Or.inr (Or.inl h_z); exact Or.inr (Or.inr h_z))).u2 (Or.inr (Or.inl rfl))) (hT3.put5 (by decide))) rfl rfl rfl

set_option maxHeartbeats 1000000 in
theorem c_X9_apart {g_z : z_U} {d_z : Nat} {zS : z_S} {A_z : z_Ab} (hC : z_RC zS A_z) {qn : Nat} (hqn : z_bc (z_AT A_z 4) = nI qn) (hq6 : qn ≤ 6) {n_z what : Int32} : z_C g_z (d_z + 6) 0 0 mX9_apart [.ref 4, .int n_z, .int what] zS (z_QP zS (z_ansApart A_z qn n_z what)) := by
  refine z_enter [some (.ref 4), some (.int n_z), some (.int what), none, none] rfl rfl (Nat.le_of_ble_eq_true rfl) rfl (fun zX hM_z => ?_)
  have hB_z : z_B g_z zX RX9 cX9_apart 5 := hM_z.1
  obtain ⟨hL, hV, hT_z, hU, hK_z, hS_z, hX⟩ := id hC
  have hn : z_I zS 7 9 = nI (z_AV A_z).2.1 := hV.2.1
  have hm_z : z_I zS 7 10 = nI (z_AV A_z).2.2.1 := hV.2.2.1
  have hn6 := hV.2.2.2.2.1
  have hm10 := hV.2.2.2.2.2
  have h64 := z_pow6 hq6
  have loop := fun (k_z : Nat) (hk : k_z ≤ 14) (hM_z : z_BM g_z zX (d_z + 6) 0 0 mX9_apart (z_QP zS (z_ansApart A_z qn (nI k_z) what))) (hw : (1 ≤ nI k_z ∧ nI k_z ≤ 14) ∧ 0 ≤ what ∧ what ≤ 1) => z_loop (fun j_z => ∀ I1, z_fr z_scr (z_I zS) I1 → z_rQ I1 (z_ap (z_AV A_z) (z_AT A_z) k_z j_z) → z_W g_z zX 45 [some (.ref 4), some (.int (nI k_z)), some (.int what), some (.int (nI (2 ^ qn))), some (.int (nI j_z))] [] 0 0 (z_up zS I1)) (2 ^ qn) (fun j_z hj ih_z I1 hf hq => by
    refine z_s 47 hB_z dX9_apart_45 rfl rfl ?_
    refine z_s 48 hB_z dX9_apart_47 rfl rfl ?_
    refine z_b 51 73 hB_z dX9_apart_48 rfl rfl (by decide) (fun c_48 => ?_) (fun c_48 => ?_)
    ·
      have hj2 : j_z = 2 ^ qn := by
        have := (nI_leI (by omega) (by omega)).mp (show nI (2 ^ qn) ≤ nI j_z from c_48)
        omega
      rw [hj2] at hq
      refine z_s 74 hB_z dX9_apart_73 rfl rfl ?_
      refine z_b 77 87 hB_z dX9_apart_74 rfl rfl (by decide) (fun c_74 => ?_) (fun c_74 => ?_)
      ·
        refine z_s 88 hB_z dX9_apart_87 rfl rfl ?_
        refine z_getR 91 hB_z fX9_76 (L4_z (zS := zS) hL) dX9_apart_88 rfl rfl (r4_10 (zS := zS) hL) ?_
        refine z_getI 94 hB_z fX9_233 (L98 (zS := zS) hL) dX9_apart_91 rfl rfl ?_
        refine z_iret hM_z dX9_apart_94 rfl ?_ rfl rfl
        refine ⟨congrArg (fun q_z => some (Value.int q_z)) (hq.1.trans (Eq.symm ?_)), I1, rfl, hf⟩
        unfold z_ansApart
        rw [if_pos hw, if_neg c_74, nI_clamp (by omega)]
      ·
        refine z_s 78 hB_z dX9_apart_77 rfl rfl ?_
        refine z_getR 81 hB_z fX9_76 (L4_z (zS := zS) hL) dX9_apart_78 rfl rfl (r4_10 (zS := zS) hL) ?_
        refine z_getI 84 hB_z fX9_236 (L98 (zS := zS) hL) dX9_apart_81 rfl rfl ?_
        refine z_j 94 hB_z dX9_apart_84 (by decide) ?_
        refine z_iret hM_z dX9_apart_94 rfl ?_ rfl rfl
        refine ⟨congrArg (fun q_z => some (Value.int q_z)) (hq.2.trans (Eq.symm ?_)), I1, rfl, hf⟩
        unfold z_ansApart
        rw [if_pos hw, if_pos c_74, nI_clamp (by omega)]
    ·
      have hj2 : j_z < 2 ^ qn := (nI_ltI (by omega) (by omega)).mp (show nI j_z < nI (2 ^ qn) from c_48)
      refine z_s 52 hB_z dX9_apart_51 rfl rfl ?_
      refine z_getR 55 hB_z fX9_76 (L4_z (zS := zS) hL) dX9_apart_52 rfl rfl (r4_10 (zS := zS) hL) ?_
      refine z_s 57 hB_z dX9_apart_55 rfl rfl ?_
      refine z_s 58 hB_z dX9_apart_57 rfl rfl ?_
      refine z_s 60 hB_z dX9_apart_58 rfl rfl ?_
      refine z_s 61 hB_z dX9_apart_60 rfl rfl ?_
      refine z_callV 64 hB_z hM_z.2.1 kX9_239 dX9_apart_61 rfl (L4_z (zS := zS) hL) rfl (c_X9_servedIfMadeUp (zS := z_up zS I1) (d_z := 0) hL (hV.fr hf z_scr7) (hT_z.fr hf (by unfold z_scr; omega)) (n_z := k_z) (by omega)) (by omega) rfl rfl (Nat.le_of_ble_eq_true rfl) ⟨Nat.le_refl _, Nat.le_refl _⟩ ?_
      rintro _ _ ⟨rfl, I3, rfl, hf3⟩
      have hq3 : z_rQ (z_I (z_up zS I3)) (z_ap (z_AV A_z) (z_AT A_z) k_z j_z) := ⟨(hf3 98 0 (by unfold z_PT z_PN; omega)).trans hq.1, (hf3 98 1 (by unfold z_PT z_PN; omega)).trans hq.2⟩
      refine z_callV 67 hB_z hM_z.2.1 kX9_230 dX9_apart_64 rfl (L98 (zS := zS) hL) rfl (c_X0_offer (zS := z_up zS I3) (d_z := 0) hL hq3) (by omega) rfl rfl (Nat.le_of_ble_eq_true rfl) ⟨Nat.le_refl _, Nat.le_refl _⟩ ?_
      rintro _ _ ⟨rfl, I4, rfl, hf4, hq4⟩
      refine z_s 70 hB_z dX9_apart_67 rfl rfl ?_
      refine z_j 45 hB_z dX9_apart_70 (by decide) ?_
      exact z_eq (ih_z hj2 I4 ((hf.tr (hf3.mono z_PT_scr)).tr (hf4.mono (fun q_z h_z => Or.inr (Or.inr h_z)))) hq4) (by rw [← z_inc j_z]; rfl) rfl rfl) 0 (Nat.zero_le _)
  refine z_s 1 hB_z dX9_apart_0 rfl rfl ?_
  refine z_s 2 hB_z dX9_apart_1 rfl rfl ?_
  refine z_b 5 20 hB_z dX9_apart_2 rfl rfl (by decide) (fun c_2 => ?_) (fun c_2 => ?_)
  ·
    refine z_s 21 hB_z dX9_apart_20 rfl rfl ?_
    refine z_iret hM_z dX9_apart_21 rfl ?_ rfl rfl
    exact z_QP.rf (by unfold z_ansApart; rw [if_neg (fun q_z => z_nlt0 q_z.1.1 c_2)])
  ·
    refine z_s 6 hB_z dX9_apart_5 rfl rfl ?_
    refine z_s 8 hB_z dX9_apart_6 rfl rfl ?_
    refine z_b 11 20 hB_z dX9_apart_8 rfl rfl (by decide) (fun c_8 => ?_) (fun c_8 => ?_)
    ·
      refine z_s 21 hB_z dX9_apart_20 rfl rfl ?_
      refine z_iret hM_z dX9_apart_21 rfl ?_ rfl rfl
      exact z_QP.rf (by unfold z_ansApart; rw [if_neg (fun q_z => z_nle0 c_8 q_z.1.2)])
    ·
      refine z_s 12 hB_z dX9_apart_11 rfl rfl ?_
      refine z_b 15 20 hB_z dX9_apart_12 rfl rfl (by decide) (fun c_12 => ?_) (fun c_12 => ?_)
      ·
        refine z_s 21 hB_z dX9_apart_20 rfl rfl ?_
        refine z_iret hM_z dX9_apart_21 rfl ?_ rfl rfl
        exact z_QP.rf (by unfold z_ansApart; rw [if_neg (fun q_z => z_nlt0 q_z.2.1 c_12)])
      ·
        refine z_s 16 hB_z dX9_apart_15 rfl rfl ?_
        refine z_s 17 hB_z dX9_apart_16 rfl rfl ?_
        refine z_b 20 22 hB_z dX9_apart_17 rfl rfl (by decide) (fun c_17 => ?_) (fun c_17 => ?_)
        ·
          obtain ⟨k_z, hk, rfl⟩ := z_le28 (Int32.le_trans (by decide) c_2) (m_z := 14) (by decide) c_8
          refine z_s 23 hB_z dX9_apart_22 rfl rfl ?_
          refine z_s 24 hB_z dX9_apart_23 rfl rfl ?_
          refine z_getR 27 hB_z fX9_47 (L4_z (zS := zS) hL) dX9_apart_24 rfl rfl (r4_5 (zS := zS) hL) ?_
          refine z_getI 30 hB_z fX9_173 (L51 (zS := zS) hL) dX9_apart_27 rfl rfl ?_
          rw [show z_I zS 51 4 = z_AT A_z 4 from hT_z.1 4 (by decide)]
          refine z_callS 33 hB_z hM_z.2.1 kX9_196 dX9_apart_30 rfl (c_J6_bitCount_0f7a4 (d_z := 0)) (by omega) rfl rfl (Nat.le_of_ble_eq_true rfl) ⟨Nat.le_refl _, Nat.le_refl _⟩ ?_
          rintro _ _ ⟨rfl, rfl⟩
          rw [hqn]
          refine z_s 34 hB_z dX9_apart_33 rfl rfl ?_
          rw [z_shl qn (by omega)]
          refine z_s 35 hB_z dX9_apart_34 rfl rfl ?_
          refine z_s 36 hB_z dX9_apart_35 rfl rfl ?_
          refine z_getR 39 hB_z fX9_76 (L4_z (zS := zS) hL) dX9_apart_36 rfl rfl (r4_10 (zS := zS) hL) ?_
          refine z_callV 42 hB_z hM_z.2.1 kX9_226 dX9_apart_39 rfl (L98 (zS := zS) hL) rfl (c_X0_clear (d_z := 0) hL) (by omega) rfl rfl (Nat.le_of_ble_eq_true rfl) ⟨Nat.le_refl _, Nat.le_refl _⟩ ?_
          rintro _ _ ⟨rfl, I2_z, rfl, hf2, hq2⟩
          refine z_s 43 hB_z dX9_apart_42 rfl rfl ?_
          refine z_s 45 hB_z dX9_apart_43 rfl rfl ?_
          exact z_eq (loop k_z hk hM_z ⟨⟨c_2, c_8⟩, c_12, c_17⟩ I2_z (hf2.mono (fun q_z h_z => Or.inr (Or.inr h_z))) hq2) rfl rfl rfl
        ·
          refine z_s 21 hB_z dX9_apart_20 rfl rfl ?_
          refine z_iret hM_z dX9_apart_21 rfl ?_ rfl rfl
          exact z_QP.rf (by unfold z_ansApart; rw [if_neg (fun q_z => z_nle0 c_17 q_z.2.2)])

