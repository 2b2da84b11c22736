/-! the best of sets; suppers, did, ask -/
def z_off (q_z : Int32 × Int32) (s_z v_z : Int32) : Int32 × Int32 := if q_z.2 < v_z ∨ (v_z = q_z.2 ∧ z_bc s_z < z_bc q_z.1) then (s_z, v_z) else q_z
def z_rQ (zI : Nat → Nat → Int32) (q_z : Int32 × Int32) : Prop := zI 98 0 = q_z.1 ∧ zI 98 1 = q_z.2
theorem c_X0_offer {g_z : z_U} {d_z : Nat} {zS : z_S} (hL : z_L zS) {q_z : Int32 × Int32} (hq : z_rQ (z_I zS) q_z) {s_z v_z : Int32} : z_C g_z (d_z + 1) 0 0 mX0_offer [.ref 98, .int s_z, .int v_z] zS (fun r_z zS' => r_z = none ∧ ∃ zI', z_up zS zI' = zS' ∧ z_fr (fun x_z => x_z = 98) (z_I zS) zI' ∧ z_rQ zI' (z_off q_z s_z v_z)) := by
  refine z_enter [some (.ref 98), some (.int s_z), some (.int v_z)] rfl rfl (Nat.le_of_ble_eq_true rfl) rfl (fun zX hM_z => ?_)
  have hB_z : z_B g_z zX RX0 cX0_offer 3 := hM_z.1
  obtain ⟨q0, q1_z⟩ := id hq
  refine z_s 1 hB_z dX0_offer_0 rfl rfl ?_
  refine z_s 2 hB_z dX0_offer_1 rfl rfl ?_
  refine z_getI 5 hB_z fX0_15 (L98 (zS := zS) hL) dX0_offer_2 rfl rfl ?_
  refine z_b 8 30 hB_z dX0_offer_5 rfl rfl (by decide) (fun c_5 => ?_) (fun c_5 => ?_)
  ·
    refine z_s 31 hB_z dX0_offer_30 rfl rfl ?_
    refine z_s 32 hB_z dX0_offer_31 rfl rfl ?_
    refine z_putI 35 hB_z fX0_9 (L98 (zS := zS) hL) dX0_offer_32 rfl rfl rfl ?_
    refine z_s 36 hB_z dX0_offer_35 rfl rfl ?_
    refine z_s 37 hB_z dX0_offer_36 rfl rfl ?_
    refine z_putI 40 hB_z fX0_15 (L98 (zS := zS) hL) dX0_offer_37 rfl rfl rfl ?_
    refine z_vret hM_z dX0_offer_40 rfl ?_ rfl rfl
    refine ⟨rfl, z_u2 (z_u2 (z_I zS) 98 0 s_z) 98 1 v_z, rfl, z_fr.u2 (P_z := fun x_z => x_z = 98) (z_fr.u2 (P_z := fun x_z => x_z = 98) z_fr.rf rfl) rfl, ?_⟩
    unfold z_off
    rw [if_pos (Or.inl (q1_z ▸ c_5))]
    exact ⟨(z_u2_ne (Or.inr (by decide))).trans (z_u2_same _ _ _ _), z_u2_same _ _ _ _⟩
  ·
    refine z_s 9 hB_z dX0_offer_8 rfl rfl ?_
    refine z_s 10 hB_z dX0_offer_9 rfl rfl ?_
    refine z_getI 13 hB_z fX0_15 (L98 (zS := zS) hL) dX0_offer_10 rfl rfl ?_
    refine z_b 16 40 hB_z dX0_offer_13 rfl rfl (by decide) (fun c_13 => ?_) (fun c_13 => ?_)
    ·
      refine z_vret hM_z dX0_offer_40 rfl ?_ rfl rfl
      refine ⟨rfl, _, rfl, z_fr.rf, ?_⟩
      unfold z_off
      rw [if_neg (fun h_z => h_z.elim (fun q_z => z_nlt0 c_5 (by rw [q1_z]; exact q_z)) (fun q_z => c_13 (q_z.1.trans q1_z.symm)))]
      exact hq
    ·
      refine z_s 17 hB_z dX0_offer_16 rfl rfl ?_
      refine z_callS 20 hB_z hM_z.2.1 kX0_18 dX0_offer_17 rfl (c_J6_bitCount_0f7a4 (d_z := 0)) (by omega) rfl rfl (Nat.le_of_ble_eq_true rfl) ⟨Nat.le_refl _, Nat.le_refl _⟩ ?_
      rintro _ _ ⟨rfl, rfl⟩
      refine z_s 21 hB_z dX0_offer_20 rfl rfl ?_
      refine z_getI 24 hB_z fX0_9 (L98 (zS := zS) hL) dX0_offer_21 rfl rfl ?_
      refine z_callS 27 hB_z hM_z.2.1 kX0_18 dX0_offer_24 rfl (c_J6_bitCount_0f7a4 (d_z := 0)) (by omega) rfl rfl (Nat.le_of_ble_eq_true rfl) ⟨Nat.le_refl _, Nat.le_refl _⟩ ?_
      rintro _ _ ⟨rfl, rfl⟩
      refine z_b 30 40 hB_z dX0_offer_27 rfl rfl (by decide) (fun c_27 => ?_) (fun c_27 => ?_)
      ·
        refine z_vret hM_z dX0_offer_40 rfl ?_ rfl rfl
        refine ⟨rfl, _, rfl, z_fr.rf, ?_⟩
        unfold z_off
        rw [if_neg (fun h_z => h_z.elim (fun q_z => z_nlt0 c_5 (by rw [q1_z]; exact q_z)) (fun q_z => z_nlt0 c_27 (by rw [q0]; exact q_z.2)))]
        exact hq
      ·
        refine z_s 31 hB_z dX0_offer_30 rfl rfl ?_
        refine z_s 32 hB_z dX0_offer_31 rfl rfl ?_
        refine z_putI 35 hB_z fX0_9 (L98 (zS := zS) hL) dX0_offer_32 rfl rfl rfl ?_
        refine z_s 36 hB_z dX0_offer_35 rfl rfl ?_
        refine z_s 37 hB_z dX0_offer_36 rfl rfl ?_
        refine z_putI 40 hB_z fX0_15 (L98 (zS := zS) hL) dX0_offer_37 rfl rfl rfl ?_
        refine z_vret hM_z dX0_offer_40 rfl ?_ rfl rfl
        refine ⟨rfl, z_u2 (z_u2 (z_I zS) 98 0 s_z) 98 1 v_z, rfl, z_fr.u2 (P_z := fun x_z => x_z = 98) (z_fr.u2 (P_z := fun x_z => x_z = 98) z_fr.rf rfl) rfl, ?_⟩
        unfold z_off
        rw [if_pos (Or.inr ⟨c_13.trans q1_z, q0 ▸ c_27⟩)]
        exact ⟨(z_u2_ne (Or.inr (by decide))).trans (z_u2_same _ _ _ _), z_u2_same _ _ _ _⟩

theorem c_X0_clear {g_z : z_U} {d_z : Nat} {zS : z_S} (hL : z_L zS) : z_C g_z (d_z) 0 0 mX0_clear [.ref 98] zS (fun r_z zS' => r_z = none ∧ ∃ zI', z_up zS zI' = zS' ∧ z_fr (fun x_z => x_z = 98) (z_I zS) zI' ∧ z_rQ zI' (0, -4)) := by
  refine z_enter [some (.ref 98)] rfl rfl (Nat.le_of_ble_eq_true rfl) rfl (fun zX hM_z => ?_)
  have hB_z : z_B g_z zX RX0 cX0_clear 1 := hM_z.1
  refine z_s 1 hB_z dX0_clear_0 rfl rfl ?_
  refine z_s 2 hB_z dX0_clear_1 rfl rfl ?_
  refine z_putI 5 hB_z fX0_9 (L98 (zS := zS) hL) dX0_clear_2 rfl rfl rfl ?_
  refine z_s 6 hB_z dX0_clear_5 rfl rfl ?_
  refine z_s 8 hB_z dX0_clear_6 rfl rfl ?_
  refine z_putI 11 hB_z fX0_15 (L98 (zS := zS) hL) dX0_clear_8 rfl rfl rfl ?_
  refine z_vret hM_z dX0_clear_11 rfl ?_ rfl rfl
  exact ⟨rfl, z_u2 (z_u2 (z_I zS) 98 0 0) 98 1 (-4), rfl, z_fr.u2 (P_z := fun x_z => x_z = 98) (z_fr.u2 (P_z := fun x_z => x_z = 98) z_fr.rf rfl) rfl, (z_u2_ne (Or.inr (by decide))).trans (z_u2_same _ _ _ _), z_u2_same _ _ _ _⟩

def z_PT : Nat → Prop := fun q_z => z_PN q_z ∨ q_z = 54 ∨ q_z = 56
theorem z_PT_scr : ∀ q_z, z_PT q_z → z_scr q_z := fun q_z h_z => by
  unfold z_scr
  rcases h_z with (h_z | h_z) | h_z | h_z <;> omega
def z_fedV (zV : z_V) (zT : Nat → Int32) (set_z : Int32) : Int32 := (z_dayO zV (z_putT zT 5 (zT 5 ||| set_z)) (z_hasDog zV (zT 0))).2.1
def z_sup (zV : z_V) (zT : Nat → Int32) : Nat → Int32 × Int32
  | 0 => (0, -4)
  | j_z + 1 => if nI j_z &&& zT 5 = 0 then z_off (z_sup zV zT j_z) (nI j_z) (z_fedV zV zT (nI j_z)) else z_sup zV zT j_z
def z_ansSup (A_z : z_Ab) (what : Int32) : Int32 := if 0 ≤ what ∧ what ≤ 1 then (if what = 0 then (z_sup (z_AV A_z) (z_AT A_z) (2 ^ (z_AV A_z).2.1)).1 else (z_sup (z_AV A_z) (z_AT A_z) (2 ^ (z_AV A_z).2.1)).2) else -1
theorem z_shl : ∀ n_z, n_z < 7 → (1 : Int32) <<< (nI n_z &&& 31) = nI (2 ^ n_z) := by decide +kernel
theorem z_pow6 {n_z : Nat} (h_z : n_z ≤ 6) : 2 ^ n_z ≤ 64 := Nat.pow_le_pow_right (by decide) h_z
set_option maxHeartbeats 1000000 in
theorem c_X9_servedIfFed {g_z : z_U} {d_z : Nat} {zS : z_S} {zV : z_V} {zT : Nat → Int32} (hL : z_L zS) (hV : z_rV (z_I zS) 7 zV) (hT_z : z_rT (z_I zS) 51 zT) {set_z : Int32} : z_C g_z (d_z + 4) 0 0 mX9_servedIfFed [.ref 4, .int set_z] zS (fun r_z zS' => r_z = some (.int (z_fedV zV zT set_z)) ∧ ∃ zI', z_up zS zI' = zS' ∧ z_fr z_PT (z_I zS) zI') := by
  refine z_enter [some (.ref 4), some (.int set_z)] rfl rfl (Nat.le_of_ble_eq_true rfl) rfl (fun zX hM_z => ?_)
  have hB_z : z_B g_z zX RX9 cX9_servedIfFed 2 := hM_z.1
  refine z_s 1 hB_z dX9_servedIfFed_0 rfl rfl ?_
  refine z_getR 4 hB_z fX9_51 (L4_z (zS := zS) hL) dX9_servedIfFed_1 rfl rfl (r4_6 (zS := zS) hL) ?_
  refine z_s 5 hB_z dX9_servedIfFed_4 rfl rfl ?_
  refine z_getR 8 hB_z fX9_47 (L4_z (zS := zS) hL) dX9_servedIfFed_5 rfl rfl (r4_5 (zS := zS) hL) ?_
  refine z_callV 11 hB_z hM_z.2.1 kX9_210 dX9_servedIfFed_8 rfl (L54 (zS := zS) hL) rfl (c_X7_copy (d_z := 0) (s54 hL) (s51 hL) (by decide) (by decide)) (by omega) rfl rfl (Nat.le_of_ble_eq_true rfl) ⟨Nat.le_refl _, Nat.le_refl _⟩ ?_
  rintro _ _ ⟨rfl, I2_z, rfl, hf2, hT2⟩
  have hT3 := hT2 zT hT_z
  have e5_z : z_I (z_up zS I2_z) 54 5 = zT 5 := hT3.1 5 (by decide)
  refine z_s 12 hB_z dX9_servedIfFed_11 rfl rfl ?_
  refine z_getR 15 hB_z fX9_51 (L4_z (zS := zS) hL) dX9_servedIfFed_12 rfl rfl (r4_6 (zS := zS) hL) ?_
  refine z_s 16 hB_z dX9_servedIfFed_15 rfl rfl ?_
  refine z_getI 19 hB_z fX9_143 (L54 (zS := zS) hL) dX9_servedIfFed_16 rfl rfl ?_
  refine z_s 20 hB_z dX9_servedIfFed_19 rfl rfl ?_
  refine z_s 21 hB_z dX9_servedIfFed_20 rfl rfl ?_
  rw [e5_z]
  refine z_putI 24 hB_z fX9_143 (L54 (zS := zS) hL) dX9_servedIfFed_21 rfl rfl rfl ?_
  have hT4 : z_rT (z_u2 I2_z 54 5 (zT 5 ||| set_z)) 54 (z_putT zT 5 (zT 5 ||| set_z)) := hT3.put5 (by decide)
  have hf4 : z_fr (fun q_z => q_z = 54 ∨ q_z = 54 + 2) (z_I zS) (z_u2 I2_z 54 5 (zT 5 ||| set_z)) := hf2.u2 (Or.inl rfl)
  have hV4 : z_rV (z_u2 I2_z 54 5 (zT 5 ||| set_z)) 7 zV := hV.fr hf4 (fun q_z a_z b_z => by omega)
  have e0_z : z_I (z_pI (z_up zS I2_z) 54 5 (zT 5 ||| set_z)) 54 0 = zT 0 := hT4.1 0 (by decide)
  have e10_z : z_I (z_pI (z_up zS I2_z) 54 5 (zT 5 ||| set_z)) 7 10 = nI zV.2.2.1 := hV4.2.2.1
  refine z_s 25 hB_z dX9_servedIfFed_24 rfl rfl ?_
  refine z_getR 28 hB_z fX9_40 (L4_z (zS := zS) hL) dX9_servedIfFed_25 rfl rfl (r4_4 (zS := zS) hL) ?_
  refine z_s 29 hB_z dX9_servedIfFed_28 rfl rfl ?_
  refine z_getR 32 hB_z fX9_51 (L4_z (zS := zS) hL) dX9_servedIfFed_29 rfl rfl (r4_6 (zS := zS) hL) ?_
  refine z_s 33 hB_z dX9_servedIfFed_32 rfl rfl ?_
  refine z_getR 36 hB_z fX9_19 (L4_z (zS := zS) hL) dX9_servedIfFed_33 rfl rfl (r4_1 (zS := zS) hL) ?_
  refine z_s 37 hB_z dX9_servedIfFed_36 rfl rfl ?_
  refine z_getR 40 hB_z fX9_51 (L4_z (zS := zS) hL) dX9_servedIfFed_37 rfl rfl (r4_6 (zS := zS) hL) ?_
  refine z_getI 43 hB_z fX9_161 (L54 (zS := zS) hL) dX9_servedIfFed_40 rfl rfl ?_
  refine z_callV 46 hB_z hM_z.2.1 kX9_242 dX9_servedIfFed_43 rfl (L7 (zS := zS) hL) rfl (c_X5_hasDog (zS := z_pI (z_up zS I2_z) 54 5 (zT 5 ||| set_z)) (d_z := 0) hL hV4) (by omega) rfl rfl (Nat.le_of_ble_eq_true rfl) ⟨Nat.le_refl _, Nat.le_refl _⟩ ?_
  rintro _ _ ⟨rfl, rfl⟩
  rw [e0_z]
  refine z_s 47 hB_z dX9_servedIfFed_46 rfl rfl ?_
  refine z_getR 50 hB_z fX9_19 (L4_z (zS := zS) hL) dX9_servedIfFed_47 rfl rfl (r4_1 (zS := zS) hL) ?_
  refine z_getI 53 hB_z fX9_290 (L7 (zS := zS) hL) dX9_servedIfFed_50 rfl rfl ?_
  rw [e10_z]
  refine z_callV 56 hB_z hM_z.2.1 kX9_245 dX9_servedIfFed_53 rfl (L48 (zS := zS) hL) rfl (c_X1_play (zS := z_pI (z_up zS I2_z) 54 5 (zT 5 ||| set_z)) (d_z := 0) hL hV4 (by decide) (s54 hL) hT4 (dog := z_hasDog zV (zT 0)) rfl hV.2.2.2.2.2) (by omega) rfl rfl (Nat.le_of_ble_eq_true rfl) ⟨Nat.le_refl _, Nat.le_refl _⟩ ?_
  rintro _ _ ⟨rfl, I5, rfl, hf5, hN5⟩
  refine z_s 57 hB_z dX9_servedIfFed_56 rfl rfl ?_
  refine z_getR 60 hB_z fX9_40 (L4_z (zS := zS) hL) dX9_servedIfFed_57 rfl rfl (r4_4 (zS := zS) hL) ?_
  refine z_getI 63 hB_z fX9_312 (L48 (zS := zS) hL) dX9_servedIfFed_60 rfl rfl ?_
  refine z_iret hM_z dX9_servedIfFed_63 rfl ?_ rfl rfl
  exact ⟨congrArg (fun q_z => some (Value.int q_z)) hN5.2.2.1, I5, rfl, (hf4.mono (fun q_z h_z => by rcases h_z with h_z | h_z; exact Or.inr (Or.inl h_z); exact Or.inr (Or.inr h_z))).tr (hf5.mono (fun q_z h_z => Or.inl h_z))⟩

set_option maxHeartbeats 1000000 in
theorem c_X9_suppers {g_z : z_U} {d_z : Nat} {zS : z_S} {A_z : z_Ab} (hC : z_RC zS A_z) {what : Int32} : z_C g_z (d_z + 5) 0 0 mX9_suppers [.ref 4, .int what] zS (z_QP zS (z_ansSup A_z what)) := by
  refine z_enter [some (.ref 4), some (.int what), none] rfl rfl (Nat.le_of_ble_eq_true rfl) rfl (fun zX hM_z => ?_)
  have hB_z : z_B g_z zX RX9 cX9_suppers 3 := hM_z.1
  obtain ⟨hL, hV, hT_z, hU, hK_z, hS_z, hX⟩ := id hC
  have hn : z_I zS 7 9 = nI (z_AV A_z).2.1 := hV.2.1
  have hm_z : z_I zS 7 10 = nI (z_AV A_z).2.2.1 := hV.2.2.1
  have hn6 := hV.2.2.2.2.1
  have hm10 := hV.2.2.2.2.2
  have h64 := z_pow6 hn6
  have loop := fun (hw : 0 ≤ what ∧ what ≤ 1) => z_loop (fun j_z => ∀ I1, z_fr z_scr (z_I zS) I1 → z_rQ I1 (z_sup (z_AV A_z) (z_AT A_z) j_z) → z_W g_z zX 20 [some (.ref 4), some (.int what), some (.int (nI j_z))] [] 0 0 (z_up zS I1)) (2 ^ (z_AV A_z).2.1) (fun j_z hj ih_z I1 hf hq => by
    refine z_s 21 hB_z dX9_suppers_20 rfl rfl ?_
    refine z_s 22 hB_z dX9_suppers_21 rfl rfl ?_
    refine z_s 23 hB_z dX9_suppers_22 rfl rfl ?_
    refine z_getR 26 hB_z fX9_19 (L4_z (zS := zS) hL) dX9_suppers_23 rfl rfl (r4_1 (zS := zS) hL) ?_
    refine z_getI 29 hB_z fX9_107 (L7 (zS := zS) hL) dX9_suppers_26 rfl rfl ?_
    refine z_s 30 hB_z dX9_suppers_29 rfl rfl ?_
    rw [show z_I (z_up zS I1) 7 9 = nI (z_AV A_z).2.1 from (hf 7 9 (by unfold z_scr; omega)).trans hn, z_shl _ (by omega)]
    refine z_b 33 64 hB_z dX9_suppers_30 rfl rfl (by decide) (fun c_30 => ?_) (fun c_30 => ?_)
    ·
      have hjs : j_z = 2 ^ (z_AV A_z).2.1 := by
        have := (nI_leI (by omega) (by omega)).mp c_30
        omega
      rw [hjs] at hq
      refine z_s 65 hB_z dX9_suppers_64 rfl rfl ?_
      refine z_b 68 78 hB_z dX9_suppers_65 rfl rfl (by decide) (fun c_65 => ?_) (fun c_65 => ?_)
      ·
        refine z_s 79 hB_z dX9_suppers_78 rfl rfl ?_
        refine z_getR 82 hB_z fX9_76 (L4_z (zS := zS) hL) dX9_suppers_79 rfl rfl (r4_10 (zS := zS) hL) ?_
        refine z_getI 85 hB_z fX9_236 (L98 (zS := zS) hL) dX9_suppers_82 rfl rfl ?_
        refine z_iret hM_z dX9_suppers_85 rfl ?_ rfl rfl
        refine ⟨congrArg (fun q_z => some (Value.int q_z)) (hq.2.trans (Eq.symm ?_)), I1, rfl, hf⟩
        unfold z_ansSup
        rw [if_pos hw, if_neg c_65]
      ·
        refine z_s 69 hB_z dX9_suppers_68 rfl rfl ?_
        refine z_getR 72 hB_z fX9_76 (L4_z (zS := zS) hL) dX9_suppers_69 rfl rfl (r4_10 (zS := zS) hL) ?_
        refine z_getI 75 hB_z fX9_233 (L98 (zS := zS) hL) dX9_suppers_72 rfl rfl ?_
        refine z_j 85 hB_z dX9_suppers_75 (by decide) ?_
        refine z_iret hM_z dX9_suppers_85 rfl ?_ rfl rfl
        refine ⟨congrArg (fun q_z => some (Value.int q_z)) (hq.1.trans (Eq.symm ?_)), I1, rfl, hf⟩
        unfold z_ansSup
        rw [if_pos hw, if_pos c_65]
    ·
      have hjs : j_z < 2 ^ (z_AV A_z).2.1 := (nI_ltI (by omega) (by omega)).mp c_30
      have e5_z : z_I (z_up zS I1) 51 5 = z_AT A_z 5 := (hf 51 5 (by unfold z_scr; omega)).trans (hT_z.1 5 (by decide))
      refine z_s 34 hB_z dX9_suppers_33 rfl rfl ?_
      refine z_s 35 hB_z dX9_suppers_34 rfl rfl ?_
      refine z_getR 38 hB_z fX9_47 (L4_z (zS := zS) hL) dX9_suppers_35 rfl rfl (r4_5 (zS := zS) hL) ?_
      refine z_getI 41 hB_z fX9_143 (L51 (zS := zS) hL) dX9_suppers_38 rfl rfl ?_
      refine z_s 42 hB_z dX9_suppers_41 rfl rfl ?_
      refine z_b 45 58 hB_z dX9_suppers_42 rfl rfl (by decide) (fun c_42 => ?_) (fun c_42 => ?_)
      ·
        rw [e5_z] at c_42
        refine z_s 61 hB_z dX9_suppers_58 rfl rfl ?_
        refine z_j 20 hB_z dX9_suppers_61 (by decide) ?_
        exact z_eq (ih_z hjs I1 hf (by unfold z_sup; rw [if_neg c_42]; exact hq)) (by rw [← z_inc j_z]; rfl) rfl rfl
      ·
        rw [e5_z] at c_42
        refine z_s 46 hB_z dX9_suppers_45 rfl rfl ?_
        refine z_getR 49 hB_z fX9_76 (L4_z (zS := zS) hL) dX9_suppers_46 rfl rfl (r4_10 (zS := zS) hL) ?_
        refine z_s 50 hB_z dX9_suppers_49 rfl rfl ?_
        refine z_s 51 hB_z dX9_suppers_50 rfl rfl ?_
        refine z_s 52 hB_z dX9_suppers_51 rfl rfl ?_
        refine z_callV 55 hB_z hM_z.2.1 kX9_227 dX9_suppers_52 rfl (L4_z (zS := zS) hL) rfl (c_X9_servedIfFed (zS := z_up zS I1) (d_z := 0) hL (hV.fr hf z_scr7) (hT_z.fr hf (by unfold z_scr; omega))) (by omega) rfl rfl (Nat.le_of_ble_eq_true rfl) ⟨Nat.le_refl _, Nat.le_refl _⟩ ?_
        rintro _ _ ⟨rfl, I3, rfl, hf3⟩
        have hq3 : z_rQ (z_I (z_up zS I3)) (z_sup (z_AV A_z) (z_AT A_z) j_z) := ⟨(hf3 98 0 (by unfold z_PT z_PN; omega)).trans hq.1, (hf3 98 1 (by unfold z_PT z_PN; omega)).trans hq.2⟩
        refine z_callV 58 hB_z hM_z.2.1 kX9_230 dX9_suppers_55 rfl (L98 (zS := zS) hL) rfl (c_X0_offer (zS := z_up zS I3) (d_z := 0) hL hq3) (by omega) rfl rfl (Nat.le_of_ble_eq_true rfl) ⟨Nat.le_refl _, Nat.le_refl _⟩ ?_
        rintro _ _ ⟨rfl, I4, rfl, hf4, hq4⟩
        refine z_s 61 hB_z dX9_suppers_58 rfl rfl ?_
        refine z_j 20 hB_z dX9_suppers_61 (by decide) ?_
        exact z_eq (ih_z hjs I4 ((hf.tr (hf3.mono z_PT_scr)).tr (hf4.mono (fun q_z h_z => Or.inr (Or.inr h_z)))) (by unfold z_sup; rw [if_pos c_42]; exact hq4)) (by rw [← z_inc j_z]; rfl) rfl rfl) 0 (Nat.zero_le _)
  refine z_s 1 hB_z dX9_suppers_0 rfl rfl ?_
  refine z_b 4 9 hB_z dX9_suppers_1 rfl rfl (by decide) (fun c_1 => ?_) (fun c_1 => ?_)
  ·
    refine z_s 10 hB_z dX9_suppers_9 rfl rfl ?_
    refine z_iret hM_z dX9_suppers_10 rfl ?_ rfl rfl
    exact z_QP.rf (by unfold z_ansSup; rw [if_neg (fun q_z => z_nlt0 q_z.1 c_1)])
  ·
    refine z_s 5 hB_z dX9_suppers_4 rfl rfl ?_
    refine z_s 6 hB_z dX9_suppers_5 rfl rfl ?_
    refine z_b 9 11 hB_z dX9_suppers_6 rfl rfl (by decide) (fun c_6 => ?_) (fun c_6 => ?_)
    ·
      refine z_s 12 hB_z dX9_suppers_11 rfl rfl ?_
      refine z_getR 15 hB_z fX9_76 (L4_z (zS := zS) hL) dX9_suppers_12 rfl rfl (r4_10 (zS := zS) hL) ?_
      refine z_callV 18 hB_z hM_z.2.1 kX9_226 dX9_suppers_15 rfl (L98 (zS := zS) hL) rfl (c_X0_clear (d_z := 0) hL) (by omega) rfl rfl (Nat.le_of_ble_eq_true rfl) ⟨Nat.le_refl _, Nat.le_refl _⟩ ?_
      rintro _ _ ⟨rfl, I2_z, rfl, hf2, hq2⟩
      refine z_s 19 hB_z dX9_suppers_18 rfl rfl ?_
      refine z_s 20 hB_z dX9_suppers_19 rfl rfl ?_
      exact z_eq (loop ⟨c_1, c_6⟩ I2_z (hf2.mono (fun q_z h_z => Or.inr (Or.inr h_z))) hq2) rfl rfl rfl
    ·
      refine z_s 10 hB_z dX9_suppers_9 rfl rfl ?_
      refine z_iret hM_z dX9_suppers_10 rfl ?_ rfl rfl
      exact z_QP.rf (by unfold z_ansSup; rw [if_neg (fun q_z => z_nle0 c_6 q_z.2)])

def z_did (zV : z_V) (c_z : Nat) : Nat → Int32
  | 0 => 0
  | s_z + 1 => if z_hb (z_rd zV.1 8 6 (zV.1 5 c_z)) s_z = true ∧ z_wakes (zV.1 6 c_z) (zV.1 7 c_z) (zV.1 0 s_z) = 0 then z_did zV c_z s_z ||| (1 <<< (nI s_z &&& 31)) else z_did zV c_z s_z
def z_ansDid (A_z : z_Ab) (c_z : Int32) : Int32 := if 0 ≤ c_z ∧ c_z < nI (z_AV A_z).2.2.1 then z_did (z_AV A_z) c_z.toNatClampNeg (z_AV A_z).2.1 else -1
set_option maxHeartbeats 1000000 in
theorem c_X9_did {g_z : z_U} {d_z : Nat} {zS : z_S} {A_z : z_Ab} (hC : z_RC zS A_z) {c_z : Int32} : z_C g_z (d_z + 2) 0 0 mX9_did [.ref 4, .int c_z] zS (z_QP zS (z_ansDid A_z c_z)) := by
  refine z_enter [some (.ref 4), some (.int c_z), none, none] rfl rfl (Nat.le_of_ble_eq_true rfl) rfl (fun zX hM_z => ?_)
  have hB_z : z_B g_z zX RX9 cX9_did 4 := hM_z.1
  obtain ⟨hL, hV, hT_z, hU, hK_z, hS_z, hX⟩ := id hC
  have hn : z_I zS 7 9 = nI (z_AV A_z).2.1 := hV.2.1
  have hm_z : z_I zS 7 10 = nI (z_AV A_z).2.2.1 := hV.2.2.1
  have hn6 := hV.2.2.2.2.1
  have hm10 := hV.2.2.2.2.2
  have loop := fun (j_z : Nat) (hj : j_z < (z_AV A_z).2.2.1) (w1_z : z_in (nI j_z) (z_AV A_z).2.2.1) (hM_z : z_BM g_z zX (d_z + 2) 0 0 mX9_did (z_QP zS (z_ansDid A_z (nI j_z)))) => z_loop (fun k_z => z_W g_z zX 14 [some (.ref 4), some (.int (nI j_z)), some (.int (z_did (z_AV A_z) j_z k_z)), some (.int (nI k_z))] [] 0 0 zS) (z_AV A_z).2.1 (fun k_z hk ih_z => by
    refine z_s 15 hB_z dX9_did_14 rfl rfl ?_
    refine z_s 16 hB_z dX9_did_15 rfl rfl ?_
    refine z_getR 19 hB_z fX9_19 (L4_z (zS := zS) hL) dX9_did_16 rfl rfl (r4_1 (zS := zS) hL) ?_
    refine z_getI 22 hB_z fX9_107 (L7 (zS := zS) hL) dX9_did_19 rfl rfl ?_
    refine z_b 25 77 hB_z dX9_did_22 rfl rfl (by decide) (fun c_22 => ?_) (fun c_22 => ?_)
    ·
      have hjs : k_z = (z_AV A_z).2.1 := by
        have := (nI_leI (by omega) (by omega)).mp (show nI (z_AV A_z).2.1 ≤ nI k_z by rw [← hn]; exact c_22)
        omega
      refine z_s 78 hB_z dX9_did_77 rfl rfl ?_
      refine z_iret hM_z dX9_did_78 rfl ?_ rfl rfl
      exact z_QP.rf (by unfold z_ansDid; rw [if_pos w1_z, nI_clamp (by omega), hjs])
    ·
      have hjs : k_z < (z_AV A_z).2.1 := (nI_ltI (by omega) (by omega)).mp (by rw [← hn]; exact c_22)
      refine z_s 26 hB_z dX9_did_25 rfl rfl ?_
      refine z_getR 29 hB_z fX9_19 (L4_z (zS := zS) hL) dX9_did_26 rfl rfl (r4_1 (zS := zS) hL) ?_
      refine z_getR 32 hB_z fX9_264 (L7 (zS := zS) hL) dX9_did_29 rfl rfl (r7_8 (zS := zS) hL) ?_
      refine z_s 33 hB_z dX9_did_32 rfl rfl ?_
      refine z_getR 36 hB_z fX9_19 (L4_z (zS := zS) hL) dX9_did_33 rfl rfl (r4_1 (zS := zS) hL) ?_
      refine z_getR 39 hB_z fX9_152 (L7 (zS := zS) hL) dX9_did_36 rfl rfl (r7_5 (zS := zS) hL) ?_
      refine z_s 40 hB_z dX9_did_39 rfl rfl ?_
      refine z_callV 43 hB_z hM_z.2.1 kX9_118 dX9_did_40 rfl (L18 (zS := zS) hL) rfl (c_at (d_z := 0) (w18 hL) (by decide) (by omega)) (by omega) rfl rfl (Nat.le_of_ble_eq_true rfl) ⟨Nat.le_refl _, Nat.le_refl _⟩ ?_
      rintro _ _ ⟨rfl, rfl⟩
      rw [show z_I zS 19 j_z = (z_AV A_z).1 5 j_z from hV.1 5 (by decide) j_z (show j_z < 10 by omega)]
      refine z_callV 46 hB_z hM_z.2.1 kX9_118 dX9_did_43 rfl (L24 (zS := zS) hL) rfl (c_X3_at (d_z := 0) (w24 hL) (by decide)) (by omega) rfl rfl (Nat.le_of_ble_eq_true rfl) ⟨Nat.le_refl _, Nat.le_refl _⟩ ?_
      rintro _ _ ⟨rfl, rfl⟩
      rw [z_rd_V2 hV]
      refine z_s 47 hB_z dX9_did_46 rfl rfl ?_
      refine z_callS 50 hB_z hM_z.2.1 kX9_193 dX9_did_47 rfl (c_has (d_z := 0)) (by omega) rfl rfl (Nat.le_of_ble_eq_true rfl) ⟨Nat.le_refl _, Nat.le_refl _⟩ ?_
      rintro _ _ ⟨rfl, rfl⟩
      refine z_b 53 71 hB_z dX9_did_50 rfl rfl (by decide) (fun c_50 => ?_) (fun c_50 => ?_)
      ·
        refine z_s 74 hB_z dX9_did_71 rfl rfl ?_
        refine z_j 14 hB_z dX9_did_74 (by decide) ?_
        exact z_eq (ih_z hjs) (by rw [← z_inc k_z, show z_did (z_AV A_z) j_z (k_z + 1) = z_did (z_AV A_z) j_z k_z from if_neg (fun q_z => by rw [z_if0 c_50] at q_z; exact Bool.noConfusion q_z.1)]; rfl) rfl rfl
      ·
        refine z_s 54 hB_z dX9_did_53 rfl rfl ?_
        refine z_getR 57 hB_z fX9_19 (L4_z (zS := zS) hL) dX9_did_54 rfl rfl (r4_1 (zS := zS) hL) ?_
        refine z_s 58 hB_z dX9_did_57 rfl rfl ?_
        refine z_s 59 hB_z dX9_did_58 rfl rfl ?_
        refine z_callV 62 hB_z hM_z.2.1 kX9_267 dX9_did_59 rfl (L7 (zS := zS) hL) rfl (c_X5_rouses (d_z := 0) hL hV (by omega) (by omega)) (by omega) rfl rfl (Nat.le_of_ble_eq_true rfl) ⟨Nat.le_refl _, Nat.le_refl _⟩ ?_
        rintro _ _ ⟨rfl, rfl⟩
        refine z_b 65 71 hB_z dX9_did_62 rfl rfl (by decide) (fun c_62 => ?_) (fun c_62 => ?_)
        ·
          refine z_s 74 hB_z dX9_did_71 rfl rfl ?_
          refine z_j 14 hB_z dX9_did_74 (by decide) ?_
          exact z_eq (ih_z hjs) (by rw [← z_inc k_z, show z_did (z_AV A_z) j_z (k_z + 1) = z_did (z_AV A_z) j_z k_z from if_neg (fun q_z => c_62 q_z.2)]; rfl) rfl rfl
        ·
          refine z_s 66 hB_z dX9_did_65 rfl rfl ?_
          refine z_s 67 hB_z dX9_did_66 rfl rfl ?_
          refine z_s 68 hB_z dX9_did_67 rfl rfl ?_
          refine z_s 69 hB_z dX9_did_68 rfl rfl ?_
          refine z_s 70 hB_z dX9_did_69 rfl rfl ?_
          refine z_s 71 hB_z dX9_did_70 rfl rfl ?_
          refine z_s 74 hB_z dX9_did_71 rfl rfl ?_
          refine z_j 14 hB_z dX9_did_74 (by decide) ?_
          exact z_eq (ih_z hjs) (by rw [← z_inc k_z, show z_did (z_AV A_z) j_z (k_z + 1) = z_did (z_AV A_z) j_z k_z ||| (1 <<< (nI k_z &&& 31)) from if_pos ⟨z_if1 c_50, c_62⟩]; rfl) rfl rfl) 0 (Nat.zero_le _)
  refine z_s 1 hB_z dX9_did_0 rfl rfl ?_
  refine z_s 2 hB_z dX9_did_1 rfl rfl ?_
  refine z_callV 5 hB_z hM_z.2.1 kX9_146 dX9_did_2 rfl (L4_z (zS := zS) hL) rfl (c_X9_isCustomer (d_z := 0) hL hm_z) (by omega) rfl rfl (Nat.le_of_ble_eq_true rfl) ⟨Nat.le_refl _, Nat.le_refl _⟩ ?_
  rintro _ _ ⟨rfl, v1_z, rfl, hv1⟩
  refine z_b 8 10 hB_z dX9_did_5 rfl rfl (by decide) (fun c_5 => ?_) (fun c_5 => ?_)
  ·
    rcases hv1 with ⟨w0_z, _⟩ | ⟨_, w1_z⟩
    · exact absurd w0_z c_5
    obtain ⟨j_z, hj, rfl⟩ := w1_z.of (by omega)
    refine z_s 11 hB_z dX9_did_10 rfl rfl ?_
    refine z_s 12 hB_z dX9_did_11 rfl rfl ?_
    refine z_s 13 hB_z dX9_did_12 rfl rfl ?_
    refine z_s 14 hB_z dX9_did_13 rfl rfl ?_
    exact z_eq (loop j_z hj w1_z hM_z) rfl rfl rfl
  ·
    refine z_s 9 hB_z dX9_did_8 rfl rfl ?_
    refine z_iret hM_z dX9_did_9 rfl ?_ rfl rfl
    rcases hv1 with ⟨_, w1_z⟩ | ⟨w0_z, _⟩
    · exact z_QP.rf (by unfold z_ansDid; rw [if_neg w1_z])
    · rw [w0_z] at c_5; exact absurd c_5 (by decide)

