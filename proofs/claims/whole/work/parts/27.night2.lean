/-! the night, go on: sell, attend, firstFor, open, play, close -/
theorem z_Ine {zS : z_S} {o k_z o' k_z' : Nat} {v_z : Int32} (h_z : o' ≠ o ∨ k_z' ≠ k_z) : z_I (z_pI zS o k_z v_z) o' k_z' = z_I zS o' k_z' := z_u2_ne h_z
theorem z_Ieq {zS : z_S} {o k_z : Nat} {v_z : Int32} : z_I (z_pI zS o k_z v_z) o k_z = v_z := z_u2_same _ _ _ _
theorem c_X1_sell {g_z : z_U} {d_z : Nat} {zS : z_S} {zV : z_V} (hL : z_L zS) (hV : z_rV (z_I zS) 7 zV) {c_z s_z : Nat} (hc_z : c_z < 10) : z_C g_z (d_z + 1) 0 0 mX1_sell [.ref 48, .int (nI c_z), .int (nI s_z)] zS (fun r_z zS' => r_z = none ∧ z_pI (z_pI (z_pI (z_pI zS 50 c_z (nI s_z)) 48 4 (z_I zS 48 4 + 1)) 48 8 (z_I zS 48 8 + z_pay zV c_z * 9 / 100)) 48 7 (z_I zS 48 7 + (z_pay zV c_z - z_pay zV c_z * 9 / 100)) = zS') := by
  refine z_enter [some (.ref 48), some (.int (nI c_z)), some (.int (nI s_z)), none, none] rfl rfl (Nat.le_of_ble_eq_true rfl) rfl (fun zX hM_z => ?_)
  have hB_z : z_B g_z zX RX1 cX1_sell 5 := hM_z.1
  have e1_z : z_I zS 21 c_z = zV.1 6 c_z := hV.1 6 (by decide) c_z (by unfold z_vl; exact hc_z)
  have e2_z : z_I zS 23 c_z = zV.1 7 c_z := hV.1 7 (by decide) c_z (by unfold z_vl; exact hc_z)
  refine z_s 1 hB_z dX1_sell_0 rfl rfl ?_
  refine z_getR 4 hB_z fX1_20 (L48 (zS := zS) hL) dX1_sell_1 rfl rfl (r48_0 (zS := zS) hL) ?_
  refine z_getR 7 hB_z fX1_112 (L7 (zS := zS) hL) dX1_sell_4 rfl rfl (r7_6 (zS := zS) hL) ?_
  refine z_s 8 hB_z dX1_sell_7 rfl rfl ?_
  refine z_callV 11 hB_z hM_z.2.1 kX1_76 dX1_sell_8 rfl (L20 (zS := zS) hL) rfl (c_at (d_z := 0) (w20 (zS := zS) hL) (by decide) hc_z) (by omega) rfl rfl (Nat.le_of_ble_eq_true rfl) ⟨Nat.le_refl _, Nat.le_refl _⟩ ?_
  rintro _ _ ⟨rfl, rfl⟩
  refine z_s 12 hB_z dX1_sell_11 rfl rfl ?_
  refine z_b 15 19 hB_z dX1_sell_12 rfl rfl (by decide) (fun c_12 => ?_) (fun c_12 => ?_)
  ·
    refine z_s 20 hB_z dX1_sell_19 rfl rfl ?_
    refine z_getR 23 hB_z fX1_20 (L48 (zS := zS) hL) dX1_sell_20 rfl rfl (r48_0 (zS := zS) hL) ?_
    refine z_getR 26 hB_z fX1_115 (L7 (zS := zS) hL) dX1_sell_23 rfl rfl (r7_7 (zS := zS) hL) ?_
    refine z_s 27 hB_z dX1_sell_26 rfl rfl ?_
    refine z_callV 30 hB_z hM_z.2.1 kX1_76 dX1_sell_27 rfl (L22 (zS := zS) hL) rfl (c_at (d_z := 0) (w22 (zS := zS) hL) (by decide) hc_z) (by omega) rfl rfl (Nat.le_of_ble_eq_true rfl) ⟨Nat.le_refl _, Nat.le_refl _⟩ ?_
    rintro _ _ ⟨rfl, rfl⟩
    refine z_s 31 hB_z dX1_sell_30 rfl rfl ?_
    refine z_s 32 hB_z dX1_sell_31 rfl rfl ?_
    refine z_s 34 hB_z dX1_sell_32 rfl rfl ?_
    refine z_s 35 hB_z dX1_sell_34 rfl rfl ?_
    refine z_s 37 hB_z dX1_sell_35 rfl rfl ?_
    refine z_idiv 38 hB_z dX1_sell_37 rfl (by decide) ?_
    refine z_s 40 hB_z dX1_sell_38 rfl rfl ?_
    refine z_s 41 hB_z dX1_sell_40 rfl rfl ?_
    refine z_getR 44 hB_z fX1_14 (L48 (zS := zS) hL) dX1_sell_41 rfl rfl (r48_1 (zS := zS) hL) ?_
    refine z_s 45 hB_z dX1_sell_44 rfl rfl ?_
    refine z_s 46 hB_z dX1_sell_45 rfl rfl ?_
    refine z_callV 49 hB_z hM_z.2.1 kX1_118 dX1_sell_46 rfl (L49 (zS := zS) hL) rfl (c_put (d_z := 0) (w49 (zS := zS) hL) (by decide) hc_z) (by omega) rfl rfl (Nat.le_of_ble_eq_true rfl) ⟨Nat.le_refl _, Nat.le_refl _⟩ ?_
    rintro _ _ ⟨rfl, rfl⟩
    refine z_s 50 hB_z dX1_sell_49 rfl rfl ?_
    refine z_s 51 hB_z dX1_sell_50 rfl rfl ?_
    refine z_getI 54 hB_z fX1_49 (L48 (zS := zS) hL) dX1_sell_51 rfl rfl ?_
    refine z_s 55 hB_z dX1_sell_54 rfl rfl ?_
    refine z_s 56 hB_z dX1_sell_55 rfl rfl ?_
    refine z_putI 59 hB_z fX1_49 (L48 (zS := zS) hL) dX1_sell_56 rfl rfl rfl ?_
    refine z_s 60 hB_z dX1_sell_59 rfl rfl ?_
    refine z_s 61 hB_z dX1_sell_60 rfl rfl ?_
    refine z_getI 64 hB_z fX1_61 (L48 (zS := zS) hL) dX1_sell_61 rfl rfl ?_
    refine z_s 66 hB_z dX1_sell_64 rfl rfl ?_
    refine z_s 67 hB_z dX1_sell_66 rfl rfl ?_
    refine z_putI 70 hB_z fX1_61 (L48 (zS := zS) hL) dX1_sell_67 rfl rfl rfl ?_
    refine z_s 71 hB_z dX1_sell_70 rfl rfl ?_
    refine z_s 72 hB_z dX1_sell_71 rfl rfl ?_
    refine z_getI 75 hB_z fX1_58 (L48 (zS := zS) hL) dX1_sell_72 rfl rfl ?_
    refine z_s 76 hB_z dX1_sell_75 rfl rfl ?_
    refine z_s 78 hB_z dX1_sell_76 rfl rfl ?_
    refine z_s 79 hB_z dX1_sell_78 rfl rfl ?_
    refine z_s 80 hB_z dX1_sell_79 rfl rfl ?_
    refine z_putI 83 hB_z fX1_58 (L48 (zS := zS) hL) dX1_sell_80 rfl rfl rfl ?_
    refine z_vret hM_z dX1_sell_83 rfl ?_ rfl rfl
    have e3_z : z_pay zV c_z = z_I zS 23 c_z := by
      unfold z_pay
      rw [if_neg (by rw [← e1_z]; exact c_12), e2_z]
    rw [e3_z]
    exact ⟨rfl, rfl⟩
  ·
    refine z_s 16 hB_z dX1_sell_15 rfl rfl ?_
    refine z_j 30 hB_z dX1_sell_16 (by decide) ?_
    refine z_s 31 hB_z dX1_sell_30 rfl rfl ?_
    refine z_s 32 hB_z dX1_sell_31 rfl rfl ?_
    refine z_s 34 hB_z dX1_sell_32 rfl rfl ?_
    refine z_s 35 hB_z dX1_sell_34 rfl rfl ?_
    refine z_s 37 hB_z dX1_sell_35 rfl rfl ?_
    refine z_idiv 38 hB_z dX1_sell_37 rfl (by decide) ?_
    refine z_s 40 hB_z dX1_sell_38 rfl rfl ?_
    refine z_s 41 hB_z dX1_sell_40 rfl rfl ?_
    refine z_getR 44 hB_z fX1_14 (L48 (zS := zS) hL) dX1_sell_41 rfl rfl (r48_1 (zS := zS) hL) ?_
    refine z_s 45 hB_z dX1_sell_44 rfl rfl ?_
    refine z_s 46 hB_z dX1_sell_45 rfl rfl ?_
    refine z_callV 49 hB_z hM_z.2.1 kX1_118 dX1_sell_46 rfl (L49 (zS := zS) hL) rfl (c_put (d_z := 0) (w49 (zS := zS) hL) (by decide) hc_z) (by omega) rfl rfl (Nat.le_of_ble_eq_true rfl) ⟨Nat.le_refl _, Nat.le_refl _⟩ ?_
    rintro _ _ ⟨rfl, rfl⟩
    refine z_s 50 hB_z dX1_sell_49 rfl rfl ?_
    refine z_s 51 hB_z dX1_sell_50 rfl rfl ?_
    refine z_getI 54 hB_z fX1_49 (L48 (zS := zS) hL) dX1_sell_51 rfl rfl ?_
    refine z_s 55 hB_z dX1_sell_54 rfl rfl ?_
    refine z_s 56 hB_z dX1_sell_55 rfl rfl ?_
    refine z_putI 59 hB_z fX1_49 (L48 (zS := zS) hL) dX1_sell_56 rfl rfl rfl ?_
    refine z_s 60 hB_z dX1_sell_59 rfl rfl ?_
    refine z_s 61 hB_z dX1_sell_60 rfl rfl ?_
    refine z_getI 64 hB_z fX1_61 (L48 (zS := zS) hL) dX1_sell_61 rfl rfl ?_
    refine z_s 66 hB_z dX1_sell_64 rfl rfl ?_
    refine z_s 67 hB_z dX1_sell_66 rfl rfl ?_
    refine z_putI 70 hB_z fX1_61 (L48 (zS := zS) hL) dX1_sell_67 rfl rfl rfl ?_
    refine z_s 71 hB_z dX1_sell_70 rfl rfl ?_
    refine z_s 72 hB_z dX1_sell_71 rfl rfl ?_
    refine z_getI 75 hB_z fX1_58 (L48 (zS := zS) hL) dX1_sell_72 rfl rfl ?_
    refine z_s 76 hB_z dX1_sell_75 rfl rfl ?_
    refine z_s 78 hB_z dX1_sell_76 rfl rfl ?_
    refine z_s 79 hB_z dX1_sell_78 rfl rfl ?_
    refine z_s 80 hB_z dX1_sell_79 rfl rfl ?_
    refine z_putI 83 hB_z fX1_58 (L48 (zS := zS) hL) dX1_sell_80 rfl rfl rfl ?_
    refine z_vret hM_z dX1_sell_83 rfl ?_ rfl rfl
    have e3_z : z_pay zV c_z = 0 := by
      unfold z_pay
      rw [if_pos (by rw [← e1_z]; exact c_12)]
    rw [e3_z]
    exact ⟨rfl, rfl⟩

/-- the first of n that are so -/
def z_ff (f_z : Nat → Bool) : Nat → Nat → Int32
  | 0, _ => -4
  | m_z + 1, s_z => if f_z s_z then nI s_z else z_ff f_z m_z (s_z + 1)
theorem z_ff_skip {f_z : Nat → Bool} : ∀ (j_z m_z s_z : Nat), (∀ i_z, s_z ≤ i_z → i_z < s_z + j_z → f_z i_z = false) → z_ff f_z (j_z + m_z) s_z = z_ff f_z m_z (s_z + j_z)
  | 0, m_z, s_z, _ => by rw [Nat.zero_add]; rfl
  | j_z + 1, m_z, s_z, h_z => by
    rw [show j_z + 1 + m_z = (j_z + m_z) + 1 by omega, z_ff, h_z s_z (Nat.le_refl _) (by omega)]
    rw [if_neg Bool.false_ne_true, z_ff_skip j_z m_z (s_z + 1) (fun i_z h1 h2 => h_z i_z (by omega) (by omega)), show s_z + 1 + j_z = s_z + (j_z + 1) by omega]
theorem z_ff_hit {f_z : Nat → Bool} {n_z j_z : Nat} (hj : j_z < n_z) (h_z : ∀ i_z, i_z < j_z → f_z i_z = false) (hf : f_z j_z = true) : z_ff f_z n_z 0 = nI j_z := by
  have e_z := z_ff_skip j_z (n_z - j_z) 0 (fun i_z _ h2 => h_z i_z (by omega))
  rw [show j_z + (n_z - j_z) = n_z by omega, Nat.zero_add] at e_z
  rw [e_z, show n_z - j_z = (n_z - j_z - 1) + 1 by omega, z_ff, hf, if_pos rfl]
theorem z_ff_no {f_z : Nat → Bool} {n_z : Nat} (h_z : ∀ i_z, i_z < n_z → f_z i_z = false) : z_ff f_z n_z 0 = -4 := by
  have e_z := z_ff_skip n_z 0 0 (fun i_z _ h2 => h_z i_z (by omega))
  rw [Nat.add_zero] at e_z
  rw [e_z]; rfl
theorem c_X1_firstFor {g_z : z_U} {d_z : Nat} {zS : z_S} (hL : z_L zS) {n_z : Nat} (hn : z_I zS 7 9 = nI n_z) (hn6 : n_z ≤ 6) {th : Int32} : z_C g_z (d_z + 2) 0 0 mX1_firstFor [.ref 48, .int th] zS (fun r_z zS' => zS = zS' ∧ r_z = some (.int (z_ff (fun s_z => z_hb (z_I zS 48 2 &&& (z_I zS 48 3 ^^^ -1) &&& z_rd (z_I zS) 25 6 th) s_z) n_z 0))) := by
  refine z_enter [some (.ref 48), some (.int th), none] rfl rfl (Nat.le_of_ble_eq_true rfl) rfl (fun zX hM_z => ?_)
  have hB_z : z_B g_z zX RX1 cX1_firstFor 3 := hM_z.1
  have loop := z_loop (fun j_z => (∀ i_z, i_z < j_z → z_hb (z_I zS 48 2 &&& (z_I zS 48 3 ^^^ -1) &&& z_rd (z_I zS) 25 6 th) i_z = false) → z_W g_z zX 2 [some (.ref 48), some (.int th), some (.int (nI j_z))] [] 0 0 zS) n_z (fun j_z hj ih_z hb_z => by
    refine z_s 3 hB_z dX1_firstFor_2 rfl rfl ?_
    refine z_s 4 hB_z dX1_firstFor_3 rfl rfl ?_
    refine z_getR 7 hB_z fX1_20 (L48 (zS := zS) hL) dX1_firstFor_4 rfl rfl (r48_0 (zS := zS) hL) ?_
    refine z_getI 10 hB_z fX1_67 (L7 (zS := zS) hL) dX1_firstFor_7 rfl rfl ?_
    refine z_b 13 30 hB_z dX1_firstFor_10 rfl rfl (by decide) (fun c_10 => ?_) (fun c_10 => ?_)
    ·
      have hjs : n_z ≤ j_z := (nI_leI (by omega) (by omega)).mp (by rw [← hn]; exact c_10)
      refine z_s 32 hB_z dX1_firstFor_30 rfl rfl ?_
      refine z_iret hM_z dX1_firstFor_32 rfl ?_ rfl rfl
      exact ⟨rfl, by rw [z_ff_no (n_z := n_z) (fun i_z hi_z => hb_z i_z (by omega))]⟩
    ·
      have hjs : j_z < n_z := (nI_ltI (by omega) (by omega)).mp (by rw [← hn]; exact c_10)
      refine z_s 14 hB_z dX1_firstFor_13 rfl rfl ?_
      refine z_s 15 hB_z dX1_firstFor_14 rfl rfl ?_
      refine z_s 16 hB_z dX1_firstFor_15 rfl rfl ?_
      refine z_callV 19 hB_z hM_z.2.1 kX1_99 dX1_firstFor_16 rfl (L48 (zS := zS) hL) rfl (c_X1_isReadyFor (d_z := 0) hL) (by omega) rfl rfl (Nat.le_of_ble_eq_true rfl) ⟨Nat.le_refl _, Nat.le_refl _⟩ ?_
      rintro _ _ ⟨rfl, rfl⟩
      refine z_b 22 24 hB_z dX1_firstFor_19 rfl rfl (by decide) (fun c_19 => ?_) (fun c_19 => ?_)
      ·
        refine z_s 27 hB_z dX1_firstFor_24 rfl rfl ?_
        refine z_j 2 hB_z dX1_firstFor_27 (by decide) ?_
        exact z_eq (ih_z hjs (fun i_z hi_z => by rcases Nat.lt_or_ge i_z j_z with q_z | q_z; exact hb_z i_z q_z; rw [show i_z = j_z by omega]; exact z_if0 c_19)) (by rw [← z_inc]; rfl) rfl rfl
      ·
        refine z_s 23 hB_z dX1_firstFor_22 rfl rfl ?_
        refine z_iret hM_z dX1_firstFor_23 rfl ?_ rfl rfl
        exact ⟨rfl, by rw [z_ff_hit hjs (hb_z) (z_if1 c_19)]⟩) 0 (Nat.zero_le n_z) (fun i_z hi_z => absurd hi_z (Nat.not_lt_zero i_z))
  refine z_s 1 hB_z dX1_firstFor_0 rfl rfl ?_
  refine z_s 2 hB_z dX1_firstFor_1 rfl rfl ?_
  exact z_eq loop rfl rfl rfl

theorem z_scan_step {w_z srv K_z : Int32} {wk_z : Nat → Bool} {n_z j_z : Nat} (hj : j_z < n_z) : z_scan w_z srv wk_z (n_z - j_z) j_z K_z = if z_hb (w_z &&& (K_z ^^^ -1) &&& srv) j_z then (if wk_z j_z then z_scan w_z srv wk_z (n_z - (j_z + 1)) (j_z + 1) (K_z ||| (1 <<< (nI j_z &&& 31))) else (K_z, some j_z)) else z_scan w_z srv wk_z (n_z - (j_z + 1)) (j_z + 1) K_z := by
  rw [show n_z - j_z = (n_z - (j_z + 1)) + 1 by omega]; rfl
theorem z_pI_pI (zS : z_S) (o k_z : Nat) (v_z v2 : Int32) : z_pI (z_pI zS o k_z v_z) o k_z v2 = z_pI zS o k_z v2 := by
  have e_z : z_u2 (z_u2 zS.2.1 o k_z v_z) o k_z v2 = z_u2 zS.2.1 o k_z v2 := by
    funext q_z j_z
    unfold z_u2
    by_cases h_z : q_z = o ∧ j_z = k_z
    · rw [if_pos h_z, if_pos h_z]
    · rw [if_neg h_z, if_neg h_z, if_neg h_z]
  show (zS.1, z_u2 (z_u2 zS.2.1 o k_z v_z) o k_z v2, zS.2.2) = _
  rw [e_z]; rfl
theorem z_pI_id (zS : z_S) (o k_z : Nat) : z_pI zS o k_z (z_I zS o k_z) = zS := by
  have e_z : z_u2 zS.2.1 o k_z (z_I zS o k_z) = zS.2.1 := by
    funext q_z j_z
    unfold z_u2
    by_cases h_z : q_z = o ∧ j_z = k_z
    · rw [if_pos h_z, h_z.1, h_z.2]; rfl
    · rw [if_neg h_z]
  show (zS.1, z_u2 zS.2.1 o k_z (z_I zS o k_z), zS.2.2) = zS
  rw [e_z]
theorem z_PN7 : ∀ q_z : Nat, 7 ≤ q_z → q_z < 7 + 19 → ¬ z_PN q_z := fun q_z _ h2 h3 => by
  rcases h3 with h_z | h_z <;> omega
theorem z_w1 {a_z b_z c_z : Int32} (h_z : ¬ z_wakes a_z b_z c_z = 0) : z_wakes a_z b_z c_z = 1 := by
  have e_z := z_wakes_bit a_z b_z c_z
  rcases z_bit01 (z_wakes a_z b_z c_z) with q_z | q_z
  · rw [e_z] at q_z; exact absurd q_z h_z
  · rw [e_z] at q_z; exact q_z
theorem z_attS {zS : z_S} {zV : z_V} {w_z K_z : Int32} {D_z : z_N} {c_z j_z : Nat} (hN_z : z_rN (z_I zS) w_z D_z) (hK_z : (K_z, some j_z) = z_scan (z_I zS 48 2) (z_rd zV.1 8 6 (zV.1 5 c_z)) (z_rse zV c_z) zV.2.1 0 (z_I zS 48 3)) :
    ∃ zI', z_up zS zI' = z_pI (z_pI (z_pI (z_pI (z_pI zS 48 3 K_z) 50 c_z (nI j_z)) 48 4 (z_I (z_pI zS 48 3 K_z) 48 4 + 1)) 48 8 (z_I (z_pI zS 48 3 K_z) 48 8 + z_pay zV c_z * 9 / 100)) 48 7 (z_I (z_pI zS 48 3 K_z) 48 7 + (z_pay zV c_z - z_pay zV c_z * 9 / 100)) ∧ z_fr z_PN (z_I zS) zI' ∧ z_rN zI' w_z (z_at1 zV w_z D_z c_z) := by
  refine ⟨_, rfl, ((((z_fr.rf.u2 (Or.inl rfl)).u2 (Or.inr rfl)).u2 (Or.inl rfl)).u2 (Or.inl rfl)).u2 (Or.inl rfl), ?_⟩
  have e_z : z_at1 zV w_z D_z c_z = (K_z, D_z.2.1 + 1, D_z.2.2.1, D_z.2.2.2.1, D_z.2.2.2.2.1 + (z_pay zV c_z - z_pay zV c_z * 9 / 100), D_z.2.2.2.2.2.1 + z_pay zV c_z * 9 / 100, fun q_z => if q_z = c_z then nI j_z else D_z.2.2.2.2.2.2 q_z) := by
    unfold z_at1 z_sc
    rw [← hN_z.1, ← hN_z.2.1, ← hK_z]
  rw [e_z]
  have a3 : z_I (z_pI zS 48 3 K_z) 48 4 = D_z.2.1 := (z_Ine (by decide)).trans hN_z.2.2.1
  have a8 : z_I (z_pI zS 48 3 K_z) 48 8 = D_z.2.2.2.2.2.1 := (z_Ine (by decide)).trans hN_z.2.2.2.2.2.2.1
  have a7 : z_I (z_pI zS 48 3 K_z) 48 7 = D_z.2.2.2.2.1 := (z_Ine (by decide)).trans hN_z.2.2.2.2.2.1
  rw [a3, a8, a7]
  exact z_rN_ti (z_rN_dr (z_rN_sv (z_rN_se (z_rN_K hN_z))))
theorem z_attN1 {zS : z_S} {zV : z_V} {w_z K_z : Int32} {D_z : z_N} {c_z : Nat} (hN_z : z_rN (z_I zS) w_z D_z) (hK_z : (K_z, none) = z_scan (z_I zS 48 2) (z_rd zV.1 8 6 (zV.1 5 c_z)) (z_rse zV c_z) zV.2.1 0 (z_I zS 48 3)) (h0 : z_I (z_pI zS 48 3 K_z) 48 5 = 0) :
    ∃ zI', z_up zS zI' = z_pI (z_pI (z_pI zS 48 3 K_z) 48 6 (nI c_z)) 48 5 (z_I (z_pI (z_pI zS 48 3 K_z) 48 6 (nI c_z)) 48 5 + 1) ∧ z_fr z_PN (z_I zS) zI' ∧ z_rN zI' w_z (z_at1 zV w_z D_z c_z) := by
  refine ⟨_, rfl, ((z_fr.rf.u2 (Or.inl rfl)).u2 (Or.inl rfl)).u2 (Or.inl rfl), ?_⟩
  have a5 : z_I (z_pI zS 48 3 K_z) 48 5 = D_z.2.2.1 := (z_Ine (by decide)).trans hN_z.2.2.2.1
  have b5 : z_I (z_pI (z_pI zS 48 3 K_z) 48 6 (nI c_z)) 48 5 = D_z.2.2.1 := (z_Ine (by decide)).trans a5
  have e_z : z_at1 zV w_z D_z c_z = (K_z, D_z.2.1, D_z.2.2.1 + 1, nI c_z, D_z.2.2.2.2.1, D_z.2.2.2.2.2.1, D_z.2.2.2.2.2.2) := by
    unfold z_at1 z_sc
    rw [← hN_z.1, ← hN_z.2.1, ← hK_z]
    dsimp only
    rw [if_pos (by rw [← a5]; exact h0)]
  rw [e_z, b5]
  exact z_rN_hm (z_rN_fi (z_rN_K hN_z))
theorem z_attN2 {zS : z_S} {zV : z_V} {w_z K_z : Int32} {D_z : z_N} {c_z : Nat} (hN_z : z_rN (z_I zS) w_z D_z) (hK_z : (K_z, none) = z_scan (z_I zS 48 2) (z_rd zV.1 8 6 (zV.1 5 c_z)) (z_rse zV c_z) zV.2.1 0 (z_I zS 48 3)) (h0 : ¬ z_I (z_pI zS 48 3 K_z) 48 5 = 0) :
    ∃ zI', z_up zS zI' = z_pI (z_pI (z_pI zS 48 3 K_z) 48 6 (z_I (z_pI zS 48 3 K_z) 48 6)) 48 5 (z_I (z_pI (z_pI zS 48 3 K_z) 48 6 (z_I (z_pI zS 48 3 K_z) 48 6)) 48 5 + 1) ∧ z_fr z_PN (z_I zS) zI' ∧ z_rN zI' w_z (z_at1 zV w_z D_z c_z) := by
  refine ⟨_, rfl, ((z_fr.rf.u2 (Or.inl rfl)).u2 (Or.inl rfl)).u2 (Or.inl rfl), ?_⟩
  have a5 : z_I (z_pI zS 48 3 K_z) 48 5 = D_z.2.2.1 := (z_Ine (by decide)).trans hN_z.2.2.2.1
  have a6 : z_I (z_pI zS 48 3 K_z) 48 6 = D_z.2.2.2.1 := (z_Ine (by decide)).trans hN_z.2.2.2.2.1
  have b5 : z_I (z_pI (z_pI zS 48 3 K_z) 48 6 (z_I (z_pI zS 48 3 K_z) 48 6)) 48 5 = D_z.2.2.1 := (z_Ine (by decide)).trans a5
  have e_z : z_at1 zV w_z D_z c_z = (K_z, D_z.2.1, D_z.2.2.1 + 1, D_z.2.2.2.1, D_z.2.2.2.2.1, D_z.2.2.2.2.2.1, D_z.2.2.2.2.2.2) := by
    unfold z_at1 z_sc
    rw [← hN_z.1, ← hN_z.2.1, ← hK_z]
    dsimp only
    rw [if_neg (by rw [← a5]; exact h0)]
  rw [e_z, b5, a6]
  exact z_rN_hm (z_rN_fi (z_rN_K hN_z))
theorem c_X1_attend {g_z : z_U} {d_z : Nat} {zS : z_S} {zV : z_V} (hL : z_L zS) (hV : z_rV (z_I zS) 7 zV) {w_z : Int32} {D_z : z_N} (hN_z : z_rN (z_I zS) w_z D_z) {c_z : Nat} (hc_z : c_z < 10) : z_C g_z (d_z + 2) 0 0 mX1_attend [.ref 48, .int (nI c_z)] zS (fun r_z zS' => r_z = none ∧ ∃ zI', z_up zS zI' = zS' ∧ z_fr z_PN (z_I zS) zI' ∧ z_rN zI' w_z (z_at1 zV w_z D_z c_z)) := by
  refine z_enter [some (.ref 48), some (.int (nI c_z)), none, none] rfl rfl (Nat.le_of_ble_eq_true rfl) rfl (fun zX hM_z => ?_)
  have hB_z : z_B g_z zX RX1 cX1_attend 4 := hM_z.1
  have hn : z_I zS 7 9 = nI zV.2.1 := hV.2.1
  have hn6 : zV.2.1 ≤ 6 := hV.2.2.2.2.1
  have e5_z : z_I zS 19 c_z = zV.1 5 c_z := hV.1 5 (by decide) c_z (by unfold z_vl; exact hc_z)
  have loop := z_loop (fun j_z => ∀ K_z, z_scan (z_I zS 48 2) (z_rd zV.1 8 6 (zV.1 5 c_z)) (z_rse zV c_z) (zV.2.1 - j_z) j_z K_z = z_scan (z_I zS 48 2) (z_rd zV.1 8 6 (zV.1 5 c_z)) (z_rse zV c_z) zV.2.1 0 (z_I zS 48 3) → z_W g_z zX 14 [some (.ref 48), some (.int (nI c_z)), some (.int (z_I zS 19 c_z)), some (.int (nI j_z))] [] 0 0 (z_pI zS 48 3 K_z)) zV.2.1 (fun j_z hj ih_z K_z hK_z => by
    refine z_s 15 hB_z dX1_attend_14 rfl rfl ?_
    refine z_s 16 hB_z dX1_attend_15 rfl rfl ?_
    refine z_getR 19 hB_z fX1_20 (L48 (zS := zS) hL) dX1_attend_16 rfl rfl (r48_0 (zS := zS) hL) ?_
    refine z_getI 22 hB_z fX1_67 (L7 (zS := zS) hL) dX1_attend_19 rfl rfl ?_
    refine z_b 25 71 hB_z dX1_attend_22 rfl rfl (by decide) (fun c_22 => ?_) (fun c_22 => ?_)
    ·
      have hjs : zV.2.1 ≤ j_z := (nI_leI (by omega) (by omega)).mp (by rw [← hn]; exact c_22)
      refine z_s 72 hB_z dX1_attend_71 rfl rfl ?_
      refine z_s 73 hB_z dX1_attend_72 rfl rfl ?_
      refine z_getI 76 hB_z fX1_52 (L48 (zS := zS) hL) dX1_attend_73 rfl rfl ?_
      refine z_b 79 83 hB_z dX1_attend_76 rfl rfl (by decide) (fun c_76 => ?_) (fun c_76 => ?_)
      ·
        refine z_s 84 hB_z dX1_attend_83 rfl rfl ?_
        refine z_getI 87 hB_z fX1_55 (L48 (zS := zS) hL) dX1_attend_84 rfl rfl ?_
        refine z_putI 90 hB_z fX1_55 (L48 (zS := zS) hL) dX1_attend_87 rfl rfl rfl ?_
        refine z_s 91 hB_z dX1_attend_90 rfl rfl ?_
        refine z_s 92 hB_z dX1_attend_91 rfl rfl ?_
        refine z_getI 95 hB_z fX1_52 (L48 (zS := zS) hL) dX1_attend_92 rfl rfl ?_
        refine z_s 96 hB_z dX1_attend_95 rfl rfl ?_
        refine z_s 97 hB_z dX1_attend_96 rfl rfl ?_
        refine z_putI 100 hB_z fX1_52 (L48 (zS := zS) hL) dX1_attend_97 rfl rfl rfl ?_
        refine z_vret hM_z dX1_attend_100 rfl ?_ rfl rfl
        rw [show zV.2.1 - j_z = 0 by omega] at hK_z
        exact ⟨rfl, z_attN2 hN_z hK_z c_76⟩
      ·
        refine z_s 80 hB_z dX1_attend_79 rfl rfl ?_
        refine z_j 87 hB_z dX1_attend_80 (by decide) ?_
        refine z_putI 90 hB_z fX1_55 (L48 (zS := zS) hL) dX1_attend_87 rfl rfl rfl ?_
        refine z_s 91 hB_z dX1_attend_90 rfl rfl ?_
        refine z_s 92 hB_z dX1_attend_91 rfl rfl ?_
        refine z_getI 95 hB_z fX1_52 (L48 (zS := zS) hL) dX1_attend_92 rfl rfl ?_
        refine z_s 96 hB_z dX1_attend_95 rfl rfl ?_
        refine z_s 97 hB_z dX1_attend_96 rfl rfl ?_
        refine z_putI 100 hB_z fX1_52 (L48 (zS := zS) hL) dX1_attend_97 rfl rfl rfl ?_
        refine z_vret hM_z dX1_attend_100 rfl ?_ rfl rfl
        rw [show zV.2.1 - j_z = 0 by omega] at hK_z
        exact ⟨rfl, z_attN1 hN_z hK_z c_76⟩
    ·
      have hjs : j_z < zV.2.1 := (nI_ltI (by omega) (by omega)).mp (by rw [← hn]; exact c_22)
      have est := z_scan_step (w_z := z_I zS 48 2) (srv := z_rd zV.1 8 6 (zV.1 5 c_z)) (K_z := K_z) (wk_z := z_rse zV c_z) hjs
      refine z_s 26 hB_z dX1_attend_25 rfl rfl ?_
      refine z_s 27 hB_z dX1_attend_26 rfl rfl ?_
      refine z_s 28 hB_z dX1_attend_27 rfl rfl ?_
      refine z_callV 31 hB_z hM_z.2.1 kX1_99 dX1_attend_28 rfl (L48 (zS := zS) hL) rfl (c_X1_isReadyFor (d_z := 0) (z_L.pI hL)) (by omega) rfl rfl (Nat.le_of_ble_eq_true rfl) ⟨Nat.le_refl _, Nat.le_refl _⟩ ?_
      rintro _ _ ⟨rfl, rfl⟩
      have e7_z : z_hb (z_I (z_pI zS 48 3 K_z) 48 2 &&& (z_I (z_pI zS 48 3 K_z) 48 3 ^^^ -1) &&& z_rd (z_I (z_pI zS 48 3 K_z)) 25 6 (z_I zS 19 c_z)) j_z = z_hb (z_I zS 48 2 &&& (K_z ^^^ -1) &&& z_rd zV.1 8 6 (zV.1 5 c_z)) j_z := by
        rw [← z_rd_V2 hV, ← e5_z]
        have q1_z : z_I (z_pI zS 48 3 K_z) 48 2 = z_I zS 48 2 := z_Ine (by decide)
        have q2_z : z_I (z_pI zS 48 3 K_z) 48 3 = K_z := z_Ieq
        have q3_z : z_rd (z_I (z_pI zS 48 3 K_z)) 25 6 (z_I zS 19 c_z) = z_rd (z_I zS) 25 6 (z_I zS 19 c_z) := by
          unfold z_rd
          rw [show z_I (z_pI zS 48 3 K_z) 25 = z_I zS 25 from funext fun i_z => z_Ine (Or.inl (by decide))]
        rw [q1_z, q2_z, q3_z]
      rw [e7_z]
      refine z_b 34 65 hB_z dX1_attend_31 rfl rfl (by decide) (fun c_31 => ?_) (fun c_31 => ?_)
      ·
        refine z_s 68 hB_z dX1_attend_65 rfl rfl ?_
        refine z_j 14 hB_z dX1_attend_68 (by decide) ?_
        rw [if_neg (by rw [z_if0 c_31]; exact Bool.false_ne_true)] at est
        exact z_eq (ih_z hjs K_z (by rw [← est]; exact hK_z)) (by rw [← z_inc]; rfl) rfl rfl
      ·
        refine z_s 35 hB_z dX1_attend_34 rfl rfl ?_
        refine z_getR 38 hB_z fX1_20 (L48 (zS := zS) hL) dX1_attend_35 rfl rfl (r48_0 (zS := zS) hL) ?_
        refine z_s 39 hB_z dX1_attend_38 rfl rfl ?_
        refine z_s 40 hB_z dX1_attend_39 rfl rfl ?_
        refine z_callV 43 hB_z hM_z.2.1 kX1_102 dX1_attend_40 rfl (L7 (zS := zS) hL) rfl (c_X5_rouses (d_z := 0) (z_L.pI hL) (hV.fr (z_fr.u2 (P_z := z_PN) z_fr.rf (Or.inl rfl)) (z_PN7)) hc_z (by omega)) (by omega) rfl rfl (Nat.le_of_ble_eq_true rfl) ⟨Nat.le_refl _, Nat.le_refl _⟩ ?_
        rintro _ _ ⟨rfl, rfl⟩
        refine z_b 46 53 hB_z dX1_attend_43 rfl rfl (by decide) (fun c_43 => ?_) (fun c_43 => ?_)
        ·
          have ew : z_rse zV c_z j_z = true := decide_eq_true (z_w1 c_43)
          refine z_s 54 hB_z dX1_attend_53 rfl rfl ?_
          refine z_s 55 hB_z dX1_attend_54 rfl rfl ?_
          refine z_getI 58 hB_z fX1_46 (L48 (zS := zS) hL) dX1_attend_55 rfl rfl ?_
          refine z_s 59 hB_z dX1_attend_58 rfl rfl ?_
          refine z_s 60 hB_z dX1_attend_59 rfl rfl ?_
          refine z_s 61 hB_z dX1_attend_60 rfl rfl ?_
          refine z_s 62 hB_z dX1_attend_61 rfl rfl ?_
          refine z_putI 65 hB_z fX1_46 (L48 (zS := zS) hL) dX1_attend_62 rfl rfl rfl ?_
          refine z_s 68 hB_z dX1_attend_65 rfl rfl ?_
          refine z_j 14 hB_z dX1_attend_68 (by decide) ?_
          rw [if_pos (z_if1 c_31), ew, if_pos rfl] at est
          have q1_z : z_I (z_pI zS 48 3 K_z) 48 3 = K_z := z_Ieq
          exact z_eq (ih_z hjs (K_z ||| (1 <<< (nI j_z &&& 31))) (by rw [← est]; exact hK_z)) (by rw [← z_inc]; rfl) rfl (by rw [← q1_z]; exact z_pI_pI _ _ _ _ _)
        ·
          have ew : z_rse zV c_z j_z = false := decide_eq_false (fun q_z => by rw [q_z] at c_43; exact absurd c_43 (by decide))
          refine z_s 47 hB_z dX1_attend_46 rfl rfl ?_
          refine z_s 48 hB_z dX1_attend_47 rfl rfl ?_
          refine z_s 49 hB_z dX1_attend_48 rfl rfl ?_
          refine z_callV 52 hB_z hM_z.2.1 kX1_105 dX1_attend_49 rfl (L48 (zS := zS) hL) rfl (c_X1_sell (d_z := 0) (z_L.pI hL) (hV.fr (z_fr.u2 (P_z := z_PN) z_fr.rf (Or.inl rfl)) (z_PN7)) hc_z) (by omega) rfl rfl (Nat.le_of_ble_eq_true rfl) ⟨Nat.le_refl _, Nat.le_refl _⟩ ?_
          rintro _ _ ⟨rfl, rfl⟩
          refine z_vret hM_z dX1_attend_52 rfl ?_ rfl rfl
          rw [if_pos (z_if1 c_31), ew, if_neg Bool.false_ne_true] at est
          rw [est] at hK_z
          exact ⟨rfl, z_attS hN_z hK_z⟩) 0 (Nat.zero_le _) (z_I zS 48 3) rfl
  refine z_s 1 hB_z dX1_attend_0 rfl rfl ?_
  refine z_getR 4 hB_z fX1_20 (L48 (zS := zS) hL) dX1_attend_1 rfl rfl (r48_0 (zS := zS) hL) ?_
  refine z_getR 7 hB_z fX1_96 (L7 (zS := zS) hL) dX1_attend_4 rfl rfl (r7_5 (zS := zS) hL) ?_
  refine z_s 8 hB_z dX1_attend_7 rfl rfl ?_
  refine z_callV 11 hB_z hM_z.2.1 kX1_76 dX1_attend_8 rfl (L18 (zS := zS) hL) rfl (c_at (d_z := 0) (w18 (zS := zS) hL) (by decide) hc_z) (by omega) rfl rfl (Nat.le_of_ble_eq_true rfl) ⟨Nat.le_refl _, Nat.le_refl _⟩ ?_
  rintro _ _ ⟨rfl, rfl⟩
  refine z_s 12 hB_z dX1_attend_11 rfl rfl ?_
  refine z_s 13 hB_z dX1_attend_12 rfl rfl ?_
  refine z_s 14 hB_z dX1_attend_13 rfl rfl ?_
  exact z_eq loop rfl rfl (z_pI_id _ _ _).symm

