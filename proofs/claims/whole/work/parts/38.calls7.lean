/-! ask, law, year -/
theorem z_rd_Vk {zI : Nat → Nat → Int32} {zV : z_V} (hV : z_rV zI 7 zV) (k_z : Nat) (hk : k_z < 9) {a_z n_z : Nat} (ha_z : 9 + 2 * k_z = a_z) (hn : n_z = z_vl k_z) (i_z : Int32) : z_rd zI a_z n_z i_z = z_rd zV.1 k_z n_z i_z := by
  subst ha_z; subst hn
  unfold z_rd
  by_cases h_z : 0 ≤ i_z ∧ i_z < nI (z_vl k_z)
  · rw [if_pos h_z, if_pos h_z]
    have hb_z : z_vl k_z < 2 ^ 31 := by unfold z_vl; split <;> first | omega | (split <;> omega)
    obtain ⟨j_z, hj, rfl⟩ := nI_of (z_nlt0 h_z.1)
    have h6 := (nI_ltI hj hb_z).mp h_z.2
    rw [nI_clamp hj]
    exact hV.1 k_z hk j_z h6
  · rw [if_neg h_z, if_neg h_z]
def z_wf (p_z k_z : Int32) : Nat → Nat → Int32
  | 0, _ => -4
  | m_z + 1, w_z => if z_wakes (nI w_z) p_z k_z = 0 then nI w_z else z_wf p_z k_z m_z (w_z + 1)
theorem z_wf_step (p_z k_z : Int32) {w_z : Nat} (h_z : w_z < 4) : z_wf p_z k_z (4 - w_z) w_z = if z_wakes (nI w_z) p_z k_z = 0 then nI w_z else z_wf p_z k_z (4 - (w_z + 1)) (w_z + 1) := by
  rw [show 4 - w_z = (4 - (w_z + 1)) + 1 by omega]; rfl
/-- who is asked first by customer j: of those that walk, serve and weren't woken by those ahead of him -/
def z_first (zV : z_V) (zT : Nat → Int32) (j_z : Nat) : Int32 := z_ff (fun s_z => z_hb (z_wlk zV zT (z_hasDog zV (zT 0)) &&& ((z_day zV (zT 0) (z_wlk zV zT (z_hasDog zV (zT 0))) j_z).1 ^^^ -1) &&& z_rd zV.1 8 6 (zV.1 5 j_z)) s_z) zV.2.1 0
def z_ansAsk (A_z : z_Ab) (c_z : Int32) : Int32 := if 0 ≤ c_z ∧ c_z < nI (z_AV A_z).2.2.1 then (if z_comes (z_AV A_z) (z_AT A_z 0) c_z.toNatClampNeg = true then (if z_first (z_AV A_z) (z_AT A_z) c_z.toNatClampNeg = -4 then -4 else z_wf ((z_AV A_z).1 7 c_z.toNatClampNeg) (z_rd (z_AV A_z).1 0 6 (z_first (z_AV A_z) (z_AT A_z) c_z.toNatClampNeg)) 4 0) else -4) else -1
set_option maxHeartbeats 1000000 in
theorem c_X9_ask {g_z : z_U} {d_z : Nat} {zS : z_S} {A_z : z_Ab} (hC : z_RC zS A_z) {c_z : Int32} : z_C g_z (d_z + 5) 0 0 mX9_ask [.ref 4, .int c_z] zS (z_QP zS (z_ansAsk A_z c_z)) := by
  refine z_enter [some (.ref 4), some (.int c_z), none, none] rfl rfl (Nat.le_of_ble_eq_true rfl) rfl (fun zX hM_z => ?_)
  have hB_z : z_B g_z zX RX9 cX9_ask 4 := hM_z.1
  obtain ⟨hL, hV, hT_z, hU, hK_z, hS_z, hX⟩ := id hC
  have hn : z_I zS 7 9 = nI (z_AV A_z).2.1 := hV.2.1
  have hm_z : z_I zS 7 10 = nI (z_AV A_z).2.2.1 := hV.2.2.1
  have hn6 := hV.2.2.2.2.1
  have hm10 := hV.2.2.2.2.2
  have loop := fun (j_z : Nat) (hj : j_z < (z_AV A_z).2.2.1) (hM_z : z_BM g_z zX (d_z + 5) 0 0 mX9_ask (z_QP zS (z_ansAsk A_z (nI j_z)))) (x_z : Int32) (I2_z : Nat → Nat → Int32) (hf2 : z_fr z_PN (z_I zS) I2_z) (hV2 : z_rV I2_z 7 (z_AV A_z)) => z_loop (fun k_z => z_ansAsk A_z (nI j_z) = z_wf ((z_AV A_z).1 7 j_z) (z_rd (z_AV A_z).1 0 6 x_z) (4 - k_z) k_z → z_W g_z zX 87 [some (.ref 4), some (.int (nI j_z)), some (.int x_z), some (.int (nI k_z))] [] 0 0 (z_up zS I2_z)) 4 (fun k_z hk ih_z hA => by
    refine z_s 88 hB_z dX9_ask_87 rfl rfl ?_
    refine z_s 89 hB_z dX9_ask_88 rfl rfl ?_
    refine z_b 92 129 hB_z dX9_ask_89 rfl rfl (by decide) (fun c_89 => ?_) (fun c_89 => ?_)
    ·
      have hk4 : k_z = 4 := by
        have := (nI_ltI (by omega) (by omega)).mp (show nI 3 < nI k_z from c_89)
        omega
      refine z_s 131 hB_z dX9_ask_129 rfl rfl ?_
      refine z_iret hM_z dX9_ask_131 rfl ?_ rfl rfl
      rw [hk4] at hA
      exact ⟨by rw [hA]; rfl, I2_z, rfl, hf2.mono z_scrN⟩
    ·
      have hjs : k_z < 4 := by
        have := (nI_leI (by omega) (by omega)).mp (show nI k_z ≤ nI 3 from c_89)
        omega
      have est := z_wf_step ((z_AV A_z).1 7 j_z) (z_rd (z_AV A_z).1 0 6 x_z) hjs
      refine z_s 93 hB_z dX9_ask_92 rfl rfl ?_
      refine z_s 94 hB_z dX9_ask_93 rfl rfl ?_
      refine z_getR 97 hB_z fX9_19 (L4_z (zS := zS) hL) dX9_ask_94 rfl rfl (r4_1 (zS := zS) hL) ?_
      refine z_getR 100 hB_z fX9_158 (L7 (zS := zS) hL) dX9_ask_97 rfl rfl (r7_7 (zS := zS) hL) ?_
      refine z_s 101 hB_z dX9_ask_100 rfl rfl ?_
      refine z_callV 104 hB_z hM_z.2.1 kX9_118 dX9_ask_101 rfl (L22 (zS := zS) hL) rfl (c_at (zS := z_up zS I2_z) (d_z := 0) (w22 hL) (by decide) (by omega)) (by omega) rfl rfl (Nat.le_of_ble_eq_true rfl) ⟨Nat.le_refl _, Nat.le_refl _⟩ ?_
      rintro _ _ ⟨rfl, rfl⟩
      rw [show z_I (z_up zS I2_z) 23 j_z = (z_AV A_z).1 7 j_z from hV2.1 7 (by decide) j_z (show j_z < 10 by omega)]
      refine z_s 105 hB_z dX9_ask_104 rfl rfl ?_
      refine z_getR 108 hB_z fX9_19 (L4_z (zS := zS) hL) dX9_ask_105 rfl rfl (r4_1 (zS := zS) hL) ?_
      refine z_getR 111 hB_z fX9_114 (L7 (zS := zS) hL) dX9_ask_108 rfl rfl (r7_0 (zS := zS) hL) ?_
      refine z_s 112 hB_z dX9_ask_111 rfl rfl ?_
      refine z_callV 115 hB_z hM_z.2.1 kX9_118 dX9_ask_112 rfl (L8_z (zS := zS) hL) rfl (c_X3_at (zS := z_up zS I2_z) (d_z := 0) (w8 hL) (by decide)) (by omega) rfl rfl (Nat.le_of_ble_eq_true rfl) ⟨Nat.le_refl _, Nat.le_refl _⟩ ?_
      rintro _ _ ⟨rfl, rfl⟩
      rw [show z_rd (z_I (z_up zS I2_z)) 9 6 x_z = z_rd (z_AV A_z).1 0 6 x_z from z_rd_Vk hV2 0 (by decide) rfl rfl x_z]
      refine z_callS 118 hB_z hM_z.2.1 kX9_252 dX9_ask_115 rfl (c_X9_wakes (d_z := 0)) (by omega) rfl rfl (Nat.le_of_ble_eq_true rfl) ⟨Nat.le_refl _, Nat.le_refl _⟩ ?_
      rintro _ _ ⟨rfl, rfl⟩
      refine z_b 121 123 hB_z dX9_ask_118 rfl rfl (by decide) (fun c_118 => ?_) (fun c_118 => ?_)
      ·
        refine z_s 126 hB_z dX9_ask_123 rfl rfl ?_
        refine z_j 87 hB_z dX9_ask_126 (by decide) ?_
        rw [if_neg c_118] at est
        exact z_eq (ih_z hjs (hA.trans est)) (by rw [← z_inc k_z]; rfl) rfl rfl
      ·
        refine z_s 122 hB_z dX9_ask_121 rfl rfl ?_
        refine z_iret hM_z dX9_ask_122 rfl ?_ rfl rfl
        rw [if_pos c_118] at est
        exact ⟨by rw [hA, est], I2_z, rfl, hf2.mono z_scrN⟩) 0 (Nat.zero_le _)
  refine z_s 1 hB_z dX9_ask_0 rfl rfl ?_
  refine z_s 2 hB_z dX9_ask_1 rfl rfl ?_
  refine z_callV 5 hB_z hM_z.2.1 kX9_146 dX9_ask_2 rfl (L4_z (zS := zS) hL) rfl (c_X9_isCustomer (d_z := 0) hL hm_z) (by omega) rfl rfl (Nat.le_of_ble_eq_true rfl) ⟨Nat.le_refl _, Nat.le_refl _⟩ ?_
  rintro _ _ ⟨rfl, v1_z, rfl, hv1⟩
  refine z_b 8 10 hB_z dX9_ask_5 rfl rfl (by decide) (fun c_5 => ?_) (fun c_5 => ?_)
  ·
    rcases hv1 with ⟨w0_z, _⟩ | ⟨_, w1_z⟩
    · exact absurd w0_z c_5
    obtain ⟨j_z, hj, rfl⟩ := w1_z.of (by omega)
    have e0_z : z_I zS 51 0 = z_AT A_z 0 := hT_z.1 0 (by decide)
    refine z_s 11 hB_z dX9_ask_10 rfl rfl ?_
    refine z_getR 14 hB_z fX9_19 (L4_z (zS := zS) hL) dX9_ask_11 rfl rfl (r4_1 (zS := zS) hL) ?_
    refine z_s 15 hB_z dX9_ask_14 rfl rfl ?_
    refine z_s 16 hB_z dX9_ask_15 rfl rfl ?_
    refine z_getR 19 hB_z fX9_47 (L4_z (zS := zS) hL) dX9_ask_16 rfl rfl (r4_5 (zS := zS) hL) ?_
    refine z_getI 22 hB_z fX9_161 (L51 (zS := zS) hL) dX9_ask_19 rfl rfl ?_
    rw [e0_z]
    refine z_callV 25 hB_z hM_z.2.1 kX9_163 dX9_ask_22 rfl (L7 (zS := zS) hL) rfl (c_X5_comes (d_z := 0) hL hV (by omega)) (by omega) rfl rfl (Nat.le_of_ble_eq_true rfl) ⟨Nat.le_refl _, Nat.le_refl _⟩ ?_
    rintro _ _ ⟨rfl, rfl⟩
    refine z_b 28 31 hB_z dX9_ask_25 rfl rfl (by decide) (fun c_25 => ?_) (fun c_25 => ?_)
    ·
      refine z_s 32 hB_z dX9_ask_31 rfl rfl ?_
      refine z_getR 35 hB_z fX9_40 (L4_z (zS := zS) hL) dX9_ask_32 rfl rfl (r4_4 (zS := zS) hL) ?_
      refine z_s 36 hB_z dX9_ask_35 rfl rfl ?_
      refine z_getR 39 hB_z fX9_47 (L4_z (zS := zS) hL) dX9_ask_36 rfl rfl (r4_5 (zS := zS) hL) ?_
      refine z_s 40 hB_z dX9_ask_39 rfl rfl ?_
      refine z_getR 43 hB_z fX9_19 (L4_z (zS := zS) hL) dX9_ask_40 rfl rfl (r4_1 (zS := zS) hL) ?_
      refine z_s 44 hB_z dX9_ask_43 rfl rfl ?_
      refine z_getR 47 hB_z fX9_47 (L4_z (zS := zS) hL) dX9_ask_44 rfl rfl (r4_5 (zS := zS) hL) ?_
      refine z_getI 50 hB_z fX9_161 (L51 (zS := zS) hL) dX9_ask_47 rfl rfl ?_
      rw [e0_z]
      refine z_callV 53 hB_z hM_z.2.1 kX9_242 dX9_ask_50 rfl (L7 (zS := zS) hL) rfl (c_X5_hasDog (d_z := 0) hL hV) (by omega) rfl rfl (Nat.le_of_ble_eq_true rfl) ⟨Nat.le_refl _, Nat.le_refl _⟩ ?_
      rintro _ _ ⟨rfl, rfl⟩
      refine z_s 54 hB_z dX9_ask_53 rfl rfl ?_
      refine z_callV 57 hB_z hM_z.2.1 kX9_245 dX9_ask_54 rfl (L48 (zS := zS) hL) rfl (c_X1_play (d_z := 0) hL hV (by decide) (s51 hL) hT_z (dog := z_hasDog (z_AV A_z) (z_AT A_z 0)) rfl (by omega)) (by omega) rfl rfl (Nat.le_of_ble_eq_true rfl) ⟨Nat.le_refl _, Nat.le_refl _⟩ ?_
      rintro _ _ ⟨rfl, I2_z, rfl, hf2, hN2⟩
      have hV2 : z_rV I2_z 7 (z_AV A_z) := hV.fr hf2 z_PN7
      refine z_s 58 hB_z dX9_ask_57 rfl rfl ?_
      refine z_getR 61 hB_z fX9_40 (L4_z (zS := zS) hL) dX9_ask_58 rfl rfl (r4_4 (zS := zS) hL) ?_
      refine z_s 62 hB_z dX9_ask_61 rfl rfl ?_
      refine z_getR 65 hB_z fX9_19 (L4_z (zS := zS) hL) dX9_ask_62 rfl rfl (r4_1 (zS := zS) hL) ?_
      refine z_getR 68 hB_z fX9_152 (L7 (zS := zS) hL) dX9_ask_65 rfl rfl (r7_5 (zS := zS) hL) ?_
      refine z_s 69 hB_z dX9_ask_68 rfl rfl ?_
      refine z_callV 72 hB_z hM_z.2.1 kX9_118 dX9_ask_69 rfl (L18 (zS := zS) hL) rfl (c_at (zS := z_up zS I2_z) (d_z := 0) (w18 hL) (by decide) (by omega)) (by omega) rfl rfl (Nat.le_of_ble_eq_true rfl) ⟨Nat.le_refl _, Nat.le_refl _⟩ ?_
      rintro _ _ ⟨rfl, rfl⟩
      rw [show z_I (z_up zS I2_z) 19 j_z = (z_AV A_z).1 5 j_z from hV2.1 5 (by decide) j_z (show j_z < 10 by omega)]
      refine z_callV 75 hB_z hM_z.2.1 kX9_249 dX9_ask_72 rfl (L48 (zS := zS) hL) rfl (c_X1_firstFor (zS := z_up zS I2_z) (d_z := 0) hL hV2.2.1 hn6) (by omega) rfl rfl (Nat.le_of_ble_eq_true rfl) ⟨Nat.le_refl _, Nat.le_refl _⟩ ?_
      rintro _ _ ⟨rfl, rfl⟩
      have ex_z : z_ff (fun s_z => z_hb (z_I (z_up zS I2_z) 48 2 &&& (z_I (z_up zS I2_z) 48 3 ^^^ -1) &&& z_rd (z_I (z_up zS I2_z)) 25 6 ((z_AV A_z).1 5 j_z)) s_z) (z_AV A_z).2.1 0 = z_first (z_AV A_z) (z_AT A_z) j_z := by
        unfold z_first
        rw [show z_I (z_up zS I2_z) 48 2 = _ from hN2.1, show z_I (z_up zS I2_z) 48 3 = _ from hN2.2.1, show z_rd (z_I (z_up zS I2_z)) 25 6 ((z_AV A_z).1 5 j_z) = z_rd (z_AV A_z).1 8 6 ((z_AV A_z).1 5 j_z) from z_rd_V2 hV2 _]
      rw [ex_z]
      refine z_s 76 hB_z dX9_ask_75 rfl rfl ?_
      refine z_s 77 hB_z dX9_ask_76 rfl rfl ?_
      refine z_s 79 hB_z dX9_ask_77 rfl rfl ?_
      refine z_b 82 85 hB_z dX9_ask_79 rfl rfl (by decide) (fun c_79 => ?_) (fun c_79 => ?_)
      ·
        refine z_s 86 hB_z dX9_ask_85 rfl rfl ?_
        refine z_s 87 hB_z dX9_ask_86 rfl rfl ?_
        exact z_eq (loop j_z hj hM_z _ I2_z hf2 hV2 (by unfold z_ansAsk; rw [if_pos w1_z, nI_clamp (by omega), if_pos (z_if1 c_25), if_neg c_79])) rfl rfl rfl
      ·
        refine z_s 84 hB_z dX9_ask_82 rfl rfl ?_
        refine z_iret hM_z dX9_ask_84 rfl ?_ rfl rfl
        refine ⟨congrArg (fun q_z => some (Value.int q_z)) (Eq.symm ?_), I2_z, rfl, hf2.mono z_scrN⟩
        unfold z_ansAsk
        rw [if_pos w1_z, nI_clamp (by omega), if_pos (z_if1 c_25), if_pos c_79]
    ·
      refine z_s 30 hB_z dX9_ask_28 rfl rfl ?_
      refine z_iret hM_z dX9_ask_30 rfl ?_ rfl rfl
      exact z_QP.rf (by unfold z_ansAsk; rw [if_pos w1_z, nI_clamp (by omega), if_neg (by rw [z_if0 c_25]; exact Bool.false_ne_true)])
  ·
    refine z_s 9 hB_z dX9_ask_8 rfl rfl ?_
    refine z_iret hM_z dX9_ask_9 rfl ?_ rfl rfl
    rcases hv1 with ⟨_, w1_z⟩ | ⟨w0_z, _⟩
    · exact z_QP.rf (by unfold z_ansAsk; rw [if_neg w1_z])
    · rw [w0_z] at c_5; exact absurd c_5 (by decide)

abbrev z_Q4 : Type := (Nat → Int32) × (Nat → Int32) × (Nat → Int32) × Nat
def z_bad1 (q_z : z_Q4) (s_z e_z o : Int32) (i_z : Nat) : Bool := decide (q_z.1 i_z = s_z) && (decide (z_mod (q_z.2.1 i_z) e_z = o) != decide (q_z.2.2.1 i_z = 1))
def z_alw (q_z : z_Q4) (s_z e_z o : Int32) : Nat → Bool
  | 0 => true
  | i_z + 1 => z_alw q_z s_z e_z o i_z && !z_bad1 q_z s_z e_z o i_z
theorem z_alw_bad {q_z : z_Q4} {s_z e_z o : Int32} {i_z m_z : Nat} (h_z : z_bad1 q_z s_z e_z o i_z = true) (hm_z : i_z < m_z) : z_alw q_z s_z e_z o m_z = false := by
  induction m_z with
  | zero => omega
  | succ m_z ih_z =>
    unfold z_alw
    by_cases q2_z : i_z = m_z
    · rw [← q2_z, h_z]; exact Bool.and_false _
    · rw [ih_z (by omega)]; rfl
set_option maxHeartbeats 1000000 in
theorem c_X6_allow {g_z : z_U} {d_z : Nat} {zS : z_S} {q_z : z_Q4} (hL : z_L zS) (hS_z : z_rS (z_I zS) q_z) {s_z e_z f_z : Int32} : z_C g_z (d_z + 1) 0 0 mX6_allow [.ref 91, .int s_z, .int e_z, .int f_z] zS (fun r_z zS' => zS = zS' ∧ r_z = some (.int (if z_alw q_z s_z e_z f_z q_z.2.2.2 = true then 1 else 0))) := by
  refine z_enter [some (.ref 91), some (.int s_z), some (.int e_z), some (.int f_z), none, none] rfl rfl (Nat.le_of_ble_eq_true rfl) rfl (fun zX hM_z => ?_)
  have hB_z : z_B g_z zX RX6 cX6_allow 6 := hM_z.1
  have hz := hS_z.1
  have h8 := hS_z.2.1
  have loop := z_loop (fun i_z => z_alw q_z s_z e_z f_z i_z = true → z_W g_z zX 3 [some (.ref 91), some (.int s_z), some (.int e_z), some (.int f_z), some (.int (nI i_z)), none] [] 0 0 zS) q_z.2.2.2 (fun i_z hi_z ih_z hb_z => by
    refine z_s 5 hB_z dX6_allow_3 rfl rfl ?_
    refine z_s 6 hB_z dX6_allow_5 rfl rfl ?_
    refine z_getI 9 hB_z fX6_26 (L91 (zS := zS) hL) dX6_allow_6 rfl rfl ?_
    refine z_b 12 80 hB_z dX6_allow_9 rfl rfl (by decide) (fun c_9 => ?_) (fun c_9 => ?_)
    ·
      have hjs : i_z = q_z.2.2.2 := by
        have := (nI_leI (by omega) (by omega)).mp (show nI q_z.2.2.2 ≤ nI i_z by rw [← hz]; exact c_9)
        omega
      refine z_s 81 hB_z dX6_allow_80 rfl rfl ?_
      refine z_zret hM_z dX6_allow_81 rfl (by decide) ?_ rfl rfl
      rw [hjs] at hb_z
      exact ⟨rfl, by rw [hb_z]; rfl⟩
    ·
      have hjs : i_z < q_z.2.2.2 := (nI_ltI (by omega) (by omega)).mp (by rw [← hz]; exact c_9)
      obtain ⟨k1_z, k2_z, k3_z⟩ := hS_z.2.2 i_z hjs
      refine z_s 13 hB_z dX6_allow_12 rfl rfl ?_
      refine z_getR 16 hB_z fX6_20 (L91 (zS := zS) hL) dX6_allow_13 rfl rfl (r91_1 (zS := zS) hL) ?_
      refine z_s 18 hB_z dX6_allow_16 rfl rfl ?_
      refine z_callV 21 hB_z hM_z.2.1 kX6_34 dX6_allow_18 rfl (L94 (zS := zS) hL) rfl (c_at (d_z := 0) (w94 hL) (by decide) (by omega)) (by omega) rfl rfl (Nat.le_of_ble_eq_true rfl) ⟨Nat.le_refl _, Nat.le_refl _⟩ ?_
      rintro _ _ ⟨rfl, rfl⟩
      rw [k2_z]
      refine z_s 22 hB_z dX6_allow_21 rfl rfl ?_
      refine z_callS 25 hB_z hM_z.2.1 kX6_38 dX6_allow_22 rfl (c_X9_mod (d_z := 0)) (by omega) rfl rfl (Nat.le_of_ble_eq_true rfl) ⟨Nat.le_refl _, Nat.le_refl _⟩ ?_
      rintro _ _ ⟨rfl, rfl⟩
      refine z_s 26 hB_z dX6_allow_25 rfl rfl ?_
      refine z_b 29 33 hB_z dX6_allow_26 rfl rfl (by decide) (fun c_26 => ?_) (fun c_26 => ?_)
      ·
        have eN_z : decide (z_mod (q_z.2.1 i_z) e_z = f_z) = false := decide_eq_false c_26
        refine z_s 34 hB_z dX6_allow_33 rfl rfl ?_
        refine z_s 36 hB_z dX6_allow_34 rfl rfl ?_
        refine z_s 37 hB_z dX6_allow_36 rfl rfl ?_
        refine z_getR 40 hB_z fX6_14 (L91 (zS := zS) hL) dX6_allow_37 rfl rfl (r91_0 (zS := zS) hL) ?_
        refine z_s 42 hB_z dX6_allow_40 rfl rfl ?_
        refine z_callV 45 hB_z hM_z.2.1 kX6_34 dX6_allow_42 rfl (L92 (zS := zS) hL) rfl (c_at (d_z := 0) (w92 hL) (by decide) (by omega)) (by omega) rfl rfl (Nat.le_of_ble_eq_true rfl) ⟨Nat.le_refl _, Nat.le_refl _⟩ ?_
        rintro _ _ ⟨rfl, rfl⟩
        rw [k1_z]
        refine z_s 46 hB_z dX6_allow_45 rfl rfl ?_
        refine z_b 49 74 hB_z dX6_allow_46 rfl rfl (by decide) (fun c_46 => ?_) (fun c_46 => ?_)
        ·
          refine z_s 77 hB_z dX6_allow_74 rfl rfl ?_
          refine z_j 3 hB_z dX6_allow_77 (by decide) ?_
          exact z_wkn (ih_z hjs (by unfold z_alw z_bad1; rw [hb_z, eN_z, decide_eq_false c_46]; rfl)) ⟨rfl, rfl, rfl, rfl, congrArg (fun q_z => some (Value.int q_z)) (z_inc i_z), trivial⟩
        ·
          refine z_s 51 hB_z dX6_allow_49 rfl rfl ?_
          refine z_s 52 hB_z dX6_allow_51 rfl rfl ?_
          refine z_getR 55 hB_z fX6_23 (L91 (zS := zS) hL) dX6_allow_52 rfl rfl (r91_2 (zS := zS) hL) ?_
          refine z_s 57 hB_z dX6_allow_55 rfl rfl ?_
          refine z_callV 60 hB_z hM_z.2.1 kX6_34 dX6_allow_57 rfl (L96 (zS := zS) hL) rfl (c_at (d_z := 0) (w96 hL) (by decide) (by omega)) (by omega) rfl rfl (Nat.le_of_ble_eq_true rfl) ⟨Nat.le_refl _, Nat.le_refl _⟩ ?_
          rintro _ _ ⟨rfl, rfl⟩
          rw [k3_z]
          refine z_s 61 hB_z dX6_allow_60 rfl rfl ?_
          refine z_b 64 68 hB_z dX6_allow_61 rfl rfl (by decide) (fun c_61 => ?_) (fun c_61 => ?_)
          ·
            refine z_s 69 hB_z dX6_allow_68 rfl rfl ?_
            refine z_b 72 74 hB_z dX6_allow_69 rfl rfl (by decide) (fun c_69 => ?_) (fun c_69 => ?_)
            ·
              refine z_s 77 hB_z dX6_allow_74 rfl rfl ?_
              refine z_j 3 hB_z dX6_allow_77 (by decide) ?_
              exact z_wkn (ih_z hjs (by unfold z_alw z_bad1; rw [hb_z, eN_z, decide_eq_true c_46, decide_eq_false c_61]; rfl)) ⟨rfl, rfl, rfl, rfl, congrArg (fun q_z => some (Value.int q_z)) (z_inc i_z), trivial⟩
            ·
              exact absurd rfl c_69
          ·
            refine z_s 65 hB_z dX6_allow_64 rfl rfl ?_
            refine z_j 69 hB_z dX6_allow_65 (by decide) ?_
            refine z_b 72 74 hB_z dX6_allow_69 rfl rfl (by decide) (fun c_69 => ?_) (fun c_69 => ?_)
            ·
              exact absurd c_69 (by decide)
            ·
              refine z_s 73 hB_z dX6_allow_72 rfl rfl ?_
              refine z_zret hM_z dX6_allow_73 rfl (by decide) ?_ rfl rfl
              exact ⟨rfl, by rw [z_alw_bad (i_z := i_z) (by unfold z_bad1; rw [eN_z, decide_eq_true c_46, decide_eq_true c_61]; rfl) hjs]; rfl⟩
      ·
        have eN_z : decide (z_mod (q_z.2.1 i_z) e_z = f_z) = true := decide_eq_true c_26
        refine z_s 30 hB_z dX6_allow_29 rfl rfl ?_
        refine z_j 34 hB_z dX6_allow_30 (by decide) ?_
        refine z_s 36 hB_z dX6_allow_34 rfl rfl ?_
        refine z_s 37 hB_z dX6_allow_36 rfl rfl ?_
        refine z_getR 40 hB_z fX6_14 (L91 (zS := zS) hL) dX6_allow_37 rfl rfl (r91_0 (zS := zS) hL) ?_
        refine z_s 42 hB_z dX6_allow_40 rfl rfl ?_
        refine z_callV 45 hB_z hM_z.2.1 kX6_34 dX6_allow_42 rfl (L92 (zS := zS) hL) rfl (c_at (d_z := 0) (w92 hL) (by decide) (by omega)) (by omega) rfl rfl (Nat.le_of_ble_eq_true rfl) ⟨Nat.le_refl _, Nat.le_refl _⟩ ?_
        rintro _ _ ⟨rfl, rfl⟩
        rw [k1_z]
        refine z_s 46 hB_z dX6_allow_45 rfl rfl ?_
        refine z_b 49 74 hB_z dX6_allow_46 rfl rfl (by decide) (fun c_46 => ?_) (fun c_46 => ?_)
        ·
          refine z_s 77 hB_z dX6_allow_74 rfl rfl ?_
          refine z_j 3 hB_z dX6_allow_77 (by decide) ?_
          exact z_wkn (ih_z hjs (by unfold z_alw z_bad1; rw [hb_z, eN_z, decide_eq_false c_46]; rfl)) ⟨rfl, rfl, rfl, rfl, congrArg (fun q_z => some (Value.int q_z)) (z_inc i_z), trivial⟩
        ·
          refine z_s 51 hB_z dX6_allow_49 rfl rfl ?_
          refine z_s 52 hB_z dX6_allow_51 rfl rfl ?_
          refine z_getR 55 hB_z fX6_23 (L91 (zS := zS) hL) dX6_allow_52 rfl rfl (r91_2 (zS := zS) hL) ?_
          refine z_s 57 hB_z dX6_allow_55 rfl rfl ?_
          refine z_callV 60 hB_z hM_z.2.1 kX6_34 dX6_allow_57 rfl (L96 (zS := zS) hL) rfl (c_at (d_z := 0) (w96 hL) (by decide) (by omega)) (by omega) rfl rfl (Nat.le_of_ble_eq_true rfl) ⟨Nat.le_refl _, Nat.le_refl _⟩ ?_
          rintro _ _ ⟨rfl, rfl⟩
          rw [k3_z]
          refine z_s 61 hB_z dX6_allow_60 rfl rfl ?_
          refine z_b 64 68 hB_z dX6_allow_61 rfl rfl (by decide) (fun c_61 => ?_) (fun c_61 => ?_)
          ·
            refine z_s 69 hB_z dX6_allow_68 rfl rfl ?_
            refine z_b 72 74 hB_z dX6_allow_69 rfl rfl (by decide) (fun c_69 => ?_) (fun c_69 => ?_)
            ·
              exact absurd c_69 (by decide)
            ·
              refine z_s 73 hB_z dX6_allow_72 rfl rfl ?_
              refine z_zret hM_z dX6_allow_73 rfl (by decide) ?_ rfl rfl
              exact ⟨rfl, by rw [z_alw_bad (i_z := i_z) (by unfold z_bad1; rw [eN_z, decide_eq_true c_46, decide_eq_false c_61]; rfl) hjs]; rfl⟩
          ·
            refine z_s 65 hB_z dX6_allow_64 rfl rfl ?_
            refine z_j 69 hB_z dX6_allow_65 (by decide) ?_
            refine z_b 72 74 hB_z dX6_allow_69 rfl rfl (by decide) (fun c_69 => ?_) (fun c_69 => ?_)
            ·
              refine z_s 77 hB_z dX6_allow_74 rfl rfl ?_
              refine z_j 3 hB_z dX6_allow_77 (by decide) ?_
              exact z_wkn (ih_z hjs (by unfold z_alw z_bad1; rw [hb_z, eN_z, decide_eq_true c_46, decide_eq_true c_61]; rfl)) ⟨rfl, rfl, rfl, rfl, congrArg (fun q_z => some (Value.int q_z)) (z_inc i_z), trivial⟩
            ·
              exact absurd rfl c_69) 0 (Nat.zero_le _) rfl
  refine z_s 1 hB_z dX6_allow_0 rfl rfl ?_
  refine z_s 3 hB_z dX6_allow_1 rfl rfl ?_
  exact z_eq loop rfl rfl rfl

