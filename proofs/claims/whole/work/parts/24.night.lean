/-! the shop's questions and the night -/
theorem z_wakes_bit (a_z b_z c_z : Int32) : z_wakes a_z b_z c_z &&& 1 = z_wakes a_z b_z c_z := by
  unfold z_wakes
  split
  · split <;> rfl
  · split
    · split <;> rfl
    · split
      · split <;> rfl
      · rfl

theorem c_X5_isDue {g_z : z_U} {d_z : Nat} {zS : z_S} {zV : z_V} (hL : z_L zS) (hV : z_rV (z_I zS) 7 zV) {s_z : Nat} (hs : s_z < 6) {t_z : Int32} : z_C g_z (d_z + 1) 0 0 mX5_isDue [.ref 7, .int (nI s_z), .int t_z] zS (fun r_z zS' => zS = zS' ∧ r_z = some (.int (if z_due zV t_z s_z then 1 else 0))) := by
  refine z_enter [some (.ref 7), some (.int (nI s_z)), some (.int t_z), none] rfl rfl (Nat.le_of_ble_eq_true rfl) rfl (fun zX hM_z => ?_)
  have hB_z : z_B g_z zX RX5 cX5_isDue 4 := hM_z.1
  have e2_z := z_rd_V hV 2 (by decide) (j_z := s_z) (n_z := 6) (a_z := 13) rfl rfl hs
  have e3_z := z_rd_V hV 3 (by decide) (j_z := s_z) (n_z := 6) (a_z := 15) rfl rfl hs
  have e_z : z_due zV t_z s_z = decide (z_mod t_z (zV.1 2 s_z) = z_mod (zV.1 3 s_z) (zV.1 2 s_z)) := rfl
  rw [← e2_z, ← e3_z] at e_z
  refine z_s 1 hB_z dX5_isDue_0 rfl rfl ?_
  refine z_getR 4 hB_z fX5_23 (L7 (zS := zS) hL) dX5_isDue_1 rfl rfl (r7_2 (zS := zS) hL) ?_
  refine z_s 5 hB_z dX5_isDue_4 rfl rfl ?_
  refine z_callV 8 hB_z hM_z.2.1 kX5_68 dX5_isDue_5 rfl (L12_z (zS := zS) hL) rfl (c_X3_at (d_z := 0) (w12 (zS := zS) hL) (by decide)) (by omega) rfl rfl (Nat.le_of_ble_eq_true rfl) ⟨Nat.le_refl _, Nat.le_refl _⟩ ?_
  rintro _ _ ⟨rfl, rfl⟩
  refine z_s 9 hB_z dX5_isDue_8 rfl rfl ?_
  refine z_s 10 hB_z dX5_isDue_9 rfl rfl ?_
  refine z_s 11 hB_z dX5_isDue_10 rfl rfl ?_
  refine z_callS 14 hB_z hM_z.2.1 kX5_64 dX5_isDue_11 rfl (c_X9_mod (d_z := 0)) (by omega) rfl rfl (Nat.le_of_ble_eq_true rfl) ⟨Nat.le_refl _, Nat.le_refl _⟩ ?_
  rintro _ _ ⟨rfl, rfl⟩
  refine z_s 15 hB_z dX5_isDue_14 rfl rfl ?_
  refine z_getR 18 hB_z fX5_26 (L7 (zS := zS) hL) dX5_isDue_15 rfl rfl (r7_3 (zS := zS) hL) ?_
  refine z_s 19 hB_z dX5_isDue_18 rfl rfl ?_
  refine z_callV 22 hB_z hM_z.2.1 kX5_68 dX5_isDue_19 rfl (L14 (zS := zS) hL) rfl (c_X3_at (d_z := 0) (w14_z (zS := zS) hL) (by decide)) (by omega) rfl rfl (Nat.le_of_ble_eq_true rfl) ⟨Nat.le_refl _, Nat.le_refl _⟩ ?_
  rintro _ _ ⟨rfl, rfl⟩
  refine z_s 23 hB_z dX5_isDue_22 rfl rfl ?_
  refine z_callS 26 hB_z hM_z.2.1 kX5_64 dX5_isDue_23 rfl (c_X9_mod (d_z := 0)) (by omega) rfl rfl (Nat.le_of_ble_eq_true rfl) ⟨Nat.le_refl _, Nat.le_refl _⟩ ?_
  rintro _ _ ⟨rfl, rfl⟩
  refine z_b 29 33 hB_z dX5_isDue_26 rfl rfl (by decide) (fun c_26 => ?_) (fun c_26 => ?_)
  ·
    refine z_s 34 hB_z dX5_isDue_33 rfl rfl ?_
    refine z_zret hM_z dX5_isDue_34 rfl (by decide) ?_ rfl rfl
    exact ⟨rfl, by rw [e_z, decide_eq_false (by exact c_26)]; rfl⟩
  ·
    refine z_s 30 hB_z dX5_isDue_29 rfl rfl ?_
    refine z_j 34 hB_z dX5_isDue_30 (by decide) ?_
    refine z_zret hM_z dX5_isDue_34 rfl (by decide) ?_ rfl rfl
    exact ⟨rfl, by rw [e_z, decide_eq_true (by exact c_26)]; rfl⟩

theorem c_X5_comes {g_z : z_U} {d_z : Nat} {zS : z_S} {zV : z_V} (hL : z_L zS) (hV : z_rV (z_I zS) 7 zV) {c_z : Nat} (hc_z : c_z < 10) {t_z : Int32} : z_C g_z (d_z + 1) 0 0 mX5_comes [.ref 7, .int (nI c_z), .int t_z] zS (fun r_z zS' => zS = zS' ∧ r_z = some (.int (if z_comes zV t_z c_z then 1 else 0))) := by
  refine z_enter [some (.ref 7), some (.int (nI c_z)), some (.int t_z)] rfl rfl (Nat.le_of_ble_eq_true rfl) rfl (fun zX hM_z => ?_)
  have hB_z : z_B g_z zX RX5 cX5_comes 3 := hM_z.1
  have e2_z := z_rd_V hV 4 (by decide) (j_z := c_z) (n_z := 10) (a_z := 17) rfl rfl hc_z
  have e_z : z_comes zV t_z c_z = decide (zV.1 4 c_z = z_mod t_z 14) := rfl
  rw [← e2_z] at e_z
  refine z_s 1 hB_z dX5_comes_0 rfl rfl ?_
  refine z_getR 4 hB_z fX5_29 (L7 (zS := zS) hL) dX5_comes_1 rfl rfl (r7_4 (zS := zS) hL) ?_
  refine z_s 5 hB_z dX5_comes_4 rfl rfl ?_
  refine z_callV 8 hB_z hM_z.2.1 kX5_68 dX5_comes_5 rfl (L16 (zS := zS) hL) rfl (c_X3_at (d_z := 0) (w16 (zS := zS) hL) (by decide)) (by omega) rfl rfl (Nat.le_of_ble_eq_true rfl) ⟨Nat.le_refl _, Nat.le_refl _⟩ ?_
  rintro _ _ ⟨rfl, rfl⟩
  refine z_s 9 hB_z dX5_comes_8 rfl rfl ?_
  refine z_s 11 hB_z dX5_comes_9 rfl rfl ?_
  refine z_callS 14 hB_z hM_z.2.1 kX5_64 dX5_comes_11 rfl (c_X9_mod (d_z := 0)) (by omega) rfl rfl (Nat.le_of_ble_eq_true rfl) ⟨Nat.le_refl _, Nat.le_refl _⟩ ?_
  rintro _ _ ⟨rfl, rfl⟩
  refine z_b 17 21 hB_z dX5_comes_14 rfl rfl (by decide) (fun c_14 => ?_) (fun c_14 => ?_)
  ·
    refine z_s 22 hB_z dX5_comes_21 rfl rfl ?_
    refine z_zret hM_z dX5_comes_22 rfl (by decide) ?_ rfl rfl
    exact ⟨rfl, by rw [e_z, decide_eq_false (by exact c_14)]; rfl⟩
  ·
    refine z_s 18 hB_z dX5_comes_17 rfl rfl ?_
    refine z_j 22 hB_z dX5_comes_18 (by decide) ?_
    refine z_zret hM_z dX5_comes_22 rfl (by decide) ?_ rfl rfl
    exact ⟨rfl, by rw [e_z, decide_eq_true (by exact c_14)]; rfl⟩

theorem c_X5_hasDog {g_z : z_U} {d_z : Nat} {zS : z_S} {zV : z_V} (hL : z_L zS) (hV : z_rV (z_I zS) 7 zV) {t_z : Int32} : z_C g_z (d_z + 1) 0 0 mX5_hasDog [.ref 7, .int t_z] zS (fun r_z zS' => zS = zS' ∧ r_z = some (.int (if z_hasDog zV t_z then 1 else 0))) := by
  refine z_enter [some (.ref 7), some (.int t_z)] rfl rfl (Nat.le_of_ble_eq_true rfl) rfl (fun zX hM_z => ?_)
  have hB_z : z_B g_z zX RX5 cX5_hasDog 2 := hM_z.1
  have e1_z : z_I zS 7 12 = zV.2.2.2 := hV.2.2.2.1
  have e_z : z_hasDog zV t_z = (decide (0 < zV.2.2.2) && decide (z_mod t_z zV.2.2.2 = 0)) := rfl
  rw [← e1_z] at e_z
  refine z_s 1 hB_z dX5_hasDog_0 rfl rfl ?_
  refine z_getI 4 hB_z fX5_57 (L7 (zS := zS) hL) dX5_hasDog_1 rfl rfl ?_
  refine z_b 7 22 hB_z dX5_hasDog_4 rfl rfl (by decide) (fun c_4 => ?_) (fun c_4 => ?_)
  ·
    refine z_s 23 hB_z dX5_hasDog_22 rfl rfl ?_
    refine z_zret hM_z dX5_hasDog_23 rfl (by decide) ?_ rfl rfl
    exact ⟨rfl, by rw [e_z, decide_eq_false (z_nlt0 c_4)]; rfl⟩
  ·
    refine z_s 8 hB_z dX5_hasDog_7 rfl rfl ?_
    refine z_s 9 hB_z dX5_hasDog_8 rfl rfl ?_
    refine z_getI 12 hB_z fX5_57 (L7 (zS := zS) hL) dX5_hasDog_9 rfl rfl ?_
    refine z_callS 15 hB_z hM_z.2.1 kX5_64 dX5_hasDog_12 rfl (c_X9_mod (d_z := 0)) (by omega) rfl rfl (Nat.le_of_ble_eq_true rfl) ⟨Nat.le_refl _, Nat.le_refl _⟩ ?_
    rintro _ _ ⟨rfl, rfl⟩
    refine z_b 18 22 hB_z dX5_hasDog_15 rfl rfl (by decide) (fun c_15 => ?_) (fun c_15 => ?_)
    ·
      refine z_s 23 hB_z dX5_hasDog_22 rfl rfl ?_
      refine z_zret hM_z dX5_hasDog_23 rfl (by decide) ?_ rfl rfl
      exact ⟨rfl, by rw [e_z, decide_eq_true c_4, decide_eq_false (by exact c_15)]; rfl⟩
    ·
      refine z_s 19 hB_z dX5_hasDog_18 rfl rfl ?_
      refine z_j 23 hB_z dX5_hasDog_19 (by decide) ?_
      refine z_zret hM_z dX5_hasDog_23 rfl (by decide) ?_ rfl rfl
      exact ⟨rfl, by rw [e_z, decide_eq_true c_4, decide_eq_true (by exact c_15)]; rfl⟩

theorem c_X9_wakes {g_z : z_U} {d_z : Nat} {zS : z_S} {way_z pence kind : Int32} : z_C g_z (d_z) 0 0 mX9_wakes [.int way_z, .int pence, .int kind] zS (fun r_z zS' => zS = zS' ∧ r_z = some (.int (z_wakes way_z pence kind))) := by
  refine z_enter [some (.int way_z), some (.int pence), some (.int kind)] rfl rfl (Nat.le_of_ble_eq_true rfl) rfl (fun zX hM_z => ?_)
  have hB_z : z_B g_z zX RX9 cX9_wakes 3 := hM_z.1
  refine z_s 1 hB_z dX9_wakes_0 rfl rfl ?_
  by_cases h0 : way_z = 0
  · subst h0
    refine z_tsw hB_z dX9_wakes_1 28 (by decide) (by decide) ?_
    refine z_s 29 hB_z dX9_wakes_28 rfl rfl ?_
    refine z_s 30 hB_z dX9_wakes_29 rfl rfl ?_
    refine z_b 33 44 hB_z dX9_wakes_30 rfl rfl (by decide) (fun c_30 => ?_) (fun c_30 => ?_)
    ·
      refine z_s 45 hB_z dX9_wakes_44 rfl rfl ?_
      refine z_j 49 hB_z dX9_wakes_45 (by decide) ?_
      refine z_zret hM_z dX9_wakes_49 rfl (by decide) ?_ rfl rfl
      exact ⟨rfl, by unfold z_wakes; rw [if_pos rfl, if_pos (Or.inl c_30)]⟩
    ·
      refine z_s 34 hB_z dX9_wakes_33 rfl rfl ?_
      refine z_s 35 hB_z dX9_wakes_34 rfl rfl ?_
      refine z_b 38 48 hB_z dX9_wakes_35 rfl rfl (by decide) (fun c_35 => ?_) (fun c_35 => ?_)
      ·
        refine z_s 49 hB_z dX9_wakes_48 rfl rfl ?_
        refine z_zret hM_z dX9_wakes_49 rfl (by decide) ?_ rfl rfl
        exact ⟨rfl, by unfold z_wakes; rw [if_pos rfl, if_neg (fun h_z => h_z.elim (fun q_z => c_30 q_z) (fun q_z => c_35 q_z.1))]⟩
      ·
        refine z_s 39 hB_z dX9_wakes_38 rfl rfl ?_
        refine z_s 41 hB_z dX9_wakes_39 rfl rfl ?_
        refine z_b 44 48 hB_z dX9_wakes_41 rfl rfl (by decide) (fun c_41 => ?_) (fun c_41 => ?_)
        ·
          refine z_s 49 hB_z dX9_wakes_48 rfl rfl ?_
          refine z_zret hM_z dX9_wakes_49 rfl (by decide) ?_ rfl rfl
          exact ⟨rfl, by unfold z_wakes; rw [if_pos rfl, if_neg (fun h_z => h_z.elim (fun q_z => c_30 q_z) (fun q_z => z_nlt0 c_41 q_z.2))]⟩
        ·
          refine z_s 45 hB_z dX9_wakes_44 rfl rfl ?_
          refine z_j 49 hB_z dX9_wakes_45 (by decide) ?_
          refine z_zret hM_z dX9_wakes_49 rfl (by decide) ?_ rfl rfl
          exact ⟨rfl, by unfold z_wakes; rw [if_pos rfl, if_pos (Or.inr ⟨c_35, c_41⟩)]⟩
  by_cases h1 : way_z = 1
  · subst h1
    refine z_tsw hB_z dX9_wakes_1 50 (by decide) (by decide) ?_
    refine z_s 51 hB_z dX9_wakes_50 rfl rfl ?_
    refine z_b 54 58 hB_z dX9_wakes_51 rfl rfl (by decide) (fun c_51 => ?_) (fun c_51 => ?_)
    ·
      refine z_s 59 hB_z dX9_wakes_58 rfl rfl ?_
      refine z_zret hM_z dX9_wakes_59 rfl (by decide) ?_ rfl rfl
      exact ⟨rfl, by unfold z_wakes; rw [if_neg h0, if_pos rfl, if_neg c_51]⟩
    ·
      refine z_s 55 hB_z dX9_wakes_54 rfl rfl ?_
      refine z_j 59 hB_z dX9_wakes_55 (by decide) ?_
      refine z_zret hM_z dX9_wakes_59 rfl (by decide) ?_ rfl rfl
      exact ⟨rfl, by unfold z_wakes; rw [if_neg h0, if_pos rfl, if_pos c_51]⟩
  by_cases h2 : way_z = 2
  · subst h2
    refine z_tsw hB_z dX9_wakes_1 60 (by decide) (by decide) ?_
    refine z_s 61 hB_z dX9_wakes_60 rfl rfl ?_
    refine z_s 62 hB_z dX9_wakes_61 rfl rfl ?_
    refine z_b 65 69 hB_z dX9_wakes_62 rfl rfl (by decide) (fun c_62 => ?_) (fun c_62 => ?_)
    ·
      refine z_s 70 hB_z dX9_wakes_69 rfl rfl ?_
      refine z_zret hM_z dX9_wakes_70 rfl (by decide) ?_ rfl rfl
      exact ⟨rfl, by unfold z_wakes; rw [if_neg h0, if_neg h1, if_pos rfl, if_neg c_62]⟩
    ·
      refine z_s 66 hB_z dX9_wakes_65 rfl rfl ?_
      refine z_j 70 hB_z dX9_wakes_66 (by decide) ?_
      refine z_zret hM_z dX9_wakes_70 rfl (by decide) ?_ rfl rfl
      exact ⟨rfl, by unfold z_wakes; rw [if_neg h0, if_neg h1, if_pos rfl, if_pos c_62]⟩
  · have hout : way_z.toInt < 0 ∨ 2 < way_z.toInt := by
      rcases Int.lt_or_le way_z.toInt 0 with h_z | h_z
      · exact Or.inl h_z
      · rcases Int.lt_or_le 2 way_z.toInt with h_z' | h_z'
        · exact Or.inr h_z'
        · exfalso
          have : way_z.toInt = 0 ∨ way_z.toInt = 1 ∨ way_z.toInt = 2 := by omega
          rcases this with q_z | q_z | q_z
          · exact h0 (Int32.toInt_inj.mp (by rw [q_z]; decide))
          · exact h1 (Int32.toInt_inj.mp (by rw [q_z]; decide))
          · exact h2 (Int32.toInt_inj.mp (by rw [q_z]; decide))
    refine z_tsw hB_z dX9_wakes_1 71 (by rw [if_pos hout]; decide) (fun q1_z q2_z => by rcases hout with h_z | h_z <;> omega) ?_
    refine z_s 72 hB_z dX9_wakes_71 rfl rfl ?_
    refine z_zret hM_z dX9_wakes_72 rfl (by decide) ?_ rfl rfl
    exact ⟨rfl, by unfold z_wakes; rw [if_neg h0, if_neg h1, if_neg h2]⟩

theorem c_X5_rouses {g_z : z_U} {d_z : Nat} {zS : z_S} {zV : z_V} (hL : z_L zS) (hV : z_rV (z_I zS) 7 zV) {c_z s_z : Nat} (hc_z : c_z < 10) (hs : s_z < 6) : z_C g_z (d_z + 1) 0 0 mX5_rouses [.ref 7, .int (nI c_z), .int (nI s_z)] zS (fun r_z zS' => zS = zS' ∧ r_z = some (.int (z_wakes (zV.1 6 c_z) (zV.1 7 c_z) (zV.1 0 s_z)))) := by
  refine z_enter [some (.ref 7), some (.int (nI c_z)), some (.int (nI s_z))] rfl rfl (Nat.le_of_ble_eq_true rfl) rfl (fun zX hM_z => ?_)
  have hB_z : z_B g_z zX RX5 cX5_rouses 3 := hM_z.1
  have e1_z := z_rd_V hV 6 (by decide) (j_z := c_z) (n_z := 10) (a_z := 21) rfl rfl hc_z
  have e2_z := z_rd_V hV 7 (by decide) (j_z := c_z) (n_z := 10) (a_z := 23) rfl rfl hc_z
  have e3_z := z_rd_V hV 0 (by decide) (j_z := s_z) (n_z := 6) (a_z := 9) rfl rfl hs
  refine z_s 1 hB_z dX5_rouses_0 rfl rfl ?_
  refine z_getR 4 hB_z fX5_35 (L7 (zS := zS) hL) dX5_rouses_1 rfl rfl (r7_6 (zS := zS) hL) ?_
  refine z_s 5 hB_z dX5_rouses_4 rfl rfl ?_
  refine z_callV 8 hB_z hM_z.2.1 kX5_68 dX5_rouses_5 rfl (L20 (zS := zS) hL) rfl (c_X3_at (d_z := 0) (w20 (zS := zS) hL) (by decide)) (by omega) rfl rfl (Nat.le_of_ble_eq_true rfl) ⟨Nat.le_refl _, Nat.le_refl _⟩ ?_
  rintro _ _ ⟨rfl, rfl⟩
  refine z_s 9 hB_z dX5_rouses_8 rfl rfl ?_
  refine z_getR 12 hB_z fX5_38 (L7 (zS := zS) hL) dX5_rouses_9 rfl rfl (r7_7 (zS := zS) hL) ?_
  refine z_s 13 hB_z dX5_rouses_12 rfl rfl ?_
  refine z_callV 16 hB_z hM_z.2.1 kX5_68 dX5_rouses_13 rfl (L22 (zS := zS) hL) rfl (c_X3_at (d_z := 0) (w22 (zS := zS) hL) (by decide)) (by omega) rfl rfl (Nat.le_of_ble_eq_true rfl) ⟨Nat.le_refl _, Nat.le_refl _⟩ ?_
  rintro _ _ ⟨rfl, rfl⟩
  refine z_s 17 hB_z dX5_rouses_16 rfl rfl ?_
  refine z_getR 20 hB_z fX5_14 (L7 (zS := zS) hL) dX5_rouses_17 rfl rfl (r7_0 (zS := zS) hL) ?_
  refine z_s 21 hB_z dX5_rouses_20 rfl rfl ?_
  refine z_callV 24 hB_z hM_z.2.1 kX5_68 dX5_rouses_21 rfl (L8_z (zS := zS) hL) rfl (c_X3_at (d_z := 0) (w8 (zS := zS) hL) (by decide)) (by omega) rfl rfl (Nat.le_of_ble_eq_true rfl) ⟨Nat.le_refl _, Nat.le_refl _⟩ ?_
  rintro _ _ ⟨rfl, rfl⟩
  refine z_callS 27 hB_z hM_z.2.1 kX5_76 dX5_rouses_24 rfl (c_X9_wakes (d_z := 0)) (by omega) rfl rfl (Nat.le_of_ble_eq_true rfl) ⟨Nat.le_refl _, Nat.le_refl _⟩ ?_
  rintro _ _ ⟨rfl, rfl⟩
  refine z_zret hM_z dX5_rouses_27 rfl (z_wakes_bit _ _ _) ?_ rfl rfl
  exact ⟨rfl, by rw [e1_z, e2_z, e3_z]⟩
