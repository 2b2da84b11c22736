/-! the model: an item -/
set_option maxHeartbeats 1000000 in
theorem c_X10_isItem_x {g_z : z_U} {d_z : Nat} {zS : z_S} {q_z : (Nat → Int32) × Nat} {D_z : z_Dr} (hN_z : z_LM zS) (hx : z_I zS 99 0 = nI q_z.2) (h200 : q_z.2 ≤ 200) (hq : ∀ k_z, k_z < q_z.2 → z_I zS 100 k_z = q_z.1 k_z) {p_z : Nat} (hp : p_z < q_z.2) (hp2 : z_I zS 99 2 = nI p_z) (hD : z_rMD (z_I zS) D_z) (hn : D_z.1.2.1 ≤ 6) (hm_z : D_z.1.2.2.1 ≤ 10) (hQ : z_OQ D_z.2) (hq6 : z_qn D_z.2 ≤ 6) (h1 : ¬ z_lt q_z p_z = 115) (h2 : ¬ z_lt q_z p_z = 99) (h3 : ¬ z_lt q_z p_z = 113) (h4 : ¬ z_lt q_z p_z = 104) : z_C g_z (d_z + 3) 0 0 mX10_isItem [.ref 99] zS (z_IMP zS q_z D_z p_z) := by
  refine z_enter [some (.ref 99), none, none, none, none, none] rfl rfl (Nat.le_of_ble_eq_true rfl) rfl (fun zX hM_z => ?_)
  have hB_z : z_B g_z zX RX10 cX10_isItem 6 := hM_z.1
  refine z_s 1 hB_z dX10_isItem_0 rfl rfl ?_
  refine z_s 2 hB_z dX10_isItem_1 rfl rfl ?_
  refine z_getI 5 hB_z fX10_85 (N99 (zS := zS) hN_z) dX10_isItem_2 rfl rfl ?_
  rw [hp2]
  refine z_callV 8 hB_z hM_z.2.1 kX10_88 dX10_isItem_5 rfl (N99 (zS := zS) hN_z) rfl (c_X10_letterAt (d_z := 0) (q_z := q_z) hN_z hx h200 hq (p_z := p_z) (by omega)) (by omega) rfl rfl (Nat.le_of_ble_eq_true rfl) ⟨Nat.le_refl _, Nat.le_refl _⟩ ?_
  rintro _ _ ⟨rfl, rfl⟩
  refine z_s 9 hB_z dX10_isItem_8 rfl rfl ?_
  refine z_s 10 hB_z dX10_isItem_9 rfl rfl ?_
  refine z_s 12 hB_z dX10_isItem_10 rfl rfl ?_
  refine z_b 15 21 hB_z dX10_isItem_12 rfl rfl (by decide) (fun c_12 => ?_) (fun c_12 => ?_)
  ·
    exact absurd c_12 h1
  ·
    refine z_s 16 hB_z dX10_isItem_15 rfl rfl ?_
    refine z_s 18 hB_z dX10_isItem_16 rfl rfl ?_
    refine z_b 21 25 hB_z dX10_isItem_18 rfl rfl (by decide) (fun c_18 => ?_) (fun c_18 => ?_)
    ·
      refine z_s 26 hB_z dX10_isItem_25 rfl rfl ?_
      refine z_s 28 hB_z dX10_isItem_26 rfl rfl ?_
      refine z_b 31 35 hB_z dX10_isItem_28 rfl rfl (by decide) (fun c_28 => ?_) (fun c_28 => ?_)
      ·
        refine z_s 36 hB_z dX10_isItem_35 rfl rfl ?_
        refine z_s 38 hB_z dX10_isItem_36 rfl rfl ?_
        refine z_b 41 45 hB_z dX10_isItem_38 rfl rfl (by decide) (fun c_38 => ?_) (fun c_38 => ?_)
        ·
          refine z_s 46 hB_z dX10_isItem_45 rfl rfl ?_
          refine z_s 47 hB_z dX10_isItem_46 rfl rfl ?_
          refine z_s 48 hB_z dX10_isItem_47 rfl rfl ?_
          refine z_s 50 hB_z dX10_isItem_48 rfl rfl ?_
          refine z_b 53 70 hB_z dX10_isItem_50 rfl rfl (by decide) (fun c_50 => ?_) (fun c_50 => ?_)
          ·
            refine z_s 71 hB_z dX10_isItem_70 rfl rfl ?_
            refine z_s 73 hB_z dX10_isItem_71 rfl rfl ?_
            refine z_b 76 85 hB_z dX10_isItem_73 rfl rfl (by decide) (fun c_73 => ?_) (fun c_73 => ?_)
            ·
              refine z_s 86 hB_z dX10_isItem_85 rfl rfl ?_
              refine z_j 90 hB_z dX10_isItem_86 (by decide) ?_
              refine z_s 91 hB_z dX10_isItem_90 rfl rfl ?_
              refine z_s 92 hB_z dX10_isItem_91 rfl rfl ?_
              refine z_b 95 99 hB_z dX10_isItem_92 rfl rfl (by decide) (fun c_92 => ?_) (fun c_92 => ?_)
              ·
                refine z_s 100 hB_z dX10_isItem_99 rfl rfl ?_
                refine z_zret hM_z dX10_isItem_100 rfl (by decide) ?_ rfl rfl
                exact ⟨0, rfl, z_I zS, rfl, z_f2.rf, Or.inl ⟨rfl, (if_neg h1).trans ((if_neg h3).trans ((if_neg h2).trans (if_neg h4)))⟩⟩
              ·
                exact absurd rfl c_92
            ·
              exact absurd c_73 h2
          ·
            exact absurd c_50 h1
        ·
          exact absurd c_38 h4
      ·
        exact absurd c_28 h3
    ·
      exact absurd c_18 h2
theorem c_X10_isItem {g_z : z_U} {d_z : Nat} {zS : z_S} {q_z : (Nat → Int32) × Nat} {D_z : z_Dr} (hN_z : z_LM zS) (hx : z_I zS 99 0 = nI q_z.2) (h200 : q_z.2 ≤ 200) (hq : ∀ k_z, k_z < q_z.2 → z_I zS 100 k_z = q_z.1 k_z) {p_z : Nat} (hp : p_z < q_z.2) (hp2 : z_I zS 99 2 = nI p_z) (hD : z_rMD (z_I zS) D_z) (hn : D_z.1.2.1 ≤ 6) (hm_z : D_z.1.2.2.1 ≤ 10) (hQ : z_OQ D_z.2) (hq6 : z_qn D_z.2 ≤ 6) : z_C g_z (d_z + 3) 0 0 mX10_isItem [.ref 99] zS (z_IMP zS q_z D_z p_z) := by
  by_cases h1 : z_lt q_z p_z = 115
  · exact c_X10_isItem_s hN_z hx h200 hq hp hp2 hD hn hm_z hQ hq6 h1
  · by_cases h2 : z_lt q_z p_z = 99
    · exact c_X10_isItem_c hN_z hx h200 hq hp hp2 hD hn hm_z hQ hq6 h2
    · by_cases h3 : z_lt q_z p_z = 113
      · exact c_X10_isItem_q hN_z hx h200 hq hp hp2 hD hn hm_z hQ hq6 h3
      · by_cases h4 : z_lt q_z p_z = 104
        · exact c_X10_isItem_h hN_z hx h200 hq hp hp2 hD hn hm_z hQ hq6 h4
        · exact c_X10_isItem_x hN_z hx h200 hq hp hp2 hD hn hm_z hQ hq6 h1 h2 h3 h4
