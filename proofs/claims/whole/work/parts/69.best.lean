/-! the model: suppers, did -/
theorem z_day_sv (zV : z_V) (t_z w_z : Int32) : ∀ c_z, ∃ k_z, k_z ≤ c_z ∧ (z_day zV t_z w_z c_z).2.1 = nI k_z
  | 0 => ⟨0, Nat.le_refl 0, rfl⟩
  | c_z + 1 => by
    obtain ⟨k_z, hk, e_z⟩ := z_day_sv zV t_z w_z c_z
    rw [(z_day_nx zV t_z w_z c_z).2.1, e_z]
    by_cases q_z : (z_rc zV t_z w_z c_z).2 = none
    · rw [if_pos q_z]; exact ⟨k_z, by omega, z_add0 _⟩
    · rw [if_neg q_z]; exact ⟨k_z + 1, by omega, z_inc k_z⟩
/-- the best so far, begun at less than nobody -/
def z_supM (zV : z_V) (zT : Nat → Int32) : Nat → Int32 × Int32
  | 0 => (0, -1)
  | j_z + 1 => if nI j_z &&& zT 5 = 0 then z_off (z_supM zV zT j_z) (nI j_z) (z_fedV zV zT (nI j_z)) else z_supM zV zT j_z
theorem z_off0 {v_z : Int32} (h_z : 0 ≤ v_z) : z_off (0, -1) 0 v_z = (0, v_z) ∧ z_off (0, -4) 0 v_z = (0, v_z) := by
  unfold z_off
  exact ⟨if_pos (Or.inl (Int32.lt_of_lt_of_le (by decide) h_z)), if_pos (Or.inl (Int32.lt_of_lt_of_le (by decide) h_z))⟩
theorem z_and0 (x_z : Int32) : nI 0 &&& x_z = 0 := by
  apply z_ext
  intro i_z hi_z
  rw [z_hb_and _ _ i_z hi_z, show nI 0 = 0 from rfl, z_hb0 i_z hi_z, Bool.false_and]
theorem z_supM_eq (zV : z_V) (hm_z : zV.2.2.1 ≤ 10) (zT : Nat → Int32) : ∀ j_z, z_supM zV zT (j_z + 1) = z_sup zV zT (j_z + 1)
  | 0 => by
    have hv : 0 ≤ z_fedV zV zT (nI 0) := by
      obtain ⟨k_z, hk, e_z⟩ := z_day_sv zV (zT 0) (z_wlk zV (z_putT zT 5 (zT 5 ||| nI 0)) (z_hasDog zV (zT 0))) zV.2.2.1
      have e2_z : z_fedV zV zT (nI 0) = nI k_z := e_z
      rw [e2_z]
      exact nI_pos' (by omega)
    have h_z := z_off0 hv
    show (if nI 0 &&& zT 5 = 0 then z_off (0, -1) (nI 0) _ else _) = (if nI 0 &&& zT 5 = 0 then z_off (0, -4) (nI 0) _ else _)
    rw [if_pos (z_and0 _), if_pos (z_and0 _)]
    exact h_z.1.trans h_z.2.symm
  | j_z + 1 => by
    show (if nI (j_z + 1) &&& zT 5 = 0 then z_off (z_supM zV zT (j_z + 1)) _ _ else z_supM zV zT (j_z + 1)) = (if nI (j_z + 1) &&& zT 5 = 0 then z_off (z_sup zV zT (j_z + 1)) _ _ else z_sup zV zT (j_z + 1))
    rw [z_supM_eq zV hm_z zT j_z]
theorem z_off_lt {q_z : Int32 × Int32} {v_z : Int32} {j_z : Nat} (hj : j_z < 64) (h_z : ∃ x_z, x_z < 64 ∧ q_z.1 = nI x_z) : ∃ x_z, x_z < 64 ∧ (z_off q_z (nI j_z) v_z).1 = nI x_z := by
  unfold z_off
  split
  · exact ⟨j_z, hj, rfl⟩
  · exact h_z
theorem z_supM_lt (zV : z_V) (zT : Nat → Int32) : ∀ j_z, j_z ≤ 64 → ∃ x_z, x_z < 64 ∧ (z_supM zV zT j_z).1 = nI x_z
  | 0, _ => ⟨0, by decide, rfl⟩
  | j_z + 1, hj => by
    unfold z_supM
    split
    · exact z_off_lt (by omega) (z_supM_lt zV zT j_z (by omega))
    · exact z_supM_lt zV zT j_z (by omega)
theorem z_off_y {q_z : Int32 × Int32} {s_z v_z : Int32} (h_z : q_z.2 < v_z ∨ (v_z = q_z.2 ∧ z_bc s_z < z_bc q_z.1)) : z_off q_z s_z v_z = (s_z, v_z) := if_pos h_z
theorem z_off_n {q_z : Int32 × Int32} {s_z v_z : Int32} (h_z : ¬ (q_z.2 < v_z ∨ (v_z = q_z.2 ∧ z_bc s_z < z_bc q_z.1))) : z_off q_z s_z v_z = q_z := if_neg h_z
set_option maxHeartbeats 4000000 in
theorem c_X10_suppers {g_z : z_U} {d_z : Nat} {zS : z_S} {A_z : z_Ab} (hN_z : z_LM zS) (hR : z_RM (z_I zS) A_z) (hO : z_OV (z_AV A_z)) {what : Int32} : z_C g_z (d_z + 3) 0 0 mX10_suppers [.ref 99, .int what] zS (z_MQ zS (z_ansSup A_z what)) := by
  refine z_enter [some (.ref 99), some (.int what), none, none, none, none] rfl rfl (Nat.le_of_ble_eq_true rfl) rfl (fun zX hM_z => ?_)
  have hB_z : z_B g_z zX RX10 cX10_suppers 6 := hM_z.1
  have hn6 := hO.2.1
  have hm10 := hO.2.2.1
  have h64 := z_pow6 hn6
  have loop := fun (hin : 0 ≤ what ∧ what ≤ 1) => z_loop (fun j_z => ∀ I1, z_f2 z_scM (z_I zS) I1 → z_W g_z zX 18 [some (.ref 99), some (.int what), some (.int (z_supM (z_AV A_z) (z_AT A_z) j_z).1), some (.int (z_supM (z_AV A_z) (z_AT A_z) j_z).2), some (.int (nI j_z)), none] [] 0 0 (z_up zS I1)) (2 ^ (z_AV A_z).2.1) (fun j_z hj ih_z I1 hf => by
    refine z_s 20 hB_z dX10_suppers_18 rfl rfl ?_
    refine z_s 21 hB_z dX10_suppers_20 rfl rfl ?_
    refine z_s 22 hB_z dX10_suppers_21 rfl rfl ?_
    refine z_getI 25 hB_z fX10_50 (N99 (zS := zS) hN_z) dX10_suppers_22 rfl rfl ?_
    rw [show z_I (z_up zS I1) 99 10 = nI (z_AV A_z).2.1 from (hR.scr hf).sn]
    refine z_s 26 hB_z dX10_suppers_25 rfl rfl ?_
    rw [z_shl _ (by omega)]
    refine z_b 29 141 hB_z dX10_suppers_26 rfl rfl (by decide) (fun c_26 => ?_) (fun c_26 => ?_)
    ·
      have hjs : j_z = 2 ^ (z_AV A_z).2.1 := by
        have := (nI_leI (by omega) (by omega)).mp c_26
        omega
      subst hjs
      obtain ⟨p_z, hp⟩ : ∃ p_z, 2 ^ (z_AV A_z).2.1 = p_z + 1 := ⟨2 ^ (z_AV A_z).2.1 - 1, by have := Nat.two_pow_pos (z_AV A_z).2.1; omega⟩
      have hse : z_supM (z_AV A_z) (z_AT A_z) (2 ^ (z_AV A_z).2.1) = z_sup (z_AV A_z) (z_AT A_z) (2 ^ (z_AV A_z).2.1) := by rw [hp]; exact z_supM_eq _ hm10 _ p_z
      refine z_s 142 hB_z dX10_suppers_141 rfl rfl ?_
      refine z_b 145 149 hB_z dX10_suppers_142 rfl rfl (by decide) (fun c_142 => ?_) (fun c_142 => ?_)
      ·
        refine z_s 150 hB_z dX10_suppers_149 rfl rfl ?_
        refine z_iret hM_z dX10_suppers_150 rfl ?_ rfl rfl
        exact z_MQ.ok (by rw [hse]; unfold z_ansSup; rw [if_pos hin, if_neg c_142]) hf
      ·
        refine z_s 146 hB_z dX10_suppers_145 rfl rfl ?_
        refine z_j 150 hB_z dX10_suppers_146 (by decide) ?_
        refine z_iret hM_z dX10_suppers_150 rfl ?_ rfl rfl
        exact z_MQ.ok (by rw [hse]; unfold z_ansSup; rw [if_pos hin, if_pos c_142]) hf
    ·
      have hjs : j_z < 2 ^ (z_AV A_z).2.1 := (nI_ltI (by omega) (by omega)).mp c_26
      refine z_s 31 hB_z dX10_suppers_29 rfl rfl ?_
      refine z_s 32 hB_z dX10_suppers_31 rfl rfl ?_
      refine z_getR 35 hB_z fX10_28 (N99 (zS := zS) hN_z) dX10_suppers_32 rfl rfl (n99_15 (zS := zS) hN_z) ?_
      refine z_s 36 hB_z dX10_suppers_35 rfl rfl ?_
      refine z_ald 37 hB_z (N106 (zS := zS) hN_z) dX10_suppers_36 rfl (vp_in_nI (show 4 < 17 by decide) (by decide)) ?_
      rw [z_c4, show z_I (z_up zS I1) 106 4 = z_AT A_z 5 from (hR.scr hf).nw.a4]
      refine z_s 38 hB_z dX10_suppers_37 rfl rfl ?_
      refine z_b 41 135 hB_z dX10_suppers_38 rfl rfl (by decide) (fun c_38 => ?_) (fun c_38 => ?_)
      ·
        refine z_s 138 hB_z dX10_suppers_135 rfl rfl ?_
        refine z_j 18 hB_z dX10_suppers_138 (by decide) ?_
        have e1_z : z_supM (z_AV A_z) (z_AT A_z) (j_z + 1) = z_supM (z_AV A_z) (z_AT A_z) j_z := if_neg c_38
        have ih2 := ih_z hjs I1 hf
        rw [e1_z] at ih2
        exact z_wkn ih2 ⟨rfl, rfl, rfl, rfl, congrArg (fun q_z => some (Value.int q_z)) (z_inc j_z), trivial⟩
      ·
        refine z_s 42 hB_z dX10_suppers_41 rfl rfl ?_
        refine z_callV 45 hB_z hM_z.2.1 kX10_190 dX10_suppers_42 rfl (N99 (zS := zS) hN_z) rfl (c_X10_begin (zS := z_up zS I1) (d_z := 0) hN_z (hR.scr hf)) (by omega) rfl rfl (Nat.le_of_ble_eq_true rfl) ⟨Nat.le_refl _, Nat.le_refl _⟩ ?_
        rintro _ _ ⟨rfl, I2_z, rfl, hf2, hW2, h25⟩
        refine z_s 46 hB_z dX10_suppers_45 rfl rfl ?_
        refine z_getR 49 hB_z fX10_31 (N99 (zS := zS) hN_z) dX10_suppers_46 rfl rfl (n99_16 (zS := zS) hN_z) ?_
        refine z_s 50 hB_z dX10_suppers_49 rfl rfl ?_
        refine z_s 51 hB_z dX10_suppers_50 rfl rfl ?_
        refine z_getR 54 hB_z fX10_31 (N99 (zS := zS) hN_z) dX10_suppers_51 rfl rfl (n99_16 (zS := zS) hN_z) ?_
        refine z_s 55 hB_z dX10_suppers_54 rfl rfl ?_
        refine z_ald 56 hB_z (N107 (zS := zS) hN_z) dX10_suppers_55 rfl (vp_in_nI (show 4 < 17 by decide) (by decide)) ?_
        rw [z_c4, show z_I (z_up (z_up zS I1) I2_z) 107 4 = z_AT A_z 5 from hW2.a4]
        refine z_s 58 hB_z dX10_suppers_56 rfl rfl ?_
        refine z_s 59 hB_z dX10_suppers_58 rfl rfl ?_
        refine z_ast 60 hB_z (N107 (zS := zS) hN_z) dX10_suppers_59 rfl (vp_in_nI (show 4 < 17 by decide) (by decide)) ?_
        rw [z_c4]
        refine z_s 61 hB_z dX10_suppers_60 rfl rfl ?_
        refine z_s 62 hB_z dX10_suppers_61 rfl rfl ?_
        refine z_getR 65 hB_z fX10_31 (N99 (zS := zS) hN_z) dX10_suppers_62 rfl rfl (n99_16 (zS := zS) hN_z) ?_
        refine z_s 67 hB_z dX10_suppers_65 rfl rfl ?_
        refine z_s 68 hB_z dX10_suppers_67 rfl rfl ?_
        refine z_callV 71 hB_z hM_z.2.1 kX10_170 dX10_suppers_68 rfl (N99 (zS := zS) hN_z) rfl (c_X10_layNight (zS := z_pI (z_up (z_up zS I1) I2_z) 107 4 (z_AT A_z 5 ||| nI j_z)) (d_z := 0) hN_z hO ((hR.scr ((hf.tr hf2).u2 (by unfold z_scM; omega))).mv) (db := -4) ((z_Ine (Or.inl (by decide))).trans h25) (N107 hN_z) (Or.inr rfl) (zT := z_putT (z_AT A_z) 5 (z_AT A_z 5 ||| nI j_z)) hW2.p4 (dog := z_hasDog (z_AV A_z) (z_AT A_z 0)) (if_pos rfl)) (by omega) rfl rfl (Nat.le_of_ble_eq_true rfl) ⟨Nat.le_refl _, Nat.le_refl _⟩ ?_
        rintro _ _ ⟨rfl, I3, hI3, hf3, hw3, hD3⟩
        obtain ⟨m1_z, m2_z, m3_z, m4_z, m5_z, m6_z, -⟩ := z_mn_day (z_AV A_z) (z_AT A_z 0) (z_wkd (z_AV A_z) (z_putT (z_AT A_z) 5 (z_AT A_z 5 ||| nI j_z)) (z_hasDog (z_AV A_z) (z_AT A_z 0)) (z_AV A_z).2.1) 0 (z_AV A_z).2.2.1 hm10
        obtain ⟨v_z, hve⟩ : ∃ v_z, z_fedV (z_AV A_z) (z_AT A_z) (nI j_z) = v_z := ⟨_, rfl⟩
        obtain ⟨q_z, hqe⟩ : ∃ q_z, z_supM (z_AV A_z) (z_AT A_z) j_z = q_z := ⟨_, rfl⟩
        have h27 : I3 99 27 = v_z := (hD3.2.1.trans m2_z).trans hve
        obtain ⟨x_z, hx, hqx⟩ := z_supM_lt (z_AV A_z) (z_AT A_z) j_z (by omega)
        rw [hqe] at hqx
        rw [hqe]
        subst hI3
        have tl : ∀ b_z : Int32, (b_z = 0 → ¬ (q_z.2 < v_z ∨ (v_z = q_z.2 ∧ z_bc (nI j_z) < z_bc q_z.1))) → (¬ b_z = 0 → (q_z.2 < v_z ∨ (v_z = q_z.2 ∧ z_bc (nI j_z) < z_bc q_z.1))) → z_W g_z zX 104 [some (.ref 99), some (.int what), some (.int q_z.1), some (.int q_z.2), some (.int (nI j_z)), none] [.int b_z] 0 0 (z_up (z_pI (z_up (z_up zS I1) I2_z) 107 4 (z_AT A_z 5 ||| nI j_z)) I3) := fun b_z hb0 hb1 => by
          refine z_s 106 hB_z dX10_suppers_104 rfl rfl ?_
          refine z_s 108 hB_z dX10_suppers_106 rfl rfl ?_
          refine z_b 111 116 hB_z dX10_suppers_108 rfl rfl (by decide) (fun c_108 => ?_) (fun c_108 => ?_)
          ·
            refine z_s 117 hB_z dX10_suppers_116 rfl rfl ?_
            refine z_s 118 hB_z dX10_suppers_117 rfl rfl ?_
            refine z_s 119 hB_z dX10_suppers_118 rfl rfl ?_
            refine z_getI 122 hB_z fX10_155 (N99 (zS := zS) hN_z) dX10_suppers_119 rfl rfl ?_
            rw [show z_I (z_up (z_pI (z_up (z_up zS I1) I2_z) 107 4 (z_AT A_z 5 ||| nI j_z)) I3) 99 27 = v_z from h27]
            refine z_s 123 hB_z dX10_suppers_122 rfl rfl ?_
            refine z_b 126 133 hB_z dX10_suppers_123 rfl rfl (by decide) (fun c_123 => ?_) (fun c_123 => ?_)
            ·
              refine z_s 134 hB_z dX10_suppers_133 rfl rfl ?_
              refine z_s 135 hB_z dX10_suppers_134 rfl rfl ?_
              refine z_s 138 hB_z dX10_suppers_135 rfl rfl ?_
              refine z_j 18 hB_z dX10_suppers_138 (by decide) ?_
              have e1_z : z_supM (z_AV A_z) (z_AT A_z) (j_z + 1) = q_z := by
                show (if nI j_z &&& z_AT A_z 5 = 0 then z_off (z_supM (z_AV A_z) (z_AT A_z) j_z) (nI j_z) (z_fedV (z_AV A_z) (z_AT A_z) (nI j_z)) else _) = _
                rw [if_pos c_38, hqe, hve]
                exact z_off_n (hb0 c_108)
              have ih2 := ih_z hjs I3 (((hf.tr hf2).u2 (by unfold z_scM; omega)).tr (hf3.mono z_PLN_sc))
              rw [e1_z] at ih2
              exact z_wkn ih2 ⟨rfl, rfl, rfl, rfl, congrArg (fun q_z => some (Value.int q_z)) (z_inc j_z), trivial⟩
            ·
              refine z_s 127 hB_z dX10_suppers_126 rfl rfl ?_
              refine z_getI 130 hB_z fX10_155 (N99 (zS := zS) hN_z) dX10_suppers_127 rfl rfl ?_
              rw [show z_I (z_up (z_pI (z_up (z_up zS I1) I2_z) 107 4 (z_AT A_z 5 ||| nI j_z)) I3) 99 27 = v_z from h27]
              refine z_j 134 hB_z dX10_suppers_130 (by decide) ?_
              refine z_s 135 hB_z dX10_suppers_134 rfl rfl ?_
              refine z_s 138 hB_z dX10_suppers_135 rfl rfl ?_
              refine z_j 18 hB_z dX10_suppers_138 (by decide) ?_
              exact absurd (Or.inl c_123) (hb0 c_108)
          ·
            refine z_s 113 hB_z dX10_suppers_111 rfl rfl ?_
            refine z_j 117 hB_z dX10_suppers_113 (by decide) ?_
            refine z_s 118 hB_z dX10_suppers_117 rfl rfl ?_
            refine z_s 119 hB_z dX10_suppers_118 rfl rfl ?_
            refine z_getI 122 hB_z fX10_155 (N99 (zS := zS) hN_z) dX10_suppers_119 rfl rfl ?_
            rw [show z_I (z_up (z_pI (z_up (z_up zS I1) I2_z) 107 4 (z_AT A_z 5 ||| nI j_z)) I3) 99 27 = v_z from h27]
            refine z_s 123 hB_z dX10_suppers_122 rfl rfl ?_
            refine z_b 126 133 hB_z dX10_suppers_123 rfl rfl (by decide) (fun c_123 => ?_) (fun c_123 => ?_)
            ·
              refine z_s 134 hB_z dX10_suppers_133 rfl rfl ?_
              refine z_s 135 hB_z dX10_suppers_134 rfl rfl ?_
              refine z_s 138 hB_z dX10_suppers_135 rfl rfl ?_
              refine z_j 18 hB_z dX10_suppers_138 (by decide) ?_
              have e1_z : z_supM (z_AV A_z) (z_AT A_z) (j_z + 1) = (nI j_z, q_z.2) := by
                show (if nI j_z &&& z_AT A_z 5 = 0 then z_off (z_supM (z_AV A_z) (z_AT A_z) j_z) (nI j_z) (z_fedV (z_AV A_z) (z_AT A_z) (nI j_z)) else _) = _
                rw [if_pos c_38, hqe, hve]
                exact (z_off_y (hb1 c_108)).trans (by rw [show v_z = q_z.2 from (hb1 c_108).elim (fun z_z => absurd z_z (z_nlt0 c_123)) (fun z_z => z_z.1)])
              have ih2 := ih_z hjs I3 (((hf.tr hf2).u2 (by unfold z_scM; omega)).tr (hf3.mono z_PLN_sc))
              rw [e1_z] at ih2
              exact z_wkn ih2 ⟨rfl, rfl, rfl, rfl, congrArg (fun q_z => some (Value.int q_z)) (z_inc j_z), trivial⟩
            ·
              refine z_s 127 hB_z dX10_suppers_126 rfl rfl ?_
              refine z_getI 130 hB_z fX10_155 (N99 (zS := zS) hN_z) dX10_suppers_127 rfl rfl ?_
              rw [show z_I (z_up (z_pI (z_up (z_up zS I1) I2_z) 107 4 (z_AT A_z 5 ||| nI j_z)) I3) 99 27 = v_z from h27]
              refine z_j 134 hB_z dX10_suppers_130 (by decide) ?_
              refine z_s 135 hB_z dX10_suppers_134 rfl rfl ?_
              refine z_s 138 hB_z dX10_suppers_135 rfl rfl ?_
              refine z_j 18 hB_z dX10_suppers_138 (by decide) ?_
              have e1_z : z_supM (z_AV A_z) (z_AT A_z) (j_z + 1) = (nI j_z, v_z) := by
                show (if nI j_z &&& z_AT A_z 5 = 0 then z_off (z_supM (z_AV A_z) (z_AT A_z) j_z) (nI j_z) (z_fedV (z_AV A_z) (z_AT A_z) (nI j_z)) else _) = _
                rw [if_pos c_38, hqe, hve]
                exact z_off_y (hb1 c_108)
              have ih2 := ih_z hjs I3 (((hf.tr hf2).u2 (by unfold z_scM; omega)).tr (hf3.mono z_PLN_sc))
              rw [e1_z] at ih2
              exact z_wkn ih2 ⟨rfl, rfl, rfl, rfl, congrArg (fun q_z => some (Value.int q_z)) (z_inc j_z), trivial⟩
        refine z_s 72 hB_z dX10_suppers_71 rfl rfl ?_
        refine z_getI 75 hB_z fX10_155 (N99 (zS := zS) hN_z) dX10_suppers_72 rfl rfl ?_
        rw [show z_I (z_up (z_pI (z_up (z_up zS I1) I2_z) 107 4 (z_AT A_z 5 ||| nI j_z)) I3) 99 27 = v_z from h27]
        refine z_s 76 hB_z dX10_suppers_75 rfl rfl ?_
        refine z_b 79 99 hB_z dX10_suppers_76 rfl rfl (by decide) (fun c_76 => ?_) (fun c_76 => ?_)
        ·
          refine z_s 100 hB_z dX10_suppers_99 rfl rfl ?_
          refine z_j 104 hB_z dX10_suppers_100 (by decide) ?_
          exact z_wkn (tl 1 (fun z_z => absurd z_z (by decide)) (fun _ => Or.inl c_76)) ⟨rfl, rfl, rfl, rfl, rfl, trivial⟩
        ·
          refine z_s 80 hB_z dX10_suppers_79 rfl rfl ?_
          refine z_getI 83 hB_z fX10_155 (N99 (zS := zS) hN_z) dX10_suppers_80 rfl rfl ?_
          rw [show z_I (z_up (z_pI (z_up (z_up zS I1) I2_z) 107 4 (z_AT A_z 5 ||| nI j_z)) I3) 99 27 = v_z from h27]
          refine z_s 84 hB_z dX10_suppers_83 rfl rfl ?_
          refine z_b 87 103 hB_z dX10_suppers_84 rfl rfl (by decide) (fun c_84 => ?_) (fun c_84 => ?_)
          ·
            refine z_s 104 hB_z dX10_suppers_103 rfl rfl ?_
            exact z_wkn (tl 0 (fun _ z_z => z_z.elim (z_nlt0 c_76) (fun y_z => c_84 y_z.1)) (fun z_z => absurd rfl z_z)) ⟨rfl, rfl, rfl, rfl, rfl, trivial⟩
          ·
            refine z_s 89 hB_z dX10_suppers_87 rfl rfl ?_
            refine z_callS 92 hB_z hM_z.2.1 kX10_75 dX10_suppers_89 rfl (c_X10_bits (d_z := 0)) (by omega) rfl rfl (Nat.le_of_ble_eq_true rfl) ⟨Nat.le_refl _, Nat.le_refl _⟩ ?_
            rintro _ _ ⟨rfl, rfl⟩
            rw [z_bt_bc j_z (by omega)]
            refine z_s 93 hB_z dX10_suppers_92 rfl rfl ?_
            refine z_callS 96 hB_z hM_z.2.1 kX10_75 dX10_suppers_93 rfl (c_X10_bits (d_z := 0)) (by omega) rfl rfl (Nat.le_of_ble_eq_true rfl) ⟨Nat.le_refl _, Nat.le_refl _⟩ ?_
            rintro _ _ ⟨rfl, rfl⟩
            rw [hqx, z_bt_bc x_z hx, ← hqx]
            refine z_b 99 103 hB_z dX10_suppers_96 rfl rfl (by decide) (fun c_96 => ?_) (fun c_96 => ?_)
            ·
              refine z_s 104 hB_z dX10_suppers_103 rfl rfl ?_
              exact z_wkn (tl 0 (fun _ z_z => z_z.elim (z_nlt0 c_76) (fun y_z => z_nlt0 c_96 y_z.2)) (fun z_z => absurd rfl z_z)) ⟨rfl, rfl, rfl, rfl, rfl, trivial⟩
            ·
              refine z_s 100 hB_z dX10_suppers_99 rfl rfl ?_
              refine z_j 104 hB_z dX10_suppers_100 (by decide) ?_
              exact z_wkn (tl 1 (fun z_z => absurd z_z (by decide)) (fun _ => Or.inr ⟨c_84, c_96⟩)) ⟨rfl, rfl, rfl, rfl, rfl, trivial⟩) 0 (Nat.zero_le _)
  refine z_s 1 hB_z dX10_suppers_0 rfl rfl ?_
  refine z_s 2 hB_z dX10_suppers_1 rfl rfl ?_
  refine z_s 3 hB_z dX10_suppers_2 rfl rfl ?_
  refine z_callS 6 hB_z hM_z.2.1 kX10_67 dX10_suppers_3 rfl (c_X10_in (d_z := 0)) (by omega) rfl rfl (Nat.le_of_ble_eq_true rfl) ⟨Nat.le_refl _, Nat.le_refl _⟩ ?_
  rintro _ _ ⟨rfl, rfl⟩
  refine z_b 9 11 hB_z dX10_suppers_6 rfl rfl (by decide) (fun c_6 => ?_) (fun c_6 => ?_)
  ·
    refine z_s 12 hB_z dX10_suppers_11 rfl rfl ?_
    refine z_s 13 hB_z dX10_suppers_12 rfl rfl ?_
    refine z_s 14 hB_z dX10_suppers_13 rfl rfl ?_
    refine z_s 15 hB_z dX10_suppers_14 rfl rfl ?_
    refine z_s 16 hB_z dX10_suppers_15 rfl rfl ?_
    refine z_s 18 hB_z dX10_suppers_16 rfl rfl ?_
    exact z_wkn (loop (z_of1 c_6) (z_I zS) z_f2.rf) ⟨rfl, rfl, rfl, rfl, rfl, trivial⟩
  ·
    refine z_s 10 hB_z dX10_suppers_9 rfl rfl ?_
    refine z_iret hM_z dX10_suppers_10 rfl ?_ rfl rfl
    exact z_MQ.rf (if_neg (z_of0 c_6)).symm

set_option maxHeartbeats 2000000 in
theorem c_X10_did {g_z : z_U} {d_z : Nat} {zS : z_S} {A_z : z_Ab} (hN_z : z_LM zS) (hR : z_RM (z_I zS) A_z) (hO : z_OV (z_AV A_z)) {s_z : Int32} : z_C g_z (d_z + 2) 0 0 mX10_did [.ref 99, .int s_z] zS (z_MQ zS (z_ansDid A_z s_z)) := by
  refine z_enter [some (.ref 99), some (.int s_z), none, none, none] rfl rfl (Nat.le_of_ble_eq_true rfl) rfl (fun zX hM_z => ?_)
  have hB_z : z_B g_z zX RX10 cX10_did 5 := hM_z.1
  have hn6 := hO.2.1
  have hm10 := hO.2.2.1
  have loop := fun (c_z : Nat) (hc_z : c_z < (z_AV A_z).2.2.1) (hs : z_in (nI c_z) (z_AV A_z).2.2.1) (hM_z : z_BM g_z zX (d_z + 2) 0 0 mX10_did (z_MQ zS (z_ansDid A_z (nI c_z)))) => z_loop (fun k_z => z_W g_z zX 14 [some (.ref 99), some (.int (nI c_z)), some (.int (z_did (z_AV A_z) c_z k_z)), some (.int (nI k_z)), none] [] 0 0 zS) (z_AV A_z).2.1 (fun k_z hk ih_z => by
    refine z_s 15 hB_z dX10_did_14 rfl rfl ?_
    refine z_s 16 hB_z dX10_did_15 rfl rfl ?_
    refine z_getI 19 hB_z fX10_50 (N99 (zS := zS) hN_z) dX10_did_16 rfl rfl ?_
    rw [hR.sn]
    refine z_b 22 96 hB_z dX10_did_19 rfl rfl (by decide) (fun c_19 => ?_) (fun c_19 => ?_)
    ·
      have hks : k_z = (z_AV A_z).2.1 := by
        have := (nI_leI (by omega) (by omega)).mp c_19
        omega
      subst hks
      refine z_s 97 hB_z dX10_did_96 rfl rfl ?_
      refine z_iret hM_z dX10_did_97 rfl ?_ rfl rfl
      exact z_MQ.rf (by unfold z_ansDid; rw [if_pos hs, nI_clamp (by omega)])
    ·
      have hks : k_z < (z_AV A_z).2.1 := (nI_ltI (by omega) (by omega)).mp c_19
      have hsv := hO.srv hks hc_z
      refine z_s 23 hB_z dX10_did_22 rfl rfl ?_
      refine z_s 24 hB_z dX10_did_23 rfl rfl ?_
      refine z_s 25 hB_z dX10_did_24 rfl rfl ?_
      refine z_getR 28 hB_z fX10_25 (N99 (zS := zS) hN_z) dX10_did_25 rfl rfl (n99_14 (zS := zS) hN_z) ?_
      refine z_s 29 hB_z dX10_did_28 rfl rfl ?_
      refine z_s 30 hB_z dX10_did_29 rfl rfl ?_
      refine z_s 31 hB_z dX10_did_30 rfl rfl ?_
      refine z_s 32 hB_z dX10_did_31 rfl rfl ?_
      refine z_s 33 hB_z dX10_did_32 rfl rfl ?_
      rw [z_n4 _ (by omega), show nI (4 * c_z) + 1 = nI (4 * c_z + 1) from z_n4b _ 1]
      refine z_ald 34 hB_z (N105 (zS := zS) hN_z) dX10_did_33 rfl (vp_in_nI (show 4 * c_z + 1 < 40 by omega) (by decide)) ?_
      rw [nI_clamp (by omega), show z_I zS 105 (4 * c_z + 1) = (z_AV A_z).1 5 c_z from hR.sg c_z hc_z 1 (by decide)]
      refine z_callV 37 hB_z hM_z.2.1 kX10_164 dX10_did_34 rfl (N99 (zS := zS) hN_z) rfl (c_X10_serves (d_z := 0) hN_z (by omega) (hR.so k_z hks 1 (by decide))) (by omega) rfl rfl (Nat.le_of_ble_eq_true rfl) ⟨Nat.le_refl _, Nat.le_refl _⟩ ?_
      rintro _ _ ⟨rfl, rfl⟩
      refine z_b 40 72 hB_z dX10_did_37 rfl rfl (by decide) (fun c_37 => ?_) (fun c_37 => ?_)
      ·
        refine z_s 73 hB_z dX10_did_72 rfl rfl ?_
        refine z_s 75 hB_z dX10_did_73 rfl rfl ?_
        refine z_s 76 hB_z dX10_did_75 rfl rfl ?_
        refine z_s 78 hB_z dX10_did_76 rfl rfl ?_
        refine z_b 81 87 hB_z dX10_did_78 rfl rfl (by decide) (fun c_78 => ?_) (fun c_78 => ?_)
        ·
          refine z_s 88 hB_z dX10_did_87 rfl rfl ?_
          refine z_s 89 hB_z dX10_did_88 rfl rfl ?_
          rw [z_or0]
          refine z_s 90 hB_z dX10_did_89 rfl rfl ?_
          refine z_s 93 hB_z dX10_did_90 rfl rfl ?_
          refine z_j 14 hB_z dX10_did_93 (by decide) ?_
          exact z_wkn (ih_z hks) ⟨rfl, rfl, congrArg (fun q_z => some (Value.int q_z)) (show z_did (z_AV A_z) c_z k_z = z_did (z_AV A_z) c_z (k_z + 1) from (if_neg (fun q_z => by rw [hsv] at q_z; exact z_of0 c_37 (of_decide_eq_true q_z.1))).symm), congrArg (fun q_z => some (Value.int q_z)) (z_inc k_z), trivial⟩
        ·
          exact absurd rfl c_78
      ·
        refine z_s 41 hB_z dX10_did_40 rfl rfl ?_
        refine z_s 42 hB_z dX10_did_41 rfl rfl ?_
        refine z_getR 45 hB_z fX10_25 (N99 (zS := zS) hN_z) dX10_did_42 rfl rfl (n99_14 (zS := zS) hN_z) ?_
        refine z_s 46 hB_z dX10_did_45 rfl rfl ?_
        refine z_s 47 hB_z dX10_did_46 rfl rfl ?_
        refine z_s 48 hB_z dX10_did_47 rfl rfl ?_
        refine z_s 49 hB_z dX10_did_48 rfl rfl ?_
        refine z_s 50 hB_z dX10_did_49 rfl rfl ?_
        rw [z_n4 _ (by omega), show nI (4 * c_z) + 2 = nI (4 * c_z + 2) from z_n4b _ 2]
        refine z_ald 51 hB_z (N105 (zS := zS) hN_z) dX10_did_50 rfl (vp_in_nI (show 4 * c_z + 2 < 40 by omega) (by decide)) ?_
        rw [nI_clamp (by omega), show z_I zS 105 (4 * c_z + 2) = (z_AV A_z).1 6 c_z from hR.sg c_z hc_z 2 (by decide)]
        refine z_s 52 hB_z dX10_did_51 rfl rfl ?_
        refine z_getR 55 hB_z fX10_25 (N99 (zS := zS) hN_z) dX10_did_52 rfl rfl (n99_14 (zS := zS) hN_z) ?_
        refine z_s 56 hB_z dX10_did_55 rfl rfl ?_
        refine z_s 57 hB_z dX10_did_56 rfl rfl ?_
        refine z_s 58 hB_z dX10_did_57 rfl rfl ?_
        refine z_s 59 hB_z dX10_did_58 rfl rfl ?_
        refine z_s 60 hB_z dX10_did_59 rfl rfl ?_
        rw [z_n4 _ (by omega), show nI (4 * c_z) + 3 = nI (4 * c_z + 3) from z_n4b _ 3]
        refine z_ald 61 hB_z (N105 (zS := zS) hN_z) dX10_did_60 rfl (vp_in_nI (show 4 * c_z + 3 < 40 by omega) (by decide)) ?_
        rw [nI_clamp (by omega), show z_I zS 105 (4 * c_z + 3) = (z_AV A_z).1 7 c_z from hR.sg c_z hc_z 3 (by decide)]
        refine z_s 62 hB_z dX10_did_61 rfl rfl ?_
        refine z_callV 65 hB_z hM_z.2.1 kX10_167 dX10_did_62 rfl (N99 (zS := zS) hN_z) rfl (c_X10_wakes (d_z := 0) hN_z (by omega) (hR.so k_z hks 0 (by decide))) (by omega) rfl rfl (Nat.le_of_ble_eq_true rfl) ⟨Nat.le_refl _, Nat.le_refl _⟩ ?_
        rintro _ _ ⟨rfl, rfl⟩
        refine z_b 68 72 hB_z dX10_did_65 rfl rfl (by decide) (fun c_65 => ?_) (fun c_65 => ?_)
        ·
          refine z_s 73 hB_z dX10_did_72 rfl rfl ?_
          refine z_s 75 hB_z dX10_did_73 rfl rfl ?_
          refine z_s 76 hB_z dX10_did_75 rfl rfl ?_
          refine z_s 78 hB_z dX10_did_76 rfl rfl ?_
          refine z_b 81 87 hB_z dX10_did_78 rfl rfl (by decide) (fun c_78 => ?_) (fun c_78 => ?_)
          ·
            refine z_s 88 hB_z dX10_did_87 rfl rfl ?_
            refine z_s 89 hB_z dX10_did_88 rfl rfl ?_
            rw [z_or0]
            refine z_s 90 hB_z dX10_did_89 rfl rfl ?_
            refine z_s 93 hB_z dX10_did_90 rfl rfl ?_
            refine z_j 14 hB_z dX10_did_93 (by decide) ?_
            exact z_wkn (ih_z hks) ⟨rfl, rfl, congrArg (fun q_z => some (Value.int q_z)) (show z_did (z_AV A_z) c_z k_z = z_did (z_AV A_z) c_z (k_z + 1) from (if_neg (fun q_z => c_65 q_z.2)).symm), congrArg (fun q_z => some (Value.int q_z)) (z_inc k_z), trivial⟩
          ·
            exact absurd rfl c_78
        ·
          refine z_s 69 hB_z dX10_did_68 rfl rfl ?_
          refine z_j 73 hB_z dX10_did_69 (by decide) ?_
          refine z_s 75 hB_z dX10_did_73 rfl rfl ?_
          refine z_s 76 hB_z dX10_did_75 rfl rfl ?_
          refine z_s 78 hB_z dX10_did_76 rfl rfl ?_
          refine z_b 81 87 hB_z dX10_did_78 rfl rfl (by decide) (fun c_78 => ?_) (fun c_78 => ?_)
          ·
            exact absurd c_78 (by decide)
          ·
            refine z_s 82 hB_z dX10_did_81 rfl rfl ?_
            refine z_s 83 hB_z dX10_did_82 rfl rfl ?_
            refine z_s 84 hB_z dX10_did_83 rfl rfl ?_
            refine z_j 88 hB_z dX10_did_84 (by decide) ?_
            refine z_s 89 hB_z dX10_did_88 rfl rfl ?_
            refine z_s 90 hB_z dX10_did_89 rfl rfl ?_
            refine z_s 93 hB_z dX10_did_90 rfl rfl ?_
            refine z_j 14 hB_z dX10_did_93 (by decide) ?_
            exact z_wkn (ih_z hks) ⟨rfl, rfl, congrArg (fun q_z => some (Value.int q_z)) (show z_did (z_AV A_z) c_z k_z ||| (1 <<< (nI k_z &&& 31)) = z_did (z_AV A_z) c_z (k_z + 1) from (if_pos ⟨by rw [hsv]; exact decide_eq_true (z_of1 c_37), c_65⟩).symm), congrArg (fun q_z => some (Value.int q_z)) (z_inc k_z), trivial⟩) 0 (Nat.zero_le _)
  refine z_s 1 hB_z dX10_did_0 rfl rfl ?_
  refine z_s 2 hB_z dX10_did_1 rfl rfl ?_
  refine z_callV 5 hB_z hM_z.2.1 kX10_177 dX10_did_2 rfl (N99 (zS := zS) hN_z) rfl (c_X10_isGuest (d_z := 0) hN_z hR.sm (by omega)) (by omega) rfl rfl (Nat.le_of_ble_eq_true rfl) ⟨Nat.le_refl _, Nat.le_refl _⟩ ?_
  rintro _ _ ⟨rfl, w_z, rfl, hw⟩
  refine z_b 8 10 hB_z dX10_did_5 rfl rfl (by decide) (fun c_5 => ?_) (fun c_5 => ?_)
  ·
    have hs : z_in s_z (z_AV A_z).2.2.1 := hw.elim (fun z_z => absurd z_z.1 c_5) (fun z_z => z_z.2)
    obtain ⟨c_z, hc_z, rfl⟩ := hs.of (by omega)
    refine z_s 11 hB_z dX10_did_10 rfl rfl ?_
    refine z_s 12 hB_z dX10_did_11 rfl rfl ?_
    refine z_s 13 hB_z dX10_did_12 rfl rfl ?_
    refine z_s 14 hB_z dX10_did_13 rfl rfl ?_
    exact z_wkn (loop c_z hc_z hs hM_z) ⟨rfl, rfl, rfl, rfl, trivial⟩
  ·
    have hs : ¬ z_in s_z (z_AV A_z).2.2.1 := hw.elim (fun z_z => z_z.2) (fun z_z => absurd (z_z.1.symm.trans c_5) (by decide))
    refine z_s 9 hB_z dX10_did_8 rfl rfl ?_
    refine z_iret hM_z dX10_did_9 rfl ?_ rfl rfl
    exact z_MQ.rf (if_neg hs).symm

