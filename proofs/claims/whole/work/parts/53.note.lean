/-! the model: a sighting; the state noted -/
theorem z_n3 : ∀ u_z, u_z ≤ 10 → (3 : Int32) * nI u_z = nI (3 * u_z) := by decide +kernel
theorem z_n3b (u_z m_z : Nat) : nI (3 * u_z) + nI m_z = nI (3 * u_z + m_z) := nI_add _ _
theorem z_seeI {zI : Nat → Nat → Int32} {n_z i_z : Nat} {s_z t_z x_z w_z : Int32} {a_z b_z c_z : Nat → Int32} (hi_z : i_z < n_z + 1) (h_z : i_z < n_z → zI 110 (3 * i_z) = a_z i_z ∧ zI 110 (3 * i_z + 1) = b_z i_z ∧ zI 110 (3 * i_z + 2) = c_z i_z) :
    z_u2 (z_u2 (z_u2 (z_u2 zI 110 (3 * n_z) s_z) 110 (3 * n_z + 1) t_z) 110 (3 * n_z + 2) x_z) 99 21 w_z 110 (3 * i_z) = (if i_z = n_z then s_z else a_z i_z) ∧ z_u2 (z_u2 (z_u2 (z_u2 zI 110 (3 * n_z) s_z) 110 (3 * n_z + 1) t_z) 110 (3 * n_z + 2) x_z) 99 21 w_z 110 (3 * i_z + 1) = (if i_z = n_z then t_z else b_z i_z) ∧ z_u2 (z_u2 (z_u2 (z_u2 zI 110 (3 * n_z) s_z) 110 (3 * n_z + 1) t_z) 110 (3 * n_z + 2) x_z) 99 21 w_z 110 (3 * i_z + 2) = (if i_z = n_z then x_z else c_z i_z) := by
  have e99_z : ∀ (f_z : Nat → Nat → Int32) (k_z : Nat), z_u2 f_z 99 21 w_z 110 k_z = f_z 110 k_z := fun f_z k_z => z_u2_ne (Or.inl (by decide))
  rw [e99_z, e99_z, e99_z]
  by_cases e_z : i_z = n_z
  · subst e_z
    rw [if_pos rfl, if_pos rfl, if_pos rfl]
    refine ⟨?_, ?_, z_u2_same _ _ _ _⟩
    · rw [z_u2_ne (Or.inr (by omega)), z_u2_ne (Or.inr (by omega)), z_u2_same]
    · rw [z_u2_ne (Or.inr (by omega)), z_u2_same]
  · rw [if_neg e_z, if_neg e_z, if_neg e_z]
    obtain ⟨h1, h2, h3⟩ := h_z (by omega)
    refine ⟨?_, ?_, ?_⟩
    · rw [z_u2_ne (Or.inr (by omega)), z_u2_ne (Or.inr (by omega)), z_u2_ne (Or.inr (by omega)), h1]
    · rw [z_u2_ne (Or.inr (by omega)), z_u2_ne (Or.inr (by omega)), z_u2_ne (Or.inr (by omega)), h2]
    · rw [z_u2_ne (Or.inr (by omega)), z_u2_ne (Or.inr (by omega)), z_u2_ne (Or.inr (by omega)), h3]
set_option maxHeartbeats 2000000 in
theorem c_X10_see {g_z : z_U} {d_z : Nat} {zS : z_S} {A_z : z_Ab} (hN_z : z_LM zS) (hR : z_RM (z_I zS) A_z) (hn6 : (z_AV A_z).2.1 ≤ 6) (h8 : (z_AS A_z).2.2.2 ≤ 8) {s_z t_z v_z : Int32} : z_C g_z (d_z + 2) 0 0 mX10_see [.ref 99, .int s_z, .int t_z, .int v_z] zS (z_MC zS (z_see A_z s_z t_z v_z)) := by
  refine z_enter [some (.ref 99), some (.int s_z), some (.int t_z), some (.int v_z)] rfl rfl (Nat.le_of_ble_eq_true rfl) rfl (fun zX hM_z => ?_)
  have hB_z : z_B g_z zX RX10 cX10_see 4 := hM_z.1
  refine z_s 1 hB_z dX10_see_0 rfl rfl ?_
  refine z_s 2 hB_z dX10_see_1 rfl rfl ?_
  refine z_callV 5 hB_z hM_z.2.1 kX10_71 dX10_see_2 rfl (N99 (zS := zS) hN_z) rfl (c_X10_isOne (d_z := 0) hN_z hR.sn (by omega)) (by omega) rfl rfl (Nat.le_of_ble_eq_true rfl) ⟨Nat.le_refl _, Nat.le_refl _⟩ ?_
  rintro _ _ ⟨rfl, w_z, rfl, hw⟩
  refine z_b 8 18 hB_z dX10_see_5 rfl rfl (by decide) (fun c_5 => ?_) (fun c_5 => ?_)
  ·
    have hs : ¬ z_in s_z (z_AV A_z).2.1 := hw.elim (fun z_z => z_z.2) (fun z_z => absurd (z_z.1.symm.trans c_5) (by decide))
    refine z_s 19 hB_z dX10_see_18 rfl rfl ?_
    refine z_iret hM_z dX10_see_19 rfl ?_ rfl rfl
    exact z_MC.of hR (if_neg (fun q_z => hs q_z.1))
  ·
    have hs : z_in s_z (z_AV A_z).2.1 := hw.elim (fun z_z => absurd z_z.1 c_5) (fun z_z => z_z.2)
    refine z_s 9 hB_z dX10_see_8 rfl rfl ?_
    refine z_s 10 hB_z dX10_see_9 rfl rfl ?_
    refine z_s 12 hB_z dX10_see_10 rfl rfl ?_
    refine z_callS 15 hB_z hM_z.2.1 kX10_67 dX10_see_12 rfl (c_X10_in (d_z := 0)) (by omega) rfl rfl (Nat.le_of_ble_eq_true rfl) ⟨Nat.le_refl _, Nat.le_refl _⟩ ?_
    rintro _ _ ⟨rfl, rfl⟩
    refine z_b 18 20 hB_z dX10_see_15 rfl rfl (by decide) (fun c_15 => ?_) (fun c_15 => ?_)
    ·
      refine z_s 21 hB_z dX10_see_20 rfl rfl ?_
      refine z_getI 24 hB_z fX10_130 (N99 (zS := zS) hN_z) dX10_see_21 rfl rfl ?_
      rw [hR.el]
      refine z_s 26 hB_z dX10_see_24 rfl rfl ?_
      refine z_b 29 32 hB_z dX10_see_26 rfl rfl (by decide) (fun c_26 => ?_) (fun c_26 => ?_)
      ·
        have hlt : (z_AS A_z).2.2.2 < 8 := by
          rcases Nat.lt_or_ge (z_AS A_z).2.2.2 8 with z_z | z_z
          · exact z_z
          · exact absurd (show nI (z_AS A_z).2.2.2 = 8 by rw [show (z_AS A_z).2.2.2 = 8 by omega]; rfl) c_26
        refine z_s 33 hB_z dX10_see_32 rfl rfl ?_
        refine z_getR 36 hB_z fX10_40 (N99 (zS := zS) hN_z) dX10_see_33 rfl rfl (n99_22 (zS := zS) hN_z) ?_
        refine z_s 37 hB_z dX10_see_36 rfl rfl ?_
        refine z_s 38 hB_z dX10_see_37 rfl rfl ?_
        refine z_getI 41 hB_z fX10_130 (N99 (zS := zS) hN_z) dX10_see_38 rfl rfl ?_
        rw [hR.el]
        refine z_s 42 hB_z dX10_see_41 rfl rfl ?_
        refine z_s 43 hB_z dX10_see_42 rfl rfl ?_
        rw [z_n3 _ (by omega)]
        refine z_ast 44 hB_z (N110 (zS := zS) hN_z) dX10_see_43 rfl (vp_in_nI (show 3 * (z_AS A_z).2.2.2 < 24 by omega) (by decide)) ?_
        rw [nI_clamp (by omega)]
        refine z_s 45 hB_z dX10_see_44 rfl rfl ?_
        refine z_getR 48 hB_z fX10_40 (N99 (zS := zS) hN_z) dX10_see_45 rfl rfl (n99_22 (zS := zS) hN_z) ?_
        refine z_s 49 hB_z dX10_see_48 rfl rfl ?_
        refine z_s 50 hB_z dX10_see_49 rfl rfl ?_
        refine z_getI 53 hB_z fX10_130 (N99 (zS := zS) hN_z) dX10_see_50 rfl rfl ?_
        rw [show z_I (z_pI zS 110 (3 * (z_AS A_z).2.2.2) s_z) 99 21 = nI (z_AS A_z).2.2.2 from (z_Ine (Or.inl (by decide))).trans hR.el]
        refine z_s 54 hB_z dX10_see_53 rfl rfl ?_
        refine z_s 55 hB_z dX10_see_54 rfl rfl ?_
        refine z_s 56 hB_z dX10_see_55 rfl rfl ?_
        refine z_s 57 hB_z dX10_see_56 rfl rfl ?_
        rw [z_n3 _ (by omega), z_inc]
        refine z_ast 58 hB_z (N110 (zS := zS) hN_z) dX10_see_57 rfl (vp_in_nI (show 3 * (z_AS A_z).2.2.2 + 1 < 24 by omega) (by decide)) ?_
        rw [nI_clamp (by omega)]
        refine z_s 59 hB_z dX10_see_58 rfl rfl ?_
        refine z_getR 62 hB_z fX10_40 (N99 (zS := zS) hN_z) dX10_see_59 rfl rfl (n99_22 (zS := zS) hN_z) ?_
        refine z_s 63 hB_z dX10_see_62 rfl rfl ?_
        refine z_s 64 hB_z dX10_see_63 rfl rfl ?_
        refine z_getI 67 hB_z fX10_130 (N99 (zS := zS) hN_z) dX10_see_64 rfl rfl ?_
        rw [show z_I (z_pI (z_pI zS 110 (3 * (z_AS A_z).2.2.2) s_z) 110 (3 * (z_AS A_z).2.2.2 + 1) t_z) 99 21 = nI (z_AS A_z).2.2.2 from (z_Ine (Or.inl (by decide))).trans ((z_Ine (Or.inl (by decide))).trans hR.el)]
        refine z_s 68 hB_z dX10_see_67 rfl rfl ?_
        refine z_s 69 hB_z dX10_see_68 rfl rfl ?_
        refine z_s 70 hB_z dX10_see_69 rfl rfl ?_
        rw [z_n3 _ (by omega), show nI (3 * (z_AS A_z).2.2.2) + 2 = nI (3 * (z_AS A_z).2.2.2 + 2) from z_n3b _ 2]
        refine z_s 71 hB_z dX10_see_70 rfl rfl ?_
        refine z_b 74 78 hB_z dX10_see_71 rfl rfl (by decide) (fun c_71 => ?_) (fun c_71 => ?_)
        ·
          refine z_s 79 hB_z dX10_see_78 rfl rfl ?_
          refine z_ast 80 hB_z (N110 (zS := zS) hN_z) dX10_see_79 rfl (vp_in_nI (show 3 * (z_AS A_z).2.2.2 + 2 < 24 by omega) (by decide)) ?_
          rw [nI_clamp (by omega)]
          refine z_s 81 hB_z dX10_see_80 rfl rfl ?_
          refine z_s 82 hB_z dX10_see_81 rfl rfl ?_
          refine z_getI 85 hB_z fX10_130 (N99 (zS := zS) hN_z) dX10_see_82 rfl rfl ?_
          rw [show z_I (z_pI (z_pI (z_pI zS 110 (3 * (z_AS A_z).2.2.2) s_z) 110 (3 * (z_AS A_z).2.2.2 + 1) t_z) 110 (3 * (z_AS A_z).2.2.2 + 2) 0) 99 21 = nI (z_AS A_z).2.2.2 from (z_Ine (Or.inl (by decide))).trans ((z_Ine (Or.inl (by decide))).trans ((z_Ine (Or.inl (by decide))).trans hR.el))]
          refine z_s 86 hB_z dX10_see_85 rfl rfl ?_
          refine z_s 87 hB_z dX10_see_86 rfl rfl ?_
          rw [z_inc]
          refine z_putI 90 hB_z fX10_130 (N99 (zS := zS) hN_z) dX10_see_87 rfl rfl rfl ?_
          refine z_s 91 hB_z dX10_see_90 rfl rfl ?_
          refine z_getI 94 hB_z fX10_130 (N99 (zS := zS) hN_z) dX10_see_91 rfl rfl ?_
          rw [z_Ieq]
          refine z_iret hM_z dX10_see_94 rfl ?_ rfl rfl
          have e_z : z_see A_z s_z t_z v_z = (z_setS A_z (fun i_z => if i_z = (z_AS A_z).2.2.2 then s_z else (z_AS A_z).1 i_z, fun i_z => if i_z = (z_AS A_z).2.2.2 then t_z else (z_AS A_z).2.1 i_z, fun i_z => if i_z = (z_AS A_z).2.2.2 then 0 else (z_AS A_z).2.2.1 i_z, (z_AS A_z).2.2.2 + 1), nI ((z_AS A_z).2.2.2 + 1)) := (if_pos ⟨hs, z_of1 c_15⟩).trans ((if_pos hlt).trans (by rw [if_pos c_71]))
          rw [e_z]
          refine ⟨rfl, z_u2 (z_u2 (z_u2 (z_u2 (z_I zS) 110 (3 * (z_AS A_z).2.2.2) s_z) 110 (3 * (z_AS A_z).2.2.2 + 1) t_z) 110 (3 * (z_AS A_z).2.2.2 + 2) 0) 99 21 (nI ((z_AS A_z).2.2.2 + 1)), rfl, ?_, (((z_f2.rf.u2 (by decide)).u2 (by decide)).u2 (by decide)).u2 (by decide)⟩
          refine hR.ofS ((((z_f2.rf.u2 (Or.inl rfl)).u2 (Or.inl rfl)).u2 (Or.inl rfl)).u2 (Or.inr ⟨rfl, rfl⟩)) (z_u2_same _ _ _ _) (fun i_z hi_z => ?_)
          have hi2 : i_z < (z_AS A_z).2.2.2 + 1 := hi_z
          exact z_seeI hi2 (hR.es i_z)
        ·
          refine z_s 75 hB_z dX10_see_74 rfl rfl ?_
          refine z_j 79 hB_z dX10_see_75 (by decide) ?_
          refine z_ast 80 hB_z (N110 (zS := zS) hN_z) dX10_see_79 rfl (vp_in_nI (show 3 * (z_AS A_z).2.2.2 + 2 < 24 by omega) (by decide)) ?_
          rw [nI_clamp (by omega)]
          refine z_s 81 hB_z dX10_see_80 rfl rfl ?_
          refine z_s 82 hB_z dX10_see_81 rfl rfl ?_
          refine z_getI 85 hB_z fX10_130 (N99 (zS := zS) hN_z) dX10_see_82 rfl rfl ?_
          rw [show z_I (z_pI (z_pI (z_pI zS 110 (3 * (z_AS A_z).2.2.2) s_z) 110 (3 * (z_AS A_z).2.2.2 + 1) t_z) 110 (3 * (z_AS A_z).2.2.2 + 2) 1) 99 21 = nI (z_AS A_z).2.2.2 from (z_Ine (Or.inl (by decide))).trans ((z_Ine (Or.inl (by decide))).trans ((z_Ine (Or.inl (by decide))).trans hR.el))]
          refine z_s 86 hB_z dX10_see_85 rfl rfl ?_
          refine z_s 87 hB_z dX10_see_86 rfl rfl ?_
          rw [z_inc]
          refine z_putI 90 hB_z fX10_130 (N99 (zS := zS) hN_z) dX10_see_87 rfl rfl rfl ?_
          refine z_s 91 hB_z dX10_see_90 rfl rfl ?_
          refine z_getI 94 hB_z fX10_130 (N99 (zS := zS) hN_z) dX10_see_91 rfl rfl ?_
          rw [z_Ieq]
          refine z_iret hM_z dX10_see_94 rfl ?_ rfl rfl
          have e_z : z_see A_z s_z t_z v_z = (z_setS A_z (fun i_z => if i_z = (z_AS A_z).2.2.2 then s_z else (z_AS A_z).1 i_z, fun i_z => if i_z = (z_AS A_z).2.2.2 then t_z else (z_AS A_z).2.1 i_z, fun i_z => if i_z = (z_AS A_z).2.2.2 then 1 else (z_AS A_z).2.2.1 i_z, (z_AS A_z).2.2.2 + 1), nI ((z_AS A_z).2.2.2 + 1)) := (if_pos ⟨hs, z_of1 c_15⟩).trans ((if_pos hlt).trans (by rw [if_neg c_71]))
          rw [e_z]
          refine ⟨rfl, z_u2 (z_u2 (z_u2 (z_u2 (z_I zS) 110 (3 * (z_AS A_z).2.2.2) s_z) 110 (3 * (z_AS A_z).2.2.2 + 1) t_z) 110 (3 * (z_AS A_z).2.2.2 + 2) 1) 99 21 (nI ((z_AS A_z).2.2.2 + 1)), rfl, ?_, (((z_f2.rf.u2 (by decide)).u2 (by decide)).u2 (by decide)).u2 (by decide)⟩
          refine hR.ofS ((((z_f2.rf.u2 (Or.inl rfl)).u2 (Or.inl rfl)).u2 (Or.inl rfl)).u2 (Or.inr ⟨rfl, rfl⟩)) (z_u2_same _ _ _ _) (fun i_z hi_z => ?_)
          have hi2 : i_z < (z_AS A_z).2.2.2 + 1 := hi_z
          exact z_seeI hi2 (hR.es i_z)
      ·
        have hnl : ¬ (z_AS A_z).2.2.2 < 8 := fun q_z => absurd ((nI_ltI (by omega) (by decide)).mpr q_z) (by rw [show nI (z_AS A_z).2.2.2 = nI 8 from c_26]; decide)
        refine z_s 31 hB_z dX10_see_29 rfl rfl ?_
        refine z_iret hM_z dX10_see_31 rfl ?_ rfl rfl
        exact z_MC.of hR ((if_pos ⟨hs, z_of1 c_15⟩).trans (if_neg hnl))
    ·
      refine z_s 19 hB_z dX10_see_18 rfl rfl ?_
      refine z_iret hM_z dX10_see_19 rfl ?_ rfl rfl
      exact z_MC.of hR (if_neg (fun q_z => z_of0 c_15 q_z.2))

set_option maxHeartbeats 2000000 in
theorem c_X10_note {g_z : z_U} {d_z : Nat} {zS : z_S} {A_z : z_Ab} (hN_z : z_LM zS) (hR : z_RM (z_I zS) A_z) (hu8 : (z_AU A_z).2 ≤ 8) : z_C g_z (d_z + 1) 0 0 mX10_note [.ref 99] zS (fun r_z zS' => r_z = none ∧ ∃ zI', z_up zS zI' = zS' ∧ z_RM zI' (z_setU A_z (z_push (z_AU A_z) (z_AT A_z) 8)) ∧ z_f2 (fun q_z k_z => q_z = 108 ∨ (q_z = 99 ∧ k_z = 18)) (z_I zS) zI') := by
  refine z_enter [some (.ref 99)] rfl rfl (Nat.le_of_ble_eq_true rfl) rfl (fun zX hM_z => ?_)
  have hB_z : z_B g_z zX RX10 cX10_note 1 := hM_z.1
  have tl : ∀ (I1 : Nat → Nat → Int32) (u_z : Nat), I1 99 18 = nI u_z → u_z ≤ 7 → (none = (none : Option Value) ∧ ∃ zI', z_up zS zI' = z_up zS (z_u2 (z_cpy I1 106 0 108 (17 * u_z) 17) 99 18 (nI (u_z + 1))) ∧ z_RM zI' (z_setU A_z (z_push (z_AU A_z) (z_AT A_z) 8)) ∧ z_f2 (fun q_z k_z => q_z = 108 ∨ (q_z = 99 ∧ k_z = 18)) (z_I zS) zI') → z_W g_z zX 35 [some (.ref 99)] [] 0 0 (z_up zS I1) := fun I1 u_z hb_z hu hp => by
    refine z_s 36 hB_z dX10_note_35 rfl rfl ?_
    refine z_getR 39 hB_z fX10_28 (N99 (zS := zS) hN_z) dX10_note_36 rfl rfl (n99_15 (zS := zS) hN_z) ?_
    refine z_s 40 hB_z dX10_note_39 rfl rfl ?_
    refine z_s 41 hB_z dX10_note_40 rfl rfl ?_
    refine z_getR 44 hB_z fX10_34 (N99 (zS := zS) hN_z) dX10_note_41 rfl rfl (n99_17 (zS := zS) hN_z) ?_
    refine z_s 46 hB_z dX10_note_44 rfl rfl ?_
    refine z_s 47 hB_z dX10_note_46 rfl rfl ?_
    refine z_getI 50 hB_z fX10_133 (N99 (zS := zS) hN_z) dX10_note_47 rfl rfl ?_
    rw [show z_I (z_up zS I1) 99 18 = nI u_z from hb_z]
    refine z_s 51 hB_z dX10_note_50 rfl rfl ?_
    refine z_s 53 hB_z dX10_note_51 rfl rfl ?_
    rw [z_n17 _ (by omega)]
    refine z_callS 56 hB_z hM_z.2.1 kX10_126 dX10_note_53 rfl (c_X10_bring (zS := z_up zS I1) (d_z := 0) (i_z := 0) (j_z := 17 * u_z) (n_z := 17) (N106 hN_z) (N108 hN_z) (Or.inl (by decide)) (by decide) (by omega) (by decide) (by decide)) (by omega) rfl rfl (Nat.le_of_ble_eq_true rfl) ⟨Nat.le_refl _, Nat.le_refl _⟩ ?_
    rintro _ _ ⟨rfl, rfl⟩
    refine z_s 57 hB_z dX10_note_56 rfl rfl ?_
    refine z_s 58 hB_z dX10_note_57 rfl rfl ?_
    refine z_getI 61 hB_z fX10_133 (N99 (zS := zS) hN_z) dX10_note_58 rfl rfl ?_
    rw [show z_I (z_up (z_up zS I1) (z_cpy (z_I (z_up zS I1)) 106 0 108 (17 * u_z) 17)) 99 18 = nI u_z from (z_Icp (by decide)).trans hb_z]
    refine z_s 62 hB_z dX10_note_61 rfl rfl ?_
    refine z_s 63 hB_z dX10_note_62 rfl rfl ?_
    rw [z_inc]
    refine z_putI 66 hB_z fX10_133 (N99 (zS := zS) hN_z) dX10_note_63 rfl rfl rfl ?_
    refine z_vret hM_z dX10_note_66 rfl ?_ rfl rfl
    exact hp
  refine z_s 1 hB_z dX10_note_0 rfl rfl ?_
  refine z_getI 4 hB_z fX10_133 (N99 (zS := zS) hN_z) dX10_note_1 rfl rfl ?_
  rw [hR.bl]
  refine z_s 6 hB_z dX10_note_4 rfl rfl ?_
  refine z_b 9 35 hB_z dX10_note_6 rfl rfl (by decide) (fun c_6 => ?_) (fun c_6 => ?_)
  ·
    have hlt : (z_AU A_z).2 < 8 := by
      rcases Nat.lt_or_ge (z_AU A_z).2 8 with z_z | z_z
      · exact z_z
      · exact absurd (show nI (z_AU A_z).2 = 8 by rw [show (z_AU A_z).2 = 8 by omega]; rfl) c_6
    refine tl (z_I zS) (z_AU A_z).2 hR.bl (by omega) ⟨rfl, _, rfl, ?_, (z_f2.rf.cpy (fun k_z => Or.inl rfl)).u2 (Or.inr ⟨rfl, rfl⟩)⟩
    have e2_z : z_push (z_AU A_z) (z_AT A_z) 8 = (fun j_z => if j_z = (z_AU A_z).2 then z_AT A_z else (z_AU A_z).1 j_z, (z_AU A_z).2 + 1) := by
      unfold z_push
      rw [if_pos hlt, if_pos hlt]
    rw [e2_z]
    refine hR.ofU ((z_f2.rf.cpy (fun k_z => Or.inl rfl)).u2 (Or.inr ⟨rfl, rfl⟩)) (z_u2_same _ _ _ _) (fun j_z hj => ?_)
    have hj2 : j_z < (z_AU A_z).2 + 1 := hj
    by_cases q_z : j_z = (z_AU A_z).2
    · rw [q_z]
      show z_rW _ 108 _ (if (z_AU A_z).2 = (z_AU A_z).2 then z_AT A_z else (z_AU A_z).1 (z_AU A_z).2)
      rw [if_pos rfl]
      exact (z_rW.cpy hR.nw).fr (fun k_z _ _ => z_u2_ne (Or.inl (by decide)))
    · show z_rW _ 108 _ (if j_z = (z_AU A_z).2 then z_AT A_z else (z_AU A_z).1 j_z)
      rw [if_neg q_z]
      exact (hR.bs j_z (by omega)).fr (fun k_z h1 h2 => (z_u2_ne (Or.inl (by decide))).trans (z_cpy_out (by omega)))
  ·
    have hu : (z_AU A_z).2 = 8 := by
      have := (nI_leI (show 8 < 2 ^ 31 by decide) (show (z_AU A_z).2 < 2 ^ 31 by omega)).mp (by rw [show nI (z_AU A_z).2 = nI 8 from c_6]; exact Int32.le_refl _)
      omega
    refine z_s 10 hB_z dX10_note_9 rfl rfl ?_
    refine z_getR 13 hB_z fX10_34 (N99 (zS := zS) hN_z) dX10_note_10 rfl rfl (n99_17 (zS := zS) hN_z) ?_
    refine z_s 15 hB_z dX10_note_13 rfl rfl ?_
    refine z_s 16 hB_z dX10_note_15 rfl rfl ?_
    refine z_getR 19 hB_z fX10_34 (N99 (zS := zS) hN_z) dX10_note_16 rfl rfl (n99_17 (zS := zS) hN_z) ?_
    refine z_s 20 hB_z dX10_note_19 rfl rfl ?_
    refine z_s 22 hB_z dX10_note_20 rfl rfl ?_
    refine z_callS 25 hB_z hM_z.2.1 kX10_126 dX10_note_22 rfl (c_X10_bring (d_z := 0) (i_z := 17) (j_z := 0) (n_z := 119) (N108 hN_z) (N108 hN_z) (Or.inr (by decide)) (by decide) (by decide) (by decide) (by decide)) (by omega) rfl rfl (Nat.le_of_ble_eq_true rfl) ⟨Nat.le_refl _, Nat.le_refl _⟩ ?_
    rintro _ _ ⟨rfl, rfl⟩
    refine z_s 26 hB_z dX10_note_25 rfl rfl ?_
    refine z_s 27 hB_z dX10_note_26 rfl rfl ?_
    refine z_getI 30 hB_z fX10_133 (N99 (zS := zS) hN_z) dX10_note_27 rfl rfl ?_
    rw [show z_I (z_up zS (z_cpy (z_I zS) 108 17 108 0 119)) 99 18 = nI 8 from (z_Icp (by decide)).trans (hR.bl.trans (by rw [hu]))]
    refine z_s 31 hB_z dX10_note_30 rfl rfl ?_
    refine z_s 32 hB_z dX10_note_31 rfl rfl ?_
    rw [show nI 8 - 1 = nI 7 from rfl]
    refine z_putI 35 hB_z fX10_133 (N99 (zS := zS) hN_z) dX10_note_32 rfl rfl rfl ?_
    refine tl (z_u2 (z_cpy (z_I zS) 108 17 108 0 119) 99 18 (nI 7)) 7 (z_u2_same _ _ _ _) (by decide) ⟨rfl, _, rfl, ?_, (((z_f2.rf.cpy (fun k_z => Or.inl rfl)).u2 (Or.inr ⟨rfl, rfl⟩)).cpy (fun k_z => Or.inl rfl)).u2 (Or.inr ⟨rfl, rfl⟩)⟩
    have e2_z : z_push (z_AU A_z) (z_AT A_z) 8 = (fun j_z => if j_z = 7 then z_AT A_z else (z_AU A_z).1 (j_z + 1), 8) := by
      unfold z_push
      rw [if_neg (by omega), if_neg (by omega)]
    rw [e2_z]
    refine hR.ofU ((((z_f2.rf.cpy (fun k_z => Or.inl rfl)).u2 (Or.inr ⟨rfl, rfl⟩)).cpy (fun k_z => Or.inl rfl)).u2 (Or.inr ⟨rfl, rfl⟩)) (z_u2_same _ _ _ _) (fun j_z hj => ?_)
    have hj2 : j_z < 8 := hj
    by_cases q_z : j_z = 7
    · rw [q_z]
      show z_rW _ 108 _ (if (7 : Nat) = 7 then z_AT A_z else (z_AU A_z).1 (7 + 1))
      rw [if_pos rfl]
      exact (z_rW.cpy (hR.nw.fr (fun k_z _ _ => (z_u2_ne (Or.inl (by decide))).trans (z_cpy_out (by omega))))).fr (fun k_z _ _ => z_u2_ne (Or.inl (by decide)))
    · show z_rW _ 108 _ (if j_z = 7 then z_AT A_z else (z_AU A_z).1 (j_z + 1))
      rw [if_neg q_z]
      have h1 := (hR.bs (j_z + 1) (by omega)).cpy (B_z := 108) (j_z := 17 * j_z)
      refine h1.fr (fun k_z h1 h2 => ?_)
      rw [z_u2_ne (Or.inl (by decide)), z_cpy_out (by omega), z_u2_ne (Or.inl (by decide)), z_cpy_in (by omega), z_cpy_in (by omega)]
      exact congrArg (z_I zS 108) (by omega)

