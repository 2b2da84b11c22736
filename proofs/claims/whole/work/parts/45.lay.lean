/-! a text laid down: the draft becomes the shop, and all begins -/
theorem z_cps {zS zS' : z_S} {I1 : Nat → Nat → Int32} {k_z : Nat} (hf : z_fr (fun x_z => 7 ≤ x_z ∧ x_z < 26) (z_I zS) I1) (hv : ∀ a_z, a_z < k_z → ∀ b_z, b_z < z_vl a_z → I1 (9 + 2 * a_z) b_z = z_I zS (28 + 2 * a_z) b_z) (hk : k_z < 9)
    (h_z : zS' = z_up (z_up zS I1) (z_sa (z_I (z_up zS I1)) (9 + 2 * k_z) (z_vl k_z) (z_I (z_up zS I1) (28 + 2 * k_z)))) :
    ∃ I2_z, zS' = z_up zS I2_z ∧ z_fr (fun x_z => 7 ≤ x_z ∧ x_z < 26) (z_I zS) I2_z ∧ ∀ a_z, a_z < k_z + 1 → ∀ b_z, b_z < z_vl a_z → I2_z (9 + 2 * a_z) b_z = z_I zS (28 + 2 * a_z) b_z := by
  refine ⟨z_sa I1 (9 + 2 * k_z) (z_vl k_z) (I1 (28 + 2 * k_z)), h_z, hf.sa (by omega), fun a_z ha_z b_z hb_z => ?_⟩
  by_cases e_z : a_z = k_z
  · rw [e_z]
    refine (if_pos ⟨rfl, e_z ▸ hb_z⟩ : z_sa I1 (9 + 2 * k_z) (z_vl k_z) (I1 (28 + 2 * k_z)) (9 + 2 * k_z) b_z = I1 (28 + 2 * k_z) b_z).trans ?_
    exact hf _ _ (by omega)
  · rw [z_sa_off (by omega)]
    exact hv a_z (by omega) b_z hb_z
theorem z_cp9 {zI : Nat → Nat → Int32} {a_z b_z c_z e_z : Int32} : z_u2 (z_u2 (z_u2 (z_u2 zI 7 9 a_z) 7 10 b_z) 7 11 c_z) 7 12 e_z 7 9 = a_z := by
  rw [z_u2_ne (Or.inr (by decide)), z_u2_ne (Or.inr (by decide)), z_u2_ne (Or.inr (by decide)), z_u2_same]
theorem z_cp10 {zI : Nat → Nat → Int32} {a_z b_z c_z e_z : Int32} : z_u2 (z_u2 (z_u2 (z_u2 zI 7 9 a_z) 7 10 b_z) 7 11 c_z) 7 12 e_z 7 10 = b_z := by
  rw [z_u2_ne (Or.inr (by decide)), z_u2_ne (Or.inr (by decide)), z_u2_same]
theorem z_cp11 {zI : Nat → Nat → Int32} {a_z b_z c_z e_z : Int32} : z_u2 (z_u2 (z_u2 (z_u2 zI 7 9 a_z) 7 10 b_z) 7 11 c_z) 7 12 e_z 7 11 = c_z := by
  rw [z_u2_ne (Or.inr (by decide)), z_u2_same]
set_option maxHeartbeats 1000000 in
theorem c_X5_copy {g_z : z_U} {d_z : Nat} {zS : z_S} (hL : z_L zS) : z_C g_z (d_z + 2) 0 0 mX5_copy [.ref 7, .ref 26] zS (fun r_z zS' => r_z = none ∧ ∃ zI', z_up zS zI' = zS' ∧ z_fr (fun x_z => 7 ≤ x_z ∧ x_z < 26) (z_I zS) zI' ∧ (∀ zV, z_rV (z_I zS) 26 zV → z_rV zI' 7 zV) ∧ zI' 7 11 = z_I zS 26 11) := by
  refine z_enter [some (.ref 7), some (.ref 26)] rfl rfl (Nat.le_of_ble_eq_true rfl) rfl (fun zX hM_z => ?_)
  have hB_z : z_B g_z zX RX5 cX5_copy 2 := hM_z.1
  refine z_s 1 hB_z dX5_copy_0 rfl rfl ?_
  refine z_getR 4 hB_z fX5_14 (L7 (zS := zS) hL) dX5_copy_1 rfl rfl (r7_0 (zS := zS) hL) ?_
  refine z_s 5 hB_z dX5_copy_4 rfl rfl ?_
  refine z_getR 8 hB_z fX5_14 (L26 (zS := zS) hL) dX5_copy_5 rfl rfl (r26_0 (zS := zS) hL) ?_
  refine z_callV 11 hB_z hM_z.2.1 kX5_60 dX5_copy_8 rfl (L8_z (zS := zS) hL) rfl (c_X3_copy (d_z := 0) (w8 hL) (w27 hL) (by decide)) (by omega) rfl rfl (Nat.le_of_ble_eq_true rfl) ⟨Nat.le_refl _, Nat.le_refl _⟩ ?_
  rintro _ _ ⟨rfl, e0_z⟩
  obtain ⟨I1, rfl, hf1, hv1⟩ := z_cps (k_z := 0) (z_fr.rf (P_z := fun x_z => 7 ≤ x_z ∧ x_z < 26)) (fun a_z ha_z => absurd ha_z (Nat.not_lt_zero a_z)) (by decide) e0_z
  refine z_s 12 hB_z dX5_copy_11 rfl rfl ?_
  refine z_getR 15 hB_z fX5_20 (L7 (zS := zS) hL) dX5_copy_12 rfl rfl (r7_1 (zS := zS) hL) ?_
  refine z_s 16 hB_z dX5_copy_15 rfl rfl ?_
  refine z_getR 19 hB_z fX5_20 (L26 (zS := zS) hL) dX5_copy_16 rfl rfl (r26_1 (zS := zS) hL) ?_
  refine z_callV 22 hB_z hM_z.2.1 kX5_60 dX5_copy_19 rfl (L10 (zS := zS) hL) rfl (c_X3_copy (d_z := 0) (w10_z hL) (w29 hL) (by decide)) (by omega) rfl rfl (Nat.le_of_ble_eq_true rfl) ⟨Nat.le_refl _, Nat.le_refl _⟩ ?_
  rintro _ _ ⟨rfl, e1_z⟩
  obtain ⟨I2_z, rfl, hf2, hv2⟩ := z_cps (k_z := 1) hf1 hv1 (by decide) e1_z
  refine z_s 23 hB_z dX5_copy_22 rfl rfl ?_
  refine z_getR 26 hB_z fX5_23 (L7 (zS := zS) hL) dX5_copy_23 rfl rfl (r7_2 (zS := zS) hL) ?_
  refine z_s 27 hB_z dX5_copy_26 rfl rfl ?_
  refine z_getR 30 hB_z fX5_23 (L26 (zS := zS) hL) dX5_copy_27 rfl rfl (r26_2 (zS := zS) hL) ?_
  refine z_callV 33 hB_z hM_z.2.1 kX5_60 dX5_copy_30 rfl (L12_z (zS := zS) hL) rfl (c_X3_copy (d_z := 0) (w12 hL) (w31 hL) (by decide)) (by omega) rfl rfl (Nat.le_of_ble_eq_true rfl) ⟨Nat.le_refl _, Nat.le_refl _⟩ ?_
  rintro _ _ ⟨rfl, e2_z⟩
  obtain ⟨I3, rfl, hf3, hv3⟩ := z_cps (k_z := 2) hf2 hv2 (by decide) e2_z
  refine z_s 34 hB_z dX5_copy_33 rfl rfl ?_
  refine z_getR 37 hB_z fX5_26 (L7 (zS := zS) hL) dX5_copy_34 rfl rfl (r7_3 (zS := zS) hL) ?_
  refine z_s 38 hB_z dX5_copy_37 rfl rfl ?_
  refine z_getR 41 hB_z fX5_26 (L26 (zS := zS) hL) dX5_copy_38 rfl rfl (r26_3 (zS := zS) hL) ?_
  refine z_callV 44 hB_z hM_z.2.1 kX5_60 dX5_copy_41 rfl (L14 (zS := zS) hL) rfl (c_X3_copy (d_z := 0) (w14_z hL) (w33 hL) (by decide)) (by omega) rfl rfl (Nat.le_of_ble_eq_true rfl) ⟨Nat.le_refl _, Nat.le_refl _⟩ ?_
  rintro _ _ ⟨rfl, e3_z⟩
  obtain ⟨I4, rfl, hf4, hv4⟩ := z_cps (k_z := 3) hf3 hv3 (by decide) e3_z
  refine z_s 45 hB_z dX5_copy_44 rfl rfl ?_
  refine z_getR 48 hB_z fX5_29 (L7 (zS := zS) hL) dX5_copy_45 rfl rfl (r7_4 (zS := zS) hL) ?_
  refine z_s 49 hB_z dX5_copy_48 rfl rfl ?_
  refine z_getR 52 hB_z fX5_29 (L26 (zS := zS) hL) dX5_copy_49 rfl rfl (r26_4 (zS := zS) hL) ?_
  refine z_callV 55 hB_z hM_z.2.1 kX5_60 dX5_copy_52 rfl (L16 (zS := zS) hL) rfl (c_X3_copy (d_z := 0) (w16 hL) (w35 hL) (by decide)) (by omega) rfl rfl (Nat.le_of_ble_eq_true rfl) ⟨Nat.le_refl _, Nat.le_refl _⟩ ?_
  rintro _ _ ⟨rfl, e4_z⟩
  obtain ⟨I5, rfl, hf5, hv5⟩ := z_cps (k_z := 4) hf4 hv4 (by decide) e4_z
  refine z_s 56 hB_z dX5_copy_55 rfl rfl ?_
  refine z_getR 59 hB_z fX5_32 (L7 (zS := zS) hL) dX5_copy_56 rfl rfl (r7_5 (zS := zS) hL) ?_
  refine z_s 60 hB_z dX5_copy_59 rfl rfl ?_
  refine z_getR 63 hB_z fX5_32 (L26 (zS := zS) hL) dX5_copy_60 rfl rfl (r26_5 (zS := zS) hL) ?_
  refine z_callV 66 hB_z hM_z.2.1 kX5_60 dX5_copy_63 rfl (L18 (zS := zS) hL) rfl (c_X3_copy (d_z := 0) (w18 hL) (w37 hL) (by decide)) (by omega) rfl rfl (Nat.le_of_ble_eq_true rfl) ⟨Nat.le_refl _, Nat.le_refl _⟩ ?_
  rintro _ _ ⟨rfl, e5_z⟩
  obtain ⟨I6, rfl, hf6, hv6⟩ := z_cps (k_z := 5) hf5 hv5 (by decide) e5_z
  refine z_s 67 hB_z dX5_copy_66 rfl rfl ?_
  refine z_getR 70 hB_z fX5_35 (L7 (zS := zS) hL) dX5_copy_67 rfl rfl (r7_6 (zS := zS) hL) ?_
  refine z_s 71 hB_z dX5_copy_70 rfl rfl ?_
  refine z_getR 74 hB_z fX5_35 (L26 (zS := zS) hL) dX5_copy_71 rfl rfl (r26_6 (zS := zS) hL) ?_
  refine z_callV 77 hB_z hM_z.2.1 kX5_60 dX5_copy_74 rfl (L20 (zS := zS) hL) rfl (c_X3_copy (d_z := 0) (w20 hL) (w39 hL) (by decide)) (by omega) rfl rfl (Nat.le_of_ble_eq_true rfl) ⟨Nat.le_refl _, Nat.le_refl _⟩ ?_
  rintro _ _ ⟨rfl, e6_z⟩
  obtain ⟨I7, rfl, hf7, hv7⟩ := z_cps (k_z := 6) hf6 hv6 (by decide) e6_z
  refine z_s 78 hB_z dX5_copy_77 rfl rfl ?_
  refine z_getR 81 hB_z fX5_38 (L7 (zS := zS) hL) dX5_copy_78 rfl rfl (r7_7 (zS := zS) hL) ?_
  refine z_s 82 hB_z dX5_copy_81 rfl rfl ?_
  refine z_getR 85 hB_z fX5_38 (L26 (zS := zS) hL) dX5_copy_82 rfl rfl (r26_7 (zS := zS) hL) ?_
  refine z_callV 88 hB_z hM_z.2.1 kX5_60 dX5_copy_85 rfl (L22 (zS := zS) hL) rfl (c_X3_copy (d_z := 0) (w22 hL) (w41 hL) (by decide)) (by omega) rfl rfl (Nat.le_of_ble_eq_true rfl) ⟨Nat.le_refl _, Nat.le_refl _⟩ ?_
  rintro _ _ ⟨rfl, e7_z⟩
  obtain ⟨I8, rfl, hf8, hv8⟩ := z_cps (k_z := 7) hf7 hv7 (by decide) e7_z
  refine z_s 89 hB_z dX5_copy_88 rfl rfl ?_
  refine z_getR 92 hB_z fX5_41 (L7 (zS := zS) hL) dX5_copy_89 rfl rfl (r7_8 (zS := zS) hL) ?_
  refine z_s 93 hB_z dX5_copy_92 rfl rfl ?_
  refine z_getR 96 hB_z fX5_41 (L26 (zS := zS) hL) dX5_copy_93 rfl rfl (r26_8 (zS := zS) hL) ?_
  refine z_callV 99 hB_z hM_z.2.1 kX5_60 dX5_copy_96 rfl (L24 (zS := zS) hL) rfl (c_X3_copy (d_z := 0) (w24 hL) (w43 hL) (by decide)) (by omega) rfl rfl (Nat.le_of_ble_eq_true rfl) ⟨Nat.le_refl _, Nat.le_refl _⟩ ?_
  rintro _ _ ⟨rfl, e8⟩
  obtain ⟨I9, rfl, hf9, hv9⟩ := z_cps (k_z := 8) hf8 hv8 (by decide) e8
  refine z_s 100 hB_z dX5_copy_99 rfl rfl ?_
  refine z_s 101 hB_z dX5_copy_100 rfl rfl ?_
  refine z_getI 104 hB_z fX5_47 (L26 (zS := zS) hL) dX5_copy_101 rfl rfl ?_
  rw [show z_I (z_up zS I9) 26 9 = z_I zS 26 9 from hf9 26 9 (by decide)]
  refine z_putI 107 hB_z fX5_47 (L7 (zS := zS) hL) dX5_copy_104 rfl rfl rfl ?_
  refine z_s 108 hB_z dX5_copy_107 rfl rfl ?_
  refine z_s 109 hB_z dX5_copy_108 rfl rfl ?_
  refine z_getI 112 hB_z fX5_51 (L26 (zS := zS) hL) dX5_copy_109 rfl rfl ?_
  rw [show z_I (z_pI (z_up zS I9) 7 9 (z_I zS 26 9)) 26 10 = z_I zS 26 10 from (z_Ine (Or.inl (by decide))).trans (hf9 26 10 (by decide))]
  refine z_putI 115 hB_z fX5_51 (L7 (zS := zS) hL) dX5_copy_112 rfl rfl rfl ?_
  refine z_s 116 hB_z dX5_copy_115 rfl rfl ?_
  refine z_s 117 hB_z dX5_copy_116 rfl rfl ?_
  refine z_getI 120 hB_z fX5_54 (L26 (zS := zS) hL) dX5_copy_117 rfl rfl ?_
  rw [show z_I (z_pI (z_pI (z_up zS I9) 7 9 (z_I zS 26 9)) 7 10 (z_I zS 26 10)) 26 11 = z_I zS 26 11 from (z_Ine (Or.inl (by decide))).trans ((z_Ine (Or.inl (by decide))).trans (hf9 26 11 (by decide)))]
  refine z_putI 123 hB_z fX5_54 (L7 (zS := zS) hL) dX5_copy_120 rfl rfl rfl ?_
  refine z_s 124 hB_z dX5_copy_123 rfl rfl ?_
  refine z_s 125 hB_z dX5_copy_124 rfl rfl ?_
  refine z_getI 128 hB_z fX5_57 (L26 (zS := zS) hL) dX5_copy_125 rfl rfl ?_
  rw [show z_I (z_pI (z_pI (z_pI (z_up zS I9) 7 9 (z_I zS 26 9)) 7 10 (z_I zS 26 10)) 7 11 (z_I zS 26 11)) 26 12 = z_I zS 26 12 from (z_Ine (Or.inl (by decide))).trans ((z_Ine (Or.inl (by decide))).trans ((z_Ine (Or.inl (by decide))).trans (hf9 26 12 (by decide))))]
  refine z_putI 131 hB_z fX5_57 (L7 (zS := zS) hL) dX5_copy_128 rfl rfl rfl ?_
  refine z_vret hM_z dX5_copy_131 rfl ?_ rfl rfl
  refine ⟨rfl, z_u2 (z_u2 (z_u2 (z_u2 I9 7 9 (z_I zS 26 9)) 7 10 (z_I zS 26 10)) 7 11 (z_I zS 26 11)) 7 12 (z_I zS 26 12), rfl, (((hf9.u2 (by decide)).u2 (by decide)).u2 (by decide)).u2 (by decide), fun zV hV => ?_, z_cp11⟩
  obtain ⟨a1_z, a2, a3, a4, a5, a6⟩ := hV
  refine ⟨fun a_z ha_z b_z hb_z => ?_, z_cp9.trans a2, z_cp10.trans a3, (z_u2_same _ _ _ _).trans a4, a5, a6⟩
  rw [z_u2_ne (Or.inl (by omega)), z_u2_ne (Or.inl (by omega)), z_u2_ne (Or.inl (by omega)), z_u2_ne (Or.inl (by omega))]
  exact (hv9 a_z (by omega) b_z hb_z).trans (a1_z a_z ha_z b_z hb_z)

def z_T0 (w_z : Int32) : Nat → Int32 := fun k_z => if k_z = 4 then w_z else 0
theorem z_T0_rT {zI : Nat → Nat → Int32} {w_z : Int32} : z_rT (z_sa (z_u2 (z_u2 (z_u2 (z_u2 (z_u2 (z_u2 zI 51 0 0) 51 1 0) 51 2 0) 51 3 0) 51 4 w_z) 51 5 0) 53 6 (fun _ => 0)) 51 (z_T0 w_z) := by
  refine ⟨fun k_z hk => ?_, fun k_z hk => ?_⟩
  · rw [z_sa_off (by decide)]
    rcases (show k_z = 0 ∨ k_z = 1 ∨ k_z = 2 ∨ k_z = 3 ∨ k_z = 4 ∨ k_z = 5 by omega) with rfl | rfl | rfl | rfl | rfl | rfl <;> rfl
  · refine (if_pos ⟨rfl, hk⟩ : _ = (0 : Int32)).trans ?_
    exact (if_neg (by omega)).symm
theorem c_X7_begin {g_z : z_U} {d_z : Nat} {zS : z_S} (hL : z_L zS) {w_z : Int32} : z_C g_z (d_z + 1) 0 0 mX7_begin [.ref 51, .int w_z] zS (fun r_z zS' => r_z = none ∧ z_up zS (z_sa (z_u2 (z_u2 (z_u2 (z_u2 (z_u2 (z_u2 (z_I zS) 51 0 0) 51 1 0) 51 2 0) 51 3 0) 51 4 w_z) 51 5 0) 53 6 (fun _ => 0)) = zS') := by
  refine z_enter [some (.ref 51), some (.int w_z)] rfl rfl (Nat.le_of_ble_eq_true rfl) rfl (fun zX hM_z => ?_)
  have hB_z : z_B g_z zX RX7 cX7_begin 2 := hM_z.1
  refine z_s 1 hB_z dX7_begin_0 rfl rfl ?_
  refine z_s 2 hB_z dX7_begin_1 rfl rfl ?_
  refine z_putI 5 hB_z fX7_20 (L51 (zS := zS) hL) dX7_begin_2 rfl rfl rfl ?_
  refine z_s 6 hB_z dX7_begin_5 rfl rfl ?_
  refine z_s 7 hB_z dX7_begin_6 rfl rfl ?_
  refine z_putI 10 hB_z fX7_24 (L51 (zS := zS) hL) dX7_begin_7 rfl rfl rfl ?_
  refine z_s 11 hB_z dX7_begin_10 rfl rfl ?_
  refine z_s 12 hB_z dX7_begin_11 rfl rfl ?_
  refine z_putI 15 hB_z fX7_27 (L51 (zS := zS) hL) dX7_begin_12 rfl rfl rfl ?_
  refine z_s 16 hB_z dX7_begin_15 rfl rfl ?_
  refine z_s 17 hB_z dX7_begin_16 rfl rfl ?_
  refine z_putI 20 hB_z fX7_30 (L51 (zS := zS) hL) dX7_begin_17 rfl rfl rfl ?_
  refine z_s 21 hB_z dX7_begin_20 rfl rfl ?_
  refine z_s 22 hB_z dX7_begin_21 rfl rfl ?_
  refine z_putI 25 hB_z fX7_33 (L51 (zS := zS) hL) dX7_begin_22 rfl rfl rfl ?_
  refine z_s 26 hB_z dX7_begin_25 rfl rfl ?_
  refine z_s 27 hB_z dX7_begin_26 rfl rfl ?_
  refine z_putI 30 hB_z fX7_36 (L51 (zS := zS) hL) dX7_begin_27 rfl rfl rfl ?_
  refine z_s 31 hB_z dX7_begin_30 rfl rfl ?_
  refine z_getR 34 hB_z fX7_14 (L51 (zS := zS) hL) dX7_begin_31 rfl rfl (r51_6 (zS := zS) hL) ?_
  refine z_s 35 hB_z dX7_begin_34 rfl rfl ?_
  refine z_callV 38 hB_z hM_z.2.1 kX7_39 dX7_begin_35 rfl (L52 (zS := zS) hL) rfl (by refine c_X3_fill (d_z := 0) (o := 52) (a_z := 53) (n_z := 6) (v_z := 0) ?_ (by decide); exact w52 (zS := zS) hL) (by omega) rfl rfl (Nat.le_of_ble_eq_true rfl) ⟨Nat.le_refl _, Nat.le_refl _⟩ ?_
  rintro _ _ ⟨rfl, rfl⟩
  refine z_vret hM_z dX7_begin_38 rfl ?_ rfl rfl
  exact ⟨rfl, rfl⟩

def z_layA (A_z : z_Ab) (D_z : z_Dr) : z_Ab := (D_z.1, z_T0 D_z.2, ((z_AU A_z).1, 0), ((z_AK A_z).1, 0), ((z_AS A_z).1, (z_AS A_z).2.1, (z_AS A_z).2.2.1, 0), z_AX A_z)
def z_PO : Nat → Prop := fun x_z => (7 ≤ x_z ∧ x_z < 26) ∨ x_z = 51 ∨ x_z = 53 ∨ x_z = 57 ∨ x_z = 83 ∨ x_z = 91
theorem z_shelf.nil {zS : z_S} {zI' : Nat → Nat → Int32} {f_z a_z N_z b_z u_z : Nat} {U_z : Nat → Nat → Int32} (h_z : z_shelf zS f_z a_z N_z b_z U_z u_z) (h0 : zI' f_z 1 = 0) : z_shelf (z_up zS zI') f_z a_z N_z b_z U_z 0 := by
  obtain ⟨r_z, hs, hz, hu, hU⟩ := h_z
  exact ⟨r_z, hs, h0, Nat.zero_le _, fun j_z hj => absurd hj (Nat.not_lt_zero j_z)⟩
set_option maxHeartbeats 1000000 in
theorem c_X9_openDraft {g_z : z_U} {d_z : Nat} {zS : z_S} {A_z : z_Ab} (hC : z_RC zS A_z) {D_z : z_Dr} (hD : z_rD (z_I zS) D_z) : z_C g_z (d_z + 3) 0 0 mX9_openDraft [.ref 4] zS (fun r_z zS' => r_z = none ∧ z_RC zS' (z_layA A_z D_z) ∧ z_kM zS zS') := by
  refine z_enter [some (.ref 4)] rfl rfl (Nat.le_of_ble_eq_true rfl) rfl (fun zX hM_z => ?_)
  have hB_z : z_B g_z zX RX9 cX9_openDraft 1 := hM_z.1
  obtain ⟨hL, hV, hT_z, hU, hK_z, hS_z, hX⟩ := id hC
  have hn : z_I zS 7 9 = nI (z_AV A_z).2.1 := hV.2.1
  have hm_z : z_I zS 7 10 = nI (z_AV A_z).2.2.1 := hV.2.2.1
  have hn6 := hV.2.2.2.2.1
  have hm10 := hV.2.2.2.2.2
  refine z_s 1 hB_z dX9_openDraft_0 rfl rfl ?_
  refine z_getR 4 hB_z fX9_19 (L4_z (zS := zS) hL) dX9_openDraft_1 rfl rfl (r4_1 (zS := zS) hL) ?_
  refine z_s 5 hB_z dX9_openDraft_4 rfl rfl ?_
  refine z_getR 8 hB_z fX9_23 (L4_z (zS := zS) hL) dX9_openDraft_5 rfl rfl (r4_2 (zS := zS) hL) ?_
  refine z_callV 11 hB_z hM_z.2.1 kX9_293 dX9_openDraft_8 rfl (L7 (zS := zS) hL) rfl (c_X5_copy (d_z := 0) hL) (by omega) rfl rfl (Nat.le_of_ble_eq_true rfl) ⟨Nat.le_refl _, Nat.le_refl _⟩ ?_
  rintro _ _ ⟨rfl, I1, rfl, hf1, hV1, hq1⟩
  refine z_s 12 hB_z dX9_openDraft_11 rfl rfl ?_
  refine z_getR 15 hB_z fX9_47 (L4_z (zS := zS) hL) dX9_openDraft_12 rfl rfl (r4_5 (zS := zS) hL) ?_
  refine z_s 16 hB_z dX9_openDraft_15 rfl rfl ?_
  refine z_getR 19 hB_z fX9_19 (L4_z (zS := zS) hL) dX9_openDraft_16 rfl rfl (r4_1 (zS := zS) hL) ?_
  refine z_getI 22 hB_z fX9_295 (L7 (zS := zS) hL) dX9_openDraft_19 rfl rfl ?_
  refine z_callV 25 hB_z hM_z.2.1 kX9_296 dX9_openDraft_22 rfl (L51 (zS := zS) hL) rfl (c_X7_begin (zS := z_up zS I1) (d_z := 0) hL.up) (by omega) rfl rfl (Nat.le_of_ble_eq_true rfl) ⟨Nat.le_refl _, Nat.le_refl _⟩ ?_
  rintro _ _ ⟨rfl, rfl⟩
  refine z_s 26 hB_z dX9_openDraft_25 rfl rfl ?_
  refine z_getR 29 hB_z fX9_59 (L4_z (zS := zS) hL) dX9_openDraft_26 rfl rfl (r4_7 (zS := zS) hL) ?_
  refine z_callV 32 hB_z hM_z.2.1 kX9_289 dX9_openDraft_29 rfl (L57 (zS := zS) hL) rfl (c_X4_clear (d_z := 0) (L57 (zS := zS) hL)) (by omega) rfl rfl (Nat.le_of_ble_eq_true rfl) ⟨Nat.le_refl _, Nat.le_refl _⟩ ?_
  rintro _ _ ⟨rfl, rfl⟩
  refine z_s 33 hB_z dX9_openDraft_32 rfl rfl ?_
  refine z_getR 36 hB_z fX9_63 (L4_z (zS := zS) hL) dX9_openDraft_33 rfl rfl (r4_8 (zS := zS) hL) ?_
  refine z_callV 39 hB_z hM_z.2.1 kX9_289 dX9_openDraft_36 rfl (L83 (zS := zS) hL) rfl (c_X4_clear (d_z := 0) (L83 (zS := zS) hL)) (by omega) rfl rfl (Nat.le_of_ble_eq_true rfl) ⟨Nat.le_refl _, Nat.le_refl _⟩ ?_
  rintro _ _ ⟨rfl, rfl⟩
  refine z_s 40 hB_z dX9_openDraft_39 rfl rfl ?_
  refine z_getR 43 hB_z fX9_69 (L4_z (zS := zS) hL) dX9_openDraft_40 rfl rfl (r4_9 (zS := zS) hL) ?_
  refine z_callV 46 hB_z hM_z.2.1 kX9_260 dX9_openDraft_43 rfl (L91 (zS := zS) hL) rfl (c_X6_clear (zS := z_up zS (z_u2 (z_u2 (z_sa (z_u2 (z_u2 (z_u2 (z_u2 (z_u2 (z_u2 (I1) 51 0 0) 51 1 0) 51 2 0) 51 3 0) 51 4 (I1 7 11)) 51 5 0) 53 6 (fun _ => 0)) 57 1 0) 83 1 0)) (d_z := 0) hL.up) (by omega) rfl rfl (Nat.le_of_ble_eq_true rfl) ⟨Nat.le_refl _, Nat.le_refl _⟩ ?_
  rintro _ _ ⟨rfl, rfl⟩
  refine z_vret hM_z dX9_openDraft_46 rfl ?_ rfl rfl
  have hw : I1 7 11 = D_z.2 := hq1.trans hD.2
  have hf2 : z_fr (fun x_z => x_z = 51 ∨ x_z = 53 ∨ x_z = 57 ∨ x_z = 83 ∨ x_z = 91) I1 (z_u2 (z_u2 (z_u2 (z_sa (z_u2 (z_u2 (z_u2 (z_u2 (z_u2 (z_u2 (I1) 51 0 0) 51 1 0) 51 2 0) 51 3 0) 51 4 (I1 7 11)) 51 5 0) 53 6 (fun _ => 0)) 57 1 0) 83 1 0) 91 3 0) := ((((((((((z_fr.rf.u2 (by decide)).u2 (by decide)).u2 (by decide)).u2 (by decide)).u2 (by decide)).u2 (by decide)).sa (by decide)).u2 (by decide)).u2 (by decide)).u2 (by decide))
  have hf3 : z_fr z_PO (z_I zS) (z_u2 (z_u2 (z_u2 (z_sa (z_u2 (z_u2 (z_u2 (z_u2 (z_u2 (z_u2 (I1) 51 0 0) 51 1 0) 51 2 0) 51 3 0) 51 4 (I1 7 11)) 51 5 0) 53 6 (fun _ => 0)) 57 1 0) 83 1 0) 91 3 0) := (hf1.mono (fun x_z h_z => Or.inl h_z)).tr (hf2.mono (fun x_z h_z => Or.inr h_z))
  refine ⟨rfl, ?_, z_kM.up hf3 (fun x_z h_z z_z => by unfold z_PO at z_z; omega)⟩
  show z_RC (z_up zS (z_u2 (z_u2 (z_u2 (z_sa (z_u2 (z_u2 (z_u2 (z_u2 (z_u2 (z_u2 (I1) 51 0 0) 51 1 0) 51 2 0) 51 3 0) 51 4 (I1 7 11)) 51 5 0) 53 6 (fun _ => 0)) 57 1 0) 83 1 0) 91 3 0)) (z_layA A_z D_z)
  refine ⟨hL, (hV1 D_z.1 hD.1).fr hf2 (fun x_z a_z b_z => by omega), ?_, ?_, ?_, ?_, ?_⟩
  · have hT0 := z_T0_rT (zI := I1) (w_z := D_z.2)
    rw [← hw] at hT0
    show z_rT (z_u2 (z_u2 (z_u2 (z_sa (z_u2 (z_u2 (z_u2 (z_u2 (z_u2 (z_u2 (I1) 51 0 0) 51 1 0) 51 2 0) 51 3 0) 51 4 (I1 7 11)) 51 5 0) 53 6 (fun _ => 0)) 57 1 0) 83 1 0) 91 3 0) 51 (z_T0 D_z.2)
    rw [← hw]
    exact hT0.fr (P_z := fun x_z => x_z = 57 ∨ x_z = 83 ∨ x_z = 91) (((z_fr.rf.u2 (by decide)).u2 (by decide)).u2 (by decide)) ⟨by decide, by decide⟩
  · exact hU.nil ((z_u2_ne (Or.inl (by decide))).trans ((z_u2_ne (Or.inl (by decide))).trans (z_u2_same _ _ _ _)))
  · exact hK_z.nil ((z_u2_ne (Or.inl (by decide))).trans (z_u2_same _ _ _ _))
  · show z_rS (z_u2 (z_u2 (z_u2 (z_sa (z_u2 (z_u2 (z_u2 (z_u2 (z_u2 (z_u2 (I1) 51 0 0) 51 1 0) 51 2 0) 51 3 0) 51 4 (I1 7 11)) 51 5 0) 53 6 (fun _ => 0)) 57 1 0) 83 1 0) 91 3 0) (z_AS (z_layA A_z D_z))
    exact ⟨z_u2_same _ _ _ _, Nat.zero_le _, fun i_z hi_z => absurd hi_z (Nat.not_lt_zero i_z)⟩
  · exact hX.fr hf3 (by unfold z_PO; omega) (by unfold z_PO; omega)

def z_fault (q_z : (Nat → Int32) × Nat) (J_z : Nat → Nat → Int32) : Int32 := match (z_read q_z 200 (z_D0 J_z) 0).1 with
  | none => -4
  | some p_z => nI p_z
theorem z_fault_no {q_z : (Nat → Int32) × Nat} {J_z : Nat → Nat → Int32} (h_z : (z_read q_z 200 (z_D0 J_z) 0).1 = none) : z_fault q_z J_z = -4 := by unfold z_fault; rw [h_z]
theorem z_fault_so {q_z : (Nat → Int32) × Nat} {J_z : Nat → Nat → Int32} {p_z : Nat} (h_z : (z_read q_z 200 (z_D0 J_z) 0).1 = some p_z) : z_fault q_z J_z = nI p_z := by unfold z_fault; rw [h_z]
theorem z_scrR : ∀ x_z, (26 ≤ x_z ∧ x_z < 48) → z_scr x_z := fun x_z h_z => by
  unfold z_scr
  omega
theorem c_X9_fault {g_z : z_U} {d_z : Nat} {zS : z_S} {A_z : z_Ab} (hC : z_RC zS A_z) : z_C g_z (d_z + 6) 0 0 mX9_fault [.ref 4] zS (z_QP zS (z_fault (z_AX A_z) (z_J zS))) := by
  refine z_enter [some (.ref 4)] rfl rfl (Nat.le_of_ble_eq_true rfl) rfl (fun zX hM_z => ?_)
  have hB_z : z_B g_z zX RX9 cX9_fault 1 := hM_z.1
  obtain ⟨hL, hV, hT_z, hU, hK_z, hS_z, hX⟩ := id hC
  have hn : z_I zS 7 9 = nI (z_AV A_z).2.1 := hV.2.1
  have hm_z : z_I zS 7 10 = nI (z_AV A_z).2.2.1 := hV.2.2.1
  have hn6 := hV.2.2.2.2.1
  have hm10 := hV.2.2.2.2.2
  refine z_s 1 hB_z dX9_fault_0 rfl rfl ?_
  refine z_getR 4 hB_z fX9_31 (L4_z (zS := zS) hL) dX9_fault_1 rfl rfl (r4_3 (zS := zS) hL) ?_
  refine z_callV 7 hB_z hM_z.2.1 kX9_95 dX9_fault_4 rfl (L45 (zS := zS) hL) rfl (c_X2_read (d_z := 0) hL hX) (by omega) rfl rfl (Nat.le_of_ble_eq_true rfl) ⟨Nat.le_refl _, Nat.le_refl _⟩ ?_
  rintro _ _ ⟨v_z, rfl, I1, rfl, hf1, hz⟩
  refine z_iret hM_z dX9_fault_7 rfl ?_ rfl rfl
  refine ⟨?_, I1, rfl, hf1.mono z_scrR⟩
  rcases hz with ⟨p_z, h1, h2, h3⟩ | ⟨h1, h2, h3⟩
  · rw [h2, z_fault_so h1]
  · rw [h2, z_fault_no h1]

def z_lay (A_z : z_Ab) (J_z : Nat → Nat → Int32) : z_Ab × Int32 := if (z_read (z_AX A_z) 200 (z_D0 J_z) 0).1 = none ∧ ¬ (z_read (z_AX A_z) 200 (z_D0 J_z) 0).2.1.2.1 = 0 then (z_layA A_z (z_read (z_AX A_z) 200 (z_D0 J_z) 0).2, nI (z_read (z_AX A_z) 200 (z_D0 J_z) 0).2.1.2.1) else (A_z, -2)
theorem z_CP.ofF {zS : z_S} {A_z : z_Ab} {x_z : Int32} {q_z : z_Ab × Int32} {zI' : Nat → Nat → Int32} (hC : z_RC zS A_z) (hf : z_fr z_scr (z_I zS) zI') (h_z : q_z = (A_z, x_z)) : z_CP zS q_z (some (.int x_z)) (z_up zS zI') := by
  subst h_z
  exact ⟨rfl, hC.scr hf, z_kM.up hf (fun q_z hq z_z => by unfold z_scr at z_z; omega)⟩
theorem z_scr_kM {zS : z_S} {zI' : Nat → Nat → Int32} (hf : z_fr z_scr (z_I zS) zI') : z_kM zS (z_up zS zI') := z_kM.up hf (fun q_z hq z_z => by unfold z_scr at z_z; omega)
theorem z_fne {p_z : Nat} (h_z : p_z < 200) : ¬ nI p_z = -4 := by
  intro q_z
  have h1 : (0 : Int32) ≤ nI p_z := nI_pos' (by omega)
  rw [q_z] at h1
  exact absurd h1 (by decide)
theorem z_nI0 {n_z : Nat} (h_z : n_z < 2 ^ 31) (h0 : nI n_z = 0) : n_z = 0 := by
  have h1 : (nI n_z).toNatClampNeg = 0 := by rw [h0]; rfl
  rw [nI_clamp h_z] at h1
  exact h1
set_option maxHeartbeats 1000000 in
theorem c_X9_lay {g_z : z_U} {d_z : Nat} {zS : z_S} {A_z : z_Ab} (hC : z_RC zS A_z) : z_C g_z (d_z + 6) 0 0 mX9_lay [.ref 4] zS (z_CP zS (z_lay A_z (z_J zS))) := by
  refine z_enter [some (.ref 4)] rfl rfl (Nat.le_of_ble_eq_true rfl) rfl (fun zX hM_z => ?_)
  have hB_z : z_B g_z zX RX9 cX9_lay 1 := hM_z.1
  obtain ⟨hL, hV, hT_z, hU, hK_z, hS_z, hX⟩ := id hC
  have hn : z_I zS 7 9 = nI (z_AV A_z).2.1 := hV.2.1
  have hm_z : z_I zS 7 10 = nI (z_AV A_z).2.2.1 := hV.2.2.1
  have hn6 := hV.2.2.2.2.1
  have hm10 := hV.2.2.2.2.2
  refine z_s 1 hB_z dX9_lay_0 rfl rfl ?_
  refine z_getR 4 hB_z fX9_31 (L4_z (zS := zS) hL) dX9_lay_1 rfl rfl (r4_3 (zS := zS) hL) ?_
  refine z_callV 7 hB_z hM_z.2.1 kX9_95 dX9_lay_4 rfl (L45 (zS := zS) hL) rfl (c_X2_read (d_z := 0) hL hX) (by omega) rfl rfl (Nat.le_of_ble_eq_true rfl) ⟨Nat.le_refl _, Nat.le_refl _⟩ ?_
  rintro _ _ ⟨v_z, rfl, I1, rfl, hf1, hz⟩
  have hfs := hf1.mono z_scrR
  have hC1 := hC.scr hfs
  obtain ⟨hL1, hV1, hT1, hU1, hK1, hS1, hX1⟩ := id hC1
  refine z_s 9 hB_z dX9_lay_7 rfl rfl ?_
  refine z_b 12 22 hB_z dX9_lay_9 rfl rfl (by decide) (fun c_9 => ?_) (fun c_9 => ?_)
  ·
    have hno : ¬ (z_read (z_AX A_z) 200 (z_D0 (z_J zS)) 0).1 = none := hz.elim (fun z_z => by obtain ⟨p_z, h1, h2, h3⟩ := z_z; rw [h1]; intro q_z; cases q_z) (fun z_z => absurd z_z.2.1 c_9)
    refine z_s 24 hB_z dX9_lay_22 rfl rfl ?_
    refine z_iret hM_z dX9_lay_24 rfl ?_ rfl rfl
    exact z_CP.ofF hC hfs (if_neg (fun q_z => hno q_z.1))
  ·
    have hyes : (z_read (z_AX A_z) 200 (z_D0 (z_J zS)) 0).1 = none ∧ z_rD I1 (z_read (z_AX A_z) 200 (z_D0 (z_J zS)) 0).2 := hz.elim (fun z_z => by obtain ⟨p_z, h1, h2, h3⟩ := z_z; exact absurd (h2.symm.trans c_9) (z_fne h3)) (fun z_z => ⟨z_z.1, z_z.2.2⟩)
    have hD := hyes.2
    have hDn : I1 26 9 = nI (z_read (z_AX A_z) 200 (z_D0 (z_J zS)) 0).2.1.2.1 := hD.1.2.1
    have hDn6 := hD.1.2.2.2.2.1
    refine z_s 13 hB_z dX9_lay_12 rfl rfl ?_
    refine z_getR 16 hB_z fX9_23 (L4_z (zS := zS) hL) dX9_lay_13 rfl rfl (r4_2 (zS := zS) hL) ?_
    refine z_getI 19 hB_z fX9_107 (L26 (zS := z_up zS I1) hL1) dX9_lay_16 rfl rfl ?_
    rw [show z_I (z_up zS I1) 26 9 = nI (z_read (z_AX A_z) 200 (z_D0 (z_J zS)) 0).2.1.2.1 from hDn]
    refine z_b 22 25 hB_z dX9_lay_19 rfl rfl (by decide) (fun c_19 => ?_) (fun c_19 => ?_)
    ·
      refine z_s 26 hB_z dX9_lay_25 rfl rfl ?_
      refine z_callV 29 hB_z hM_z.2.1 kX9_98 dX9_lay_26 rfl (L4_z (zS := zS) hL) rfl (c_X9_openDraft (zS := z_up zS I1) (d_z := 0) hC1 hD) (by omega) rfl rfl (Nat.le_of_ble_eq_true rfl) ⟨Nat.le_refl _, Nat.le_refl _⟩ ?_
      rintro _ S2 ⟨rfl, hC2, hkM2⟩
      obtain ⟨hL2, hV2, hT2, hU2, hK2, hS2, hX2⟩ := id hC2
      refine z_s 30 hB_z dX9_lay_29 rfl rfl ?_
      refine z_getR 33 hB_z fX9_19 (L4_z (zS := S2) hL2) dX9_lay_30 rfl rfl (r4_1 (zS := S2) hL2) ?_
      refine z_getI 36 hB_z fX9_107 (L7 (zS := S2) hL2) dX9_lay_33 rfl rfl ?_
      refine z_iret hM_z dX9_lay_36 rfl ?_ rfl rfl
      have e_z : z_lay A_z (z_J zS) = (z_layA A_z (z_read (z_AX A_z) 200 (z_D0 (z_J zS)) 0).2, nI (z_read (z_AX A_z) 200 (z_D0 (z_J zS)) 0).2.1.2.1) := if_pos ⟨hyes.1, fun q_z => c_19 (by rw [q_z]; rfl)⟩
      rw [e_z]
      exact ⟨congrArg (fun q_z => some (Value.int q_z)) hV2.2.1, hC2, (z_scr_kM hfs).tr hkM2⟩
    ·
      refine z_s 24 hB_z dX9_lay_22 rfl rfl ?_
      refine z_iret hM_z dX9_lay_24 rfl ?_ rfl rfl
      exact z_CP.ofF hC hfs (if_neg (fun q_z => q_z.2 (z_nI0 (by omega) c_19)))

