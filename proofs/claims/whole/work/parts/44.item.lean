/-! the reader: an item, the whole text -/
def z_itm (q_z : (Nat → Int32) × Nat) (many : Nat) (tk : z_Dr → (Nat → Int32) → Option z_Dr) (D_z : z_Dr) (p_z : Nat) : Option (z_Dr × Nat) := match z_nms q_z many (p_z + 1) many with
  | none => none
  | some (f_z, p1_z) => match tk D_z f_z with
    | none => none
    | some D_z' => some (D_z', p1_z)
theorem z_itm_no {q_z : (Nat → Int32) × Nat} {many : Nat} {tk : z_Dr → (Nat → Int32) → Option z_Dr} {D_z : z_Dr} {p_z : Nat} (h_z : z_nms q_z many (p_z + 1) many = none) : z_itm q_z many tk D_z p_z = none := by unfold z_itm; rw [h_z]
theorem z_itm_no2 {q_z : (Nat → Int32) × Nat} {many : Nat} {tk : z_Dr → (Nat → Int32) → Option z_Dr} {D_z : z_Dr} {p_z : Nat} {f_z : Nat → Int32} {p1_z : Nat} (h_z : z_nms q_z many (p_z + 1) many = some (f_z, p1_z)) (h2 : tk D_z f_z = none) : z_itm q_z many tk D_z p_z = none := by unfold z_itm; rw [h_z]; show (match tk D_z f_z with | none => none | some D_z' => some (D_z', p1_z)) = none; rw [h2]
theorem z_itm_so {q_z : (Nat → Int32) × Nat} {many : Nat} {tk : z_Dr → (Nat → Int32) → Option z_Dr} {D_z : z_Dr} {p_z : Nat} {f_z : Nat → Int32} {p1_z : Nat} {D_z' : z_Dr} (h_z : z_nms q_z many (p_z + 1) many = some (f_z, p1_z)) (h2 : tk D_z f_z = some D_z') : z_itm q_z many tk D_z p_z = some (D_z', p1_z) := by unfold z_itm; rw [h_z]; show (match tk D_z f_z with | none => none | some D_z' => some (D_z', p1_z)) = some (D_z', p1_z); rw [h2]
def z_item (q_z : (Nat → Int32) × Nat) (D_z : z_Dr) (p_z : Nat) : Option (z_Dr × Nat) :=
  if z_lt q_z p_z = 115 then z_itm q_z 4 z_tkS D_z p_z else if z_lt q_z p_z = 113 then z_itm q_z 2 z_tkQ D_z p_z else if z_lt q_z p_z = 99 then z_itm q_z 4 z_tkC D_z p_z else if z_lt q_z p_z = 104 then z_itm q_z 1 z_tkH D_z p_z else none
theorem z_item_s {q_z : (Nat → Int32) × Nat} {D_z : z_Dr} {p_z : Nat} (h_z : z_lt q_z p_z = 115) : z_item q_z D_z p_z = z_itm q_z 4 z_tkS D_z p_z := if_pos h_z
theorem z_item_q {q_z : (Nat → Int32) × Nat} {D_z : z_Dr} {p_z : Nat} (h_z : z_lt q_z p_z = 113) : z_item q_z D_z p_z = z_itm q_z 2 z_tkQ D_z p_z := (if_neg (by rw [h_z]; decide)).trans (if_pos h_z)
theorem z_item_c {q_z : (Nat → Int32) × Nat} {D_z : z_Dr} {p_z : Nat} (h_z : z_lt q_z p_z = 99) : z_item q_z D_z p_z = z_itm q_z 4 z_tkC D_z p_z := (if_neg (by rw [h_z]; decide)).trans ((if_neg (by rw [h_z]; decide)).trans (if_pos h_z))
theorem z_item_h {q_z : (Nat → Int32) × Nat} {D_z : z_Dr} {p_z : Nat} (h_z : z_lt q_z p_z = 104) : z_item q_z D_z p_z = z_itm q_z 1 z_tkH D_z p_z := (if_neg (by rw [h_z]; decide)).trans ((if_neg (by rw [h_z]; decide)).trans ((if_neg (by rw [h_z]; decide)).trans (if_pos h_z)))
theorem z_rD.fr {P_z : Nat → Prop} {zI zI' : Nat → Nat → Int32} {D_z : z_Dr} (h_z : z_rD zI D_z) (hf : z_fr P_z zI zI') (hP : ∀ q_z, 26 ≤ q_z → q_z < 45 → ¬ P_z q_z) : z_rD zI' D_z :=
  ⟨h_z.1.fr hf (fun q_z h1 h2 => hP q_z h1 (by omega)), (hf 26 11 (hP 26 (by decide) (by decide))).trans h_z.2⟩
set_option maxHeartbeats 2000000 in
theorem c_X2_readItem {g_z : z_U} {d_z : Nat} {zS : z_S} {D_z : z_Dr} {q_z : (Nat → Int32) × Nat} {p_z : Nat} (hL : z_L zS) (hX : z_rX (z_I zS) q_z) (hD : z_rD (z_I zS) D_z) (hp : p_z < q_z.2) (hpl : z_I zS 45 3 = nI p_z) : z_C g_z (d_z + 4) 0 0 mX2_readItem [.ref 45] zS (fun r_z zS' => ∃ v_z : Int32, r_z = some (.int v_z) ∧ ∃ zI', z_up zS zI' = zS' ∧ z_fr (fun x_z => 26 ≤ x_z ∧ x_z < 48) (z_I zS) zI' ∧ (v_z = 0 ∧ z_item q_z D_z p_z = none ∨ v_z = 1 ∧ ∃ D_z' p_z', z_item q_z D_z p_z = some (D_z', p_z') ∧ z_rD zI' D_z' ∧ zI' 45 3 = nI p_z' ∧ p_z < p_z' ∧ p_z' ≤ q_z.2)) := by
  refine z_enter [some (.ref 45), none] rfl rfl (Nat.le_of_ble_eq_true rfl) rfl (fun zX hM_z => ?_)
  have hB_z : z_B g_z zX RX2 cX2_readItem 2 := hM_z.1
  have hx := hX.1
  have h200 := hX.2.1
  have hf0 : z_fr (fun x_z => 26 ≤ x_z ∧ x_z < 48) (z_I zS) (z_u2 (z_I zS) 45 3 (nI (p_z + 1))) := z_fr.rf.u2 (by decide)
  have hX0 : z_rX (z_u2 (z_I zS) 45 3 (nI (p_z + 1))) q_z := hX.fr hf0 (by decide) (by decide)
  have hD0 : z_rD (z_u2 (z_I zS) 45 3 (nI (p_z + 1))) D_z := hD.fr (z_fr.u2 (P_z := fun x_z => x_z = 45) z_fr.rf rfl) (fun a_z h1 h2 h3 => by omega)
  refine z_s 1 hB_z dX2_readItem_0 rfl rfl ?_
  refine z_getR 4 hB_z fX2_20 (L45 (zS := zS) hL) dX2_readItem_1 rfl rfl (r45_0 (zS := zS) hL) ?_
  refine z_s 5 hB_z dX2_readItem_4 rfl rfl ?_
  refine z_getI 8 hB_z fX2_33 (L45 (zS := zS) hL) dX2_readItem_5 rfl rfl ?_
  rw [hpl]
  refine z_callV 11 hB_z hM_z.2.1 kX2_46 dX2_readItem_8 rfl (L5_z (zS := zS) hL) rfl (c_X8_letter (d_z := 0) hL hX (by omega)) (by omega) rfl rfl (Nat.le_of_ble_eq_true rfl) ⟨Nat.le_refl _, Nat.le_refl _⟩ ?_
  rintro _ _ ⟨rfl, rfl⟩
  refine z_s 12 hB_z dX2_readItem_11 rfl rfl ?_
  refine z_s 13 hB_z dX2_readItem_12 rfl rfl ?_
  refine z_s 14 hB_z dX2_readItem_13 rfl rfl ?_
  refine z_getI 17 hB_z fX2_33 (L45 (zS := zS) hL) dX2_readItem_14 rfl rfl ?_
  refine z_s 18 hB_z dX2_readItem_17 rfl rfl ?_
  refine z_s 19 hB_z dX2_readItem_18 rfl rfl ?_
  rw [hpl, z_inc]
  refine z_putI 22 hB_z fX2_33 (L45 (zS := zS) hL) dX2_readItem_19 rfl rfl rfl ?_
  refine z_s 23 hB_z dX2_readItem_22 rfl rfl ?_
  by_cases hw99 : z_lt q_z p_z = 99
  · rw [hw99]
    refine z_lsw hB_z dX2_readItem_23 106 (by decide) (by decide) ?_
    refine z_s 107 hB_z dX2_readItem_106 rfl rfl ?_
    refine z_s 108 hB_z dX2_readItem_107 rfl rfl ?_
    refine z_callV 111 hB_z hM_z.2.1 kX2_50 dX2_readItem_108 rfl (L45 (zS := zS) hL) rfl (c_X2_readNumbers (zS := z_pI zS 45 3 (nI (p_z + 1))) (d_z := 0) (many := 4) hL.pI hX0 (p_z := p_z + 1) (by omega) (by decide) z_Ieq) (by omega) rfl rfl (Nat.le_of_ble_eq_true rfl) ⟨Nat.le_refl _, Nat.le_refl _⟩ ?_
    rintro _ _ ⟨v_z, rfl, I1, rfl, hf1, hz1⟩
    refine z_b 114 125 hB_z dX2_readItem_111 rfl rfl (by decide) (fun c_111 => ?_) (fun c_111 => ?_)
    ·
      have hno : z_nms q_z 4 (p_z + 1) 4 = none := hz1.elim (fun z_z => z_z.2) (fun z_z => absurd (z_z.1.symm.trans c_111) (by decide))
      refine z_s 126 hB_z dX2_readItem_125 rfl rfl ?_
      refine z_zret hM_z dX2_readItem_126 rfl (by decide) ?_ rfl rfl
      exact ⟨0, rfl, I1, rfl, hf0.tr (hf1.mono (fun x_z h_z => show 26 ≤ x_z ∧ x_z < 48 by omega)), Or.inl ⟨rfl, (z_item_c hw99).trans (z_itm_no hno)⟩⟩
    ·
      obtain ⟨f_z, p1_z, hn1, hpl1, hv1⟩ := hz1.elim (fun z_z => absurd z_z.1 c_111) (fun z_z => z_z.2)
      have hk1 := z_nms_le (show p_z + 1 ≤ q_z.2 by omega) 4 f_z p1_z hn1
      have hD1 : z_rD I1 D_z := hD0.fr hf1 (fun a_z h1 h2 h3 => by omega)
      have hf1' := hf0.tr (hf1.mono (fun x_z h_z => show 26 ≤ x_z ∧ x_z < 48 by omega))
      refine z_s 115 hB_z dX2_readItem_114 rfl rfl ?_
      refine z_callV 118 hB_z hM_z.2.1 kX2_60 dX2_readItem_115 rfl (L45 (zS := zS) hL) rfl (c_X2_takeCustomer (zS := z_up (z_pI zS 45 3 (nI (p_z + 1))) I1) (d_z := 0) hL.pI.up hD1 hv1) (by omega) rfl rfl (Nat.le_of_ble_eq_true rfl) ⟨Nat.le_refl _, Nat.le_refl _⟩ ?_
      rintro _ _ ⟨v2, rfl, I2_z, rfl, hf2, hz2⟩
      refine z_b 121 125 hB_z dX2_readItem_118 rfl rfl (by decide) (fun c_118 => ?_) (fun c_118 => ?_)
      ·
        have hno2 : z_tkC D_z f_z = none := hz2.elim (fun z_z => z_z.2) (fun z_z => absurd (z_z.1.symm.trans c_118) (by decide))
        refine z_s 126 hB_z dX2_readItem_125 rfl rfl ?_
        refine z_zret hM_z dX2_readItem_126 rfl (by decide) ?_ rfl rfl
        exact ⟨0, rfl, I2_z, rfl, hf1'.tr (hf2.mono (fun x_z h_z => show 26 ≤ x_z ∧ x_z < 48 by omega)), Or.inl ⟨rfl, (z_item_c hw99).trans (z_itm_no2 hn1 hno2)⟩⟩
      ·
        obtain ⟨D_z', hso, hD2⟩ := hz2.elim (fun z_z => absurd z_z.1 c_118) (fun z_z => z_z.2)
        refine z_s 122 hB_z dX2_readItem_121 rfl rfl ?_
        refine z_j 126 hB_z dX2_readItem_122 (by decide) ?_
        refine z_zret hM_z dX2_readItem_126 rfl (by decide) ?_ rfl rfl
        exact ⟨1, rfl, I2_z, rfl, hf1'.tr (hf2.mono (fun x_z h_z => show 26 ≤ x_z ∧ x_z < 48 by omega)), Or.inr ⟨rfl, D_z', p1_z, (z_item_c hw99).trans (z_itm_so hn1 hso), hD2, (hf2 45 3 (by decide)).trans hpl1, by omega, hk1.2⟩⟩
  by_cases hw104 : z_lt q_z p_z = 104
  · rw [hw104]
    refine z_lsw hB_z dX2_readItem_23 127 (by decide) (by decide) ?_
    refine z_s 128 hB_z dX2_readItem_127 rfl rfl ?_
    refine z_s 129 hB_z dX2_readItem_128 rfl rfl ?_
    refine z_callV 132 hB_z hM_z.2.1 kX2_50 dX2_readItem_129 rfl (L45 (zS := zS) hL) rfl (c_X2_readNumbers (zS := z_pI zS 45 3 (nI (p_z + 1))) (d_z := 0) (many := 1) hL.pI hX0 (p_z := p_z + 1) (by omega) (by decide) z_Ieq) (by omega) rfl rfl (Nat.le_of_ble_eq_true rfl) ⟨Nat.le_refl _, Nat.le_refl _⟩ ?_
    rintro _ _ ⟨v_z, rfl, I1, rfl, hf1, hz1⟩
    refine z_b 135 146 hB_z dX2_readItem_132 rfl rfl (by decide) (fun c_132 => ?_) (fun c_132 => ?_)
    ·
      have hno : z_nms q_z 1 (p_z + 1) 1 = none := hz1.elim (fun z_z => z_z.2) (fun z_z => absurd (z_z.1.symm.trans c_132) (by decide))
      refine z_s 147 hB_z dX2_readItem_146 rfl rfl ?_
      refine z_zret hM_z dX2_readItem_147 rfl (by decide) ?_ rfl rfl
      exact ⟨0, rfl, I1, rfl, hf0.tr (hf1.mono (fun x_z h_z => show 26 ≤ x_z ∧ x_z < 48 by omega)), Or.inl ⟨rfl, (z_item_h hw104).trans (z_itm_no hno)⟩⟩
    ·
      obtain ⟨f_z, p1_z, hn1, hpl1, hv1⟩ := hz1.elim (fun z_z => absurd z_z.1 c_132) (fun z_z => z_z.2)
      have hk1 := z_nms_le (show p_z + 1 ≤ q_z.2 by omega) 1 f_z p1_z hn1
      have hD1 : z_rD I1 D_z := hD0.fr hf1 (fun a_z h1 h2 h3 => by omega)
      have hf1' := hf0.tr (hf1.mono (fun x_z h_z => show 26 ≤ x_z ∧ x_z < 48 by omega))
      refine z_s 136 hB_z dX2_readItem_135 rfl rfl ?_
      refine z_callV 139 hB_z hM_z.2.1 kX2_63 dX2_readItem_136 rfl (L45 (zS := zS) hL) rfl (c_X2_takeDog (zS := z_up (z_pI zS 45 3 (nI (p_z + 1))) I1) (d_z := 0) hL.pI.up hD1 hv1) (by omega) rfl rfl (Nat.le_of_ble_eq_true rfl) ⟨Nat.le_refl _, Nat.le_refl _⟩ ?_
      rintro _ _ ⟨v2, rfl, I2_z, rfl, hf2, hz2⟩
      refine z_b 142 146 hB_z dX2_readItem_139 rfl rfl (by decide) (fun c_139 => ?_) (fun c_139 => ?_)
      ·
        have hno2 : z_tkH D_z f_z = none := hz2.elim (fun z_z => z_z.2) (fun z_z => absurd (z_z.1.symm.trans c_139) (by decide))
        refine z_s 147 hB_z dX2_readItem_146 rfl rfl ?_
        refine z_zret hM_z dX2_readItem_147 rfl (by decide) ?_ rfl rfl
        exact ⟨0, rfl, I2_z, rfl, hf1'.tr (hf2.mono (fun x_z h_z => show 26 ≤ x_z ∧ x_z < 48 by omega)), Or.inl ⟨rfl, (z_item_h hw104).trans (z_itm_no2 hn1 hno2)⟩⟩
      ·
        obtain ⟨D_z', hso, hD2⟩ := hz2.elim (fun z_z => absurd z_z.1 c_139) (fun z_z => z_z.2)
        refine z_s 143 hB_z dX2_readItem_142 rfl rfl ?_
        refine z_j 147 hB_z dX2_readItem_143 (by decide) ?_
        refine z_zret hM_z dX2_readItem_147 rfl (by decide) ?_ rfl rfl
        exact ⟨1, rfl, I2_z, rfl, hf1'.tr (hf2.mono (fun x_z h_z => show 26 ≤ x_z ∧ x_z < 48 by omega)), Or.inr ⟨rfl, D_z', p1_z, (z_item_h hw104).trans (z_itm_so hn1 hso), hD2, (hf2 45 3 (by decide)).trans hpl1, by omega, hk1.2⟩⟩
  by_cases hw113 : z_lt q_z p_z = 113
  · rw [hw113]
    refine z_lsw hB_z dX2_readItem_23 85 (by decide) (by decide) ?_
    refine z_s 86 hB_z dX2_readItem_85 rfl rfl ?_
    refine z_s 87 hB_z dX2_readItem_86 rfl rfl ?_
    refine z_callV 90 hB_z hM_z.2.1 kX2_50 dX2_readItem_87 rfl (L45 (zS := zS) hL) rfl (c_X2_readNumbers (zS := z_pI zS 45 3 (nI (p_z + 1))) (d_z := 0) (many := 2) hL.pI hX0 (p_z := p_z + 1) (by omega) (by decide) z_Ieq) (by omega) rfl rfl (Nat.le_of_ble_eq_true rfl) ⟨Nat.le_refl _, Nat.le_refl _⟩ ?_
    rintro _ _ ⟨v_z, rfl, I1, rfl, hf1, hz1⟩
    refine z_b 93 104 hB_z dX2_readItem_90 rfl rfl (by decide) (fun c_90 => ?_) (fun c_90 => ?_)
    ·
      have hno : z_nms q_z 2 (p_z + 1) 2 = none := hz1.elim (fun z_z => z_z.2) (fun z_z => absurd (z_z.1.symm.trans c_90) (by decide))
      refine z_s 105 hB_z dX2_readItem_104 rfl rfl ?_
      refine z_zret hM_z dX2_readItem_105 rfl (by decide) ?_ rfl rfl
      exact ⟨0, rfl, I1, rfl, hf0.tr (hf1.mono (fun x_z h_z => show 26 ≤ x_z ∧ x_z < 48 by omega)), Or.inl ⟨rfl, (z_item_q hw113).trans (z_itm_no hno)⟩⟩
    ·
      obtain ⟨f_z, p1_z, hn1, hpl1, hv1⟩ := hz1.elim (fun z_z => absurd z_z.1 c_90) (fun z_z => z_z.2)
      have hk1 := z_nms_le (show p_z + 1 ≤ q_z.2 by omega) 2 f_z p1_z hn1
      have hD1 : z_rD I1 D_z := hD0.fr hf1 (fun a_z h1 h2 h3 => by omega)
      have hf1' := hf0.tr (hf1.mono (fun x_z h_z => show 26 ≤ x_z ∧ x_z < 48 by omega))
      refine z_s 94 hB_z dX2_readItem_93 rfl rfl ?_
      refine z_callV 97 hB_z hM_z.2.1 kX2_57 dX2_readItem_94 rfl (L45 (zS := zS) hL) rfl (c_X2_takeQuarrel (zS := z_up (z_pI zS 45 3 (nI (p_z + 1))) I1) (d_z := 0) hL.pI.up hD1 hv1) (by omega) rfl rfl (Nat.le_of_ble_eq_true rfl) ⟨Nat.le_refl _, Nat.le_refl _⟩ ?_
      rintro _ _ ⟨v2, rfl, I2_z, rfl, hf2, hz2⟩
      refine z_b 100 104 hB_z dX2_readItem_97 rfl rfl (by decide) (fun c_97 => ?_) (fun c_97 => ?_)
      ·
        have hno2 : z_tkQ D_z f_z = none := hz2.elim (fun z_z => z_z.2) (fun z_z => absurd (z_z.1.symm.trans c_97) (by decide))
        refine z_s 105 hB_z dX2_readItem_104 rfl rfl ?_
        refine z_zret hM_z dX2_readItem_105 rfl (by decide) ?_ rfl rfl
        exact ⟨0, rfl, I2_z, rfl, hf1'.tr (hf2.mono (fun x_z h_z => show 26 ≤ x_z ∧ x_z < 48 by omega)), Or.inl ⟨rfl, (z_item_q hw113).trans (z_itm_no2 hn1 hno2)⟩⟩
      ·
        obtain ⟨D_z', hso, hD2⟩ := hz2.elim (fun z_z => absurd z_z.1 c_97) (fun z_z => z_z.2)
        refine z_s 101 hB_z dX2_readItem_100 rfl rfl ?_
        refine z_j 105 hB_z dX2_readItem_101 (by decide) ?_
        refine z_zret hM_z dX2_readItem_105 rfl (by decide) ?_ rfl rfl
        exact ⟨1, rfl, I2_z, rfl, hf1'.tr (hf2.mono (fun x_z h_z => show 26 ≤ x_z ∧ x_z < 48 by omega)), Or.inr ⟨rfl, D_z', p1_z, (z_item_q hw113).trans (z_itm_so hn1 hso), hD2, (hf2 45 3 (by decide)).trans hpl1, by omega, hk1.2⟩⟩
  by_cases hw115 : z_lt q_z p_z = 115
  · rw [hw115]
    refine z_lsw hB_z dX2_readItem_23 64 (by decide) (by decide) ?_
    refine z_s 65 hB_z dX2_readItem_64 rfl rfl ?_
    refine z_s 66 hB_z dX2_readItem_65 rfl rfl ?_
    refine z_callV 69 hB_z hM_z.2.1 kX2_50 dX2_readItem_66 rfl (L45 (zS := zS) hL) rfl (c_X2_readNumbers (zS := z_pI zS 45 3 (nI (p_z + 1))) (d_z := 0) (many := 4) hL.pI hX0 (p_z := p_z + 1) (by omega) (by decide) z_Ieq) (by omega) rfl rfl (Nat.le_of_ble_eq_true rfl) ⟨Nat.le_refl _, Nat.le_refl _⟩ ?_
    rintro _ _ ⟨v_z, rfl, I1, rfl, hf1, hz1⟩
    refine z_b 72 83 hB_z dX2_readItem_69 rfl rfl (by decide) (fun c_69 => ?_) (fun c_69 => ?_)
    ·
      have hno : z_nms q_z 4 (p_z + 1) 4 = none := hz1.elim (fun z_z => z_z.2) (fun z_z => absurd (z_z.1.symm.trans c_69) (by decide))
      refine z_s 84 hB_z dX2_readItem_83 rfl rfl ?_
      refine z_zret hM_z dX2_readItem_84 rfl (by decide) ?_ rfl rfl
      exact ⟨0, rfl, I1, rfl, hf0.tr (hf1.mono (fun x_z h_z => show 26 ≤ x_z ∧ x_z < 48 by omega)), Or.inl ⟨rfl, (z_item_s hw115).trans (z_itm_no hno)⟩⟩
    ·
      obtain ⟨f_z, p1_z, hn1, hpl1, hv1⟩ := hz1.elim (fun z_z => absurd z_z.1 c_69) (fun z_z => z_z.2)
      have hk1 := z_nms_le (show p_z + 1 ≤ q_z.2 by omega) 4 f_z p1_z hn1
      have hD1 : z_rD I1 D_z := hD0.fr hf1 (fun a_z h1 h2 h3 => by omega)
      have hf1' := hf0.tr (hf1.mono (fun x_z h_z => show 26 ≤ x_z ∧ x_z < 48 by omega))
      refine z_s 73 hB_z dX2_readItem_72 rfl rfl ?_
      refine z_callV 76 hB_z hM_z.2.1 kX2_54 dX2_readItem_73 rfl (L45 (zS := zS) hL) rfl (c_X2_takeStaff (zS := z_up (z_pI zS 45 3 (nI (p_z + 1))) I1) (d_z := 0) hL.pI.up hD1 hv1) (by omega) rfl rfl (Nat.le_of_ble_eq_true rfl) ⟨Nat.le_refl _, Nat.le_refl _⟩ ?_
      rintro _ _ ⟨v2, rfl, I2_z, rfl, hf2, hz2⟩
      refine z_b 79 83 hB_z dX2_readItem_76 rfl rfl (by decide) (fun c_76 => ?_) (fun c_76 => ?_)
      ·
        have hno2 : z_tkS D_z f_z = none := hz2.elim (fun z_z => z_z.2) (fun z_z => absurd (z_z.1.symm.trans c_76) (by decide))
        refine z_s 84 hB_z dX2_readItem_83 rfl rfl ?_
        refine z_zret hM_z dX2_readItem_84 rfl (by decide) ?_ rfl rfl
        exact ⟨0, rfl, I2_z, rfl, hf1'.tr (hf2.mono (fun x_z h_z => show 26 ≤ x_z ∧ x_z < 48 by omega)), Or.inl ⟨rfl, (z_item_s hw115).trans (z_itm_no2 hn1 hno2)⟩⟩
      ·
        obtain ⟨D_z', hso, hD2⟩ := hz2.elim (fun z_z => absurd z_z.1 c_76) (fun z_z => z_z.2)
        refine z_s 80 hB_z dX2_readItem_79 rfl rfl ?_
        refine z_j 84 hB_z dX2_readItem_80 (by decide) ?_
        refine z_zret hM_z dX2_readItem_84 rfl (by decide) ?_ rfl rfl
        exact ⟨1, rfl, I2_z, rfl, hf1'.tr (hf2.mono (fun x_z h_z => show 26 ≤ x_z ∧ x_z < 48 by omega)), Or.inr ⟨rfl, D_z', p1_z, (z_item_s hw115).trans (z_itm_so hn1 hso), hD2, (hf2 45 3 (by decide)).trans hpl1, by omega, hk1.2⟩⟩
  refine z_lsw hB_z dX2_readItem_23 148 (by decide) (by
    show (23 : Int) + Op.lookupswitch.offset [(99, 83), (104, 104), (113, 62), (115, 41)] 125 (z_lt q_z p_z).toInt = 148
    rw [Op.lookupswitch.offset_cons, if_neg (fun z_z : (99 : Int) = (z_lt q_z p_z).toInt => hw99 (Int32.toInt_inj.mp (z_z.symm.trans (show (99 : Int) = (99 : Int32).toInt by decide))))]
    rw [Op.lookupswitch.offset_cons, if_neg (fun z_z : (104 : Int) = (z_lt q_z p_z).toInt => hw104 (Int32.toInt_inj.mp (z_z.symm.trans (show (104 : Int) = (104 : Int32).toInt by decide))))]
    rw [Op.lookupswitch.offset_cons, if_neg (fun z_z : (113 : Int) = (z_lt q_z p_z).toInt => hw113 (Int32.toInt_inj.mp (z_z.symm.trans (show (113 : Int) = (113 : Int32).toInt by decide))))]
    rw [Op.lookupswitch.offset_cons, if_neg (fun z_z : (115 : Int) = (z_lt q_z p_z).toInt => hw115 (Int32.toInt_inj.mp (z_z.symm.trans (show (115 : Int) = (115 : Int32).toInt by decide))))]
    rfl) ?_
  refine z_s 149 hB_z dX2_readItem_148 rfl rfl ?_
  refine z_zret hM_z dX2_readItem_149 rfl (by decide) ?_ rfl rfl
  exact ⟨0, rfl, _, rfl, hf0, Or.inl ⟨rfl, (if_neg hw115).trans ((if_neg hw113).trans ((if_neg hw99).trans (if_neg hw104)))⟩⟩

theorem c_X5_clear {g_z : z_U} {d_z : Nat} {zS : z_S} (hL : z_L zS) : z_C g_z (d_z + 1) 0 0 mX5_clear [.ref 26] zS (fun r_z zS' => r_z = none ∧ z_up zS (z_u2 (z_u2 (z_u2 (z_u2 (z_sa (z_I zS) 44 6 (fun _ => 0)) 26 9 0) 26 10 0) 26 11 0) 26 12 0) = zS') := by
  refine z_enter [some (.ref 26)] rfl rfl (Nat.le_of_ble_eq_true rfl) rfl (fun zX hM_z => ?_)
  have hB_z : z_B g_z zX RX5 cX5_clear 1 := hM_z.1
  refine z_s 1 hB_z dX5_clear_0 rfl rfl ?_
  refine z_getR 4 hB_z fX5_41 (L26 (zS := zS) hL) dX5_clear_1 rfl rfl (r26_8 (zS := zS) hL) ?_
  refine z_s 5 hB_z dX5_clear_4 rfl rfl ?_
  refine z_callV 8 hB_z hM_z.2.1 kX5_44 dX5_clear_5 rfl (L43 (zS := zS) hL) rfl (c_X3_fill (d_z := 0) (w43 hL) (by decide)) (by omega) rfl rfl (Nat.le_of_ble_eq_true rfl) ⟨Nat.le_refl _, Nat.le_refl _⟩ ?_
  rintro _ _ ⟨rfl, rfl⟩
  refine z_s 9 hB_z dX5_clear_8 rfl rfl ?_
  refine z_s 10 hB_z dX5_clear_9 rfl rfl ?_
  refine z_putI 13 hB_z fX5_47 (L26 (zS := zS) hL) dX5_clear_10 rfl rfl rfl ?_
  refine z_s 14 hB_z dX5_clear_13 rfl rfl ?_
  refine z_s 15 hB_z dX5_clear_14 rfl rfl ?_
  refine z_putI 18 hB_z fX5_51 (L26 (zS := zS) hL) dX5_clear_15 rfl rfl rfl ?_
  refine z_s 19 hB_z dX5_clear_18 rfl rfl ?_
  refine z_s 20 hB_z dX5_clear_19 rfl rfl ?_
  refine z_putI 23 hB_z fX5_54 (L26 (zS := zS) hL) dX5_clear_20 rfl rfl rfl ?_
  refine z_s 24 hB_z dX5_clear_23 rfl rfl ?_
  refine z_s 25 hB_z dX5_clear_24 rfl rfl ?_
  refine z_putI 28 hB_z fX5_57 (L26 (zS := zS) hL) dX5_clear_25 rfl rfl rfl ?_
  refine z_vret hM_z dX5_clear_28 rfl ?_ rfl rfl
  exact ⟨rfl, rfl⟩

/-- the emptied draft -/
def z_D0 (J_z : Nat → Nat → Int32) : z_Dr := ((fun a_z b_z => if a_z = 8 then 0 else J_z a_z b_z, 0, 0, 0), 0)
def z_read (q_z : (Nat → Int32) × Nat) : Nat → z_Dr → Nat → Option Nat × z_Dr
  | 0, D_z, _ => (none, D_z)
  | k_z + 1, D_z, p_z => if p_z < q_z.2 then match z_item q_z D_z p_z with
      | none => (some p_z, D_z)
      | some (D_z', p_z') => z_read q_z k_z D_z' p_z'
    else (none, D_z)
def z_J (zS : z_S) : Nat → Nat → Int32 := fun a_z b_z => z_I zS (28 + 2 * a_z) b_z
theorem z_read_no {q_z : (Nat → Int32) × Nat} {k_z : Nat} {D_z : z_Dr} {p_z : Nat} (h_z : p_z < q_z.2) (h2 : z_item q_z D_z p_z = none) : z_read q_z (k_z + 1) D_z p_z = (some p_z, D_z) := by
  show (if p_z < q_z.2 then _ else _) = _
  rw [if_pos h_z, h2]
theorem z_read_so {q_z : (Nat → Int32) × Nat} {k_z : Nat} {D_z D_z' : z_Dr} {p_z p_z' : Nat} (h_z : p_z < q_z.2) (h2 : z_item q_z D_z p_z = some (D_z', p_z')) : z_read q_z (k_z + 1) D_z p_z = z_read q_z k_z D_z' p_z' := by
  show (if p_z < q_z.2 then _ else _) = _
  rw [if_pos h_z, h2]
theorem z_read_end {q_z : (Nat → Int32) × Nat} {k_z : Nat} {D_z : z_Dr} {p_z : Nat} (h_z : ¬ p_z < q_z.2) : z_read q_z k_z D_z p_z = (none, D_z) := by
  cases k_z with
  | zero => rfl
  | succ k_z => exact if_neg h_z
theorem z_D0_rD {zS : z_S} : z_rD (z_u2 (z_u2 (z_u2 (z_u2 (z_sa (z_I zS) 44 6 (fun _ => 0)) 26 9 0) 26 10 0) 26 11 0) 26 12 0) (z_D0 (z_J zS)) := by
  have a0_z : ∀ (zI : Nat → Nat → Int32) (o j_z : Nat) (x_z : Int32), zI o j_z = x_z → o = 26 → (if (9 : Nat) = 9 then (0 : Int32) else 0) = 0 := fun _ _ _ _ _ _ => rfl
  refine ⟨⟨fun a_z ha_z b_z hb_z => ?_, ?_, ?_, ?_, Nat.zero_le _, Nat.zero_le _⟩, ?_⟩
  · rw [z_u2_ne (Or.inl (by omega)), z_u2_ne (Or.inl (by omega)), z_u2_ne (Or.inl (by omega)), z_u2_ne (Or.inl (by omega))]
    show z_sa (z_I zS) 44 6 (fun _ => 0) (26 + 2 + 2 * a_z) b_z = if a_z = 8 then 0 else z_I zS (28 + 2 * a_z) b_z
    by_cases e_z : a_z = 8
    · rw [if_pos e_z, e_z]
      have hb6 : b_z < 6 := by rw [e_z] at hb_z; exact hb_z
      exact if_pos ⟨rfl, hb6⟩
    · rw [if_neg e_z, z_sa_off (show ¬ 26 + 2 + 2 * a_z = 44 by omega)]
  · rw [z_u2_ne (Or.inr (by decide)), z_u2_ne (Or.inr (by decide)), z_u2_ne (Or.inr (by decide)), z_u2_same]; rfl
  · rw [z_u2_ne (Or.inr (by decide)), z_u2_ne (Or.inr (by decide)), z_u2_same]; rfl
  · rw [z_u2_same]; rfl
  · rw [z_u2_ne (Or.inr (by decide)), z_u2_same]; rfl
set_option maxHeartbeats 1000000 in
theorem c_X2_read {g_z : z_U} {d_z : Nat} {zS : z_S} {q_z : (Nat → Int32) × Nat} (hL : z_L zS) (hX : z_rX (z_I zS) q_z) : z_C g_z (d_z + 5) 0 0 mX2_read [.ref 45] zS (fun r_z zS' => ∃ v_z : Int32, r_z = some (.int v_z) ∧ ∃ zI', z_up zS zI' = zS' ∧ z_fr (fun x_z => 26 ≤ x_z ∧ x_z < 48) (z_I zS) zI' ∧ ((∃ p_z, (z_read q_z 200 (z_D0 (z_J zS)) 0).1 = some p_z ∧ v_z = nI p_z ∧ p_z < 200) ∨ (z_read q_z 200 (z_D0 (z_J zS)) 0).1 = none ∧ v_z = -4 ∧ z_rD zI' (z_read q_z 200 (z_D0 (z_J zS)) 0).2)) := by
  refine z_enter [some (.ref 45), none, none] rfl rfl (Nat.le_of_ble_eq_true rfl) rfl (fun zX hM_z => ?_)
  have hB_z : z_B g_z zX RX2 cX2_read 3 := hM_z.1
  have hx := hX.1
  have h200 := hX.2.1
  have loop := z_loop (fun i_z => ∀ I1 D_z p_z, z_fr (fun x_z => 26 ≤ x_z ∧ x_z < 48) (z_I zS) I1 → z_rD I1 D_z → I1 45 3 = nI p_z → p_z ≤ q_z.2 → z_read q_z 200 (z_D0 (z_J zS)) 0 = z_read q_z (200 - i_z) D_z p_z → z_W g_z zX 14 [some (.ref 45), some (.int (nI i_z)), none] [] 0 0 (z_up zS I1)) 200 (fun i_z hi_z ih_z I1 D_z p_z hf hD hpl hp hr => by
    refine z_s 15 hB_z dX2_read_14 rfl rfl ?_
    refine z_s 18 hB_z dX2_read_15 rfl rfl ?_
    refine z_b 21 55 hB_z dX2_read_18 rfl rfl (by decide) (fun c_18 => ?_) (fun c_18 => ?_)
    ·
      have hi2 : i_z = 200 := by
        have := (nI_leI (by omega) (by omega)).mp (show nI 200 ≤ nI i_z from c_18)
        omega
      refine z_s 57 hB_z dX2_read_55 rfl rfl ?_
      refine z_iret hM_z dX2_read_57 rfl ?_ rfl rfl
      have hk : z_read q_z (200 - i_z) D_z p_z = (none, D_z) := by rw [hi2]; rfl
      exact ⟨_, rfl, I1, rfl, hf, Or.inr ⟨by rw [hr, hk], rfl, by rw [hr, hk]; exact hD⟩⟩
    ·
      have hi2 : i_z < 200 := (nI_ltI (by omega) (by omega)).mp (show nI i_z < nI 200 from c_18)
      have hX1 := hX.fr hf (by decide) (by decide)
      refine z_s 22 hB_z dX2_read_21 rfl rfl ?_
      refine z_getI 25 hB_z fX2_33 (L45 (zS := zS) hL) dX2_read_22 rfl rfl ?_
      rw [show z_I (z_up zS I1) 45 3 = nI p_z from hpl]
      refine z_s 26 hB_z dX2_read_25 rfl rfl ?_
      refine z_getR 29 hB_z fX2_20 (L45 (zS := zS) hL) dX2_read_26 rfl rfl (r45_0 (zS := zS) hL) ?_
      refine z_getI 32 hB_z fX2_37 (L5_z (zS := zS) hL) dX2_read_29 rfl rfl ?_
      rw [show z_I (z_up zS I1) 5 1 = nI q_z.2 from (hX.fr hf (by decide) (by decide)).1]
      refine z_b 35 55 hB_z dX2_read_32 rfl rfl (by decide) (fun c_32 => ?_) (fun c_32 => ?_)
      ·
        have hend : ¬ p_z < q_z.2 := fun z_z => absurd ((nI_leI (by omega) (by omega)).mp (show nI q_z.2 ≤ nI p_z from c_32)) (by omega)
        refine z_s 57 hB_z dX2_read_55 rfl rfl ?_
        refine z_iret hM_z dX2_read_57 rfl ?_ rfl rfl
        have hk : z_read q_z (200 - i_z) D_z p_z = (none, D_z) := z_read_end hend
        exact ⟨_, rfl, I1, rfl, hf, Or.inr ⟨by rw [hr, hk], rfl, by rw [hr, hk]; exact hD⟩⟩
      ·
        have hlt : p_z < q_z.2 := (nI_ltI (by omega) (by omega)).mp (show nI p_z < nI q_z.2 from c_32)
        refine z_s 36 hB_z dX2_read_35 rfl rfl ?_
        refine z_getI 39 hB_z fX2_33 (L45 (zS := zS) hL) dX2_read_36 rfl rfl ?_
        rw [show z_I (z_up zS I1) 45 3 = nI p_z from hpl]
        refine z_s 40 hB_z dX2_read_39 rfl rfl ?_
        refine z_s 41 hB_z dX2_read_40 rfl rfl ?_
        refine z_callV 44 hB_z hM_z.2.1 kX2_42 dX2_read_41 rfl (L45 (zS := zS) hL) rfl (c_X2_readItem (zS := z_up zS I1) (d_z := 0) hL.up hX1 hD hlt hpl) (by omega) rfl rfl (Nat.le_of_ble_eq_true rfl) ⟨Nat.le_refl _, Nat.le_refl _⟩ ?_
        rintro _ _ ⟨v_z, rfl, I2_z, rfl, hf2, hz⟩
        refine z_b 47 49 hB_z dX2_read_44 rfl rfl (by decide) (fun c_44 => ?_) (fun c_44 => ?_)
        ·
          obtain ⟨D_z', p_z', hz1, hD2, hpl2, hp2, hp3⟩ := hz.elim (fun z_z => absurd z_z.1 c_44) (fun z_z => z_z.2)
          refine z_s 52 hB_z dX2_read_49 rfl rfl ?_
          refine z_j 14 hB_z dX2_read_52 (by decide) ?_
          exact z_wkn (ih_z hi2 I2_z D_z' p_z' (hf.tr hf2) hD2 hpl2 hp3 (hr.trans (by rw [show 200 - i_z = (199 - i_z) + 1 by omega, z_read_so hlt hz1, show 199 - i_z = 200 - (i_z + 1) by omega]))) ⟨rfl, congrArg (fun q_z => some (Value.int q_z)) (z_inc i_z), trivial⟩
        ·
          have hno : z_item q_z D_z p_z = none := hz.elim (fun z_z => z_z.2) (fun z_z => absurd (z_z.1.symm.trans c_44) (by decide))
          refine z_s 48 hB_z dX2_read_47 rfl rfl ?_
          refine z_iret hM_z dX2_read_48 rfl ?_ rfl rfl
          have hk : z_read q_z (200 - i_z) D_z p_z = (some p_z, D_z) := by rw [show 200 - i_z = (199 - i_z) + 1 by omega]; exact z_read_no hlt hno
          exact ⟨_, rfl, I2_z, rfl, hf.tr hf2, Or.inl ⟨p_z, by rw [hr, hk], rfl, by omega⟩⟩) 0 (Nat.zero_le _)
  refine z_s 1 hB_z dX2_read_0 rfl rfl ?_
  refine z_getR 4 hB_z fX2_24 (L45 (zS := zS) hL) dX2_read_1 rfl rfl (r45_1 (zS := zS) hL) ?_
  refine z_callV 7 hB_z hM_z.2.1 kX2_28 dX2_read_4 rfl (L26 (zS := zS) hL) rfl (c_X5_clear (d_z := 0) hL) (by omega) rfl rfl (Nat.le_of_ble_eq_true rfl) ⟨Nat.le_refl _, Nat.le_refl _⟩ ?_
  rintro _ _ ⟨rfl, rfl⟩
  refine z_s 8 hB_z dX2_read_7 rfl rfl ?_
  refine z_s 9 hB_z dX2_read_8 rfl rfl ?_
  refine z_putI 12 hB_z fX2_33 (L45 (zS := zS) hL) dX2_read_9 rfl rfl rfl ?_
  refine z_s 13 hB_z dX2_read_12 rfl rfl ?_
  refine z_s 14 hB_z dX2_read_13 rfl rfl ?_
  exact z_eq (loop (z_u2 (z_u2 (z_u2 (z_u2 (z_u2 (z_sa (z_I zS) 44 6 (fun _ => 0)) 26 9 0) 26 10 0) 26 11 0) 26 12 0) 45 3 0) (z_D0 (z_J zS)) 0 (((((((z_fr.rf.sa (by decide)).u2 (by decide)).u2 (by decide)).u2 (by decide)).u2 (by decide)).u2 (by decide))) (z_D0_rD.fr (z_fr.u2 (P_z := fun x_z => x_z = 45) z_fr.rf rfl) (fun a_z h1 h2 h3 => by omega)) (z_u2_same _ _ _ _) (Nat.zero_le _) rfl) rfl rfl rfl

