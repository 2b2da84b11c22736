/-! the reader: what an item tells goes into the draft -/
/-- a draft: the shop, its quarrels -/
abbrev z_Dr : Type := z_V × Int32
def z_rD (zI : Nat → Nat → Int32) (D_z : z_Dr) : Prop := z_rV zI 26 D_z.1 ∧ zI 26 11 = D_z.2
def z_vr (zV : z_V) (k_z j_z : Nat) (x_z : Int32) : z_V := (fun a_z b_z => if a_z = k_z ∧ b_z = j_z then x_z else zV.1 a_z b_z, zV.2)
theorem z_rV.row {zI : Nat → Nat → Int32} {o : Nat} {zV : z_V} {k_z j_z : Nat} {x_z : Int32} (h_z : z_rV zI o zV) : z_rV (z_u2 zI (o + 2 + 2 * k_z) j_z x_z) o (z_vr zV k_z j_z x_z) := by
  obtain ⟨h1, h2, h3, h4, h5, h6⟩ := h_z
  refine ⟨fun a_z ha_z b_z hb_z => ?_, (z_u2_ne (Or.inl (by omega))).trans h2, (z_u2_ne (Or.inl (by omega))).trans h3, (z_u2_ne (Or.inl (by omega))).trans h4, h5, h6⟩
  show z_u2 zI (o + 2 + 2 * k_z) j_z x_z (o + 2 + 2 * a_z) b_z = if a_z = k_z ∧ b_z = j_z then x_z else zV.1 a_z b_z
  by_cases e_z : a_z = k_z ∧ b_z = j_z
  · rw [if_pos e_z, e_z.1, e_z.2, z_u2_same]
  · rw [if_neg e_z, z_u2_ne (by omega)]; exact h1 a_z ha_z b_z hb_z
theorem z_rV.setn {zI : Nat → Nat → Int32} {o : Nat} {zV : z_V} {n_z : Nat} (h_z : z_rV zI o zV) (hn : n_z ≤ 6) : z_rV (z_u2 zI o 9 (nI n_z)) o (zV.1, n_z, zV.2.2) := by
  obtain ⟨h1, h2, h3, h4, h5, h6⟩ := h_z
  exact ⟨fun a_z ha_z b_z hb_z => (z_u2_ne (Or.inl (by omega))).trans (h1 a_z ha_z b_z hb_z), z_u2_same _ _ _ _, (z_u2_ne (Or.inr (by decide))).trans h3, (z_u2_ne (Or.inr (by decide))).trans h4, hn, h6⟩
theorem z_rV.setm {zI : Nat → Nat → Int32} {o : Nat} {zV : z_V} {m_z : Nat} (h_z : z_rV zI o zV) (hm_z : m_z ≤ 10) : z_rV (z_u2 zI o 10 (nI m_z)) o (zV.1, zV.2.1, m_z, zV.2.2.2) := by
  obtain ⟨h1, h2, h3, h4, h5, h6⟩ := h_z
  exact ⟨fun a_z ha_z b_z hb_z => (z_u2_ne (Or.inl (by omega))).trans (h1 a_z ha_z b_z hb_z), (z_u2_ne (Or.inr (by decide))).trans h2, z_u2_same _ _ _ _, (z_u2_ne (Or.inr (by decide))).trans h4, h5, hm_z⟩
theorem z_rV.setd {zI : Nat → Nat → Int32} {o : Nat} {zV : z_V} {x_z : Int32} (h_z : z_rV zI o zV) : z_rV (z_u2 zI o 12 x_z) o (zV.1, zV.2.1, zV.2.2.1, x_z) := by
  obtain ⟨h1, h2, h3, h4, h5, h6⟩ := h_z
  exact ⟨fun a_z ha_z b_z hb_z => (z_u2_ne (Or.inl (by omega))).trans (h1 a_z ha_z b_z hb_z), (z_u2_ne (Or.inr (by decide))).trans h2, (z_u2_ne (Or.inr (by decide))).trans h3, z_u2_same _ _ _ _, h5, h6⟩
theorem z_rV.setq {zI : Nat → Nat → Int32} {o : Nat} {zV : z_V} {x_z : Int32} (h_z : z_rV zI o zV) : z_rV (z_u2 zI o 11 x_z) o zV := by
  obtain ⟨h1, h2, h3, h4, h5, h6⟩ := h_z
  exact ⟨fun a_z ha_z b_z hb_z => (z_u2_ne (Or.inl (by omega))).trans (h1 a_z ha_z b_z hb_z), (z_u2_ne (Or.inr (by decide))).trans h2, (z_u2_ne (Or.inr (by decide))).trans h3, (z_u2_ne (Or.inr (by decide))).trans h4, h5, h6⟩
theorem z_LpI {zS : z_S} {a_z k_z : Nat} {v_z : Int32} (h_z : z_L zS) : z_L (z_pI zS a_z k_z v_z) := h_z
def z_addS (zV : z_V) (s_z th : Nat) : z_V := z_vr zV 8 th (zV.1 8 th ||| (1 <<< (nI s_z &&& 31)))
def z_tkS (D_z : z_Dr) (f_z : Nat → Int32) : Option z_Dr := if D_z.1.2.1 < 6 ∧ (0 ≤ f_z 0 ∧ f_z 0 ≤ 3) ∧ (0 ≤ f_z 1 ∧ f_z 1 ≤ 5) ∧ (1 ≤ f_z 2 ∧ f_z 2 ≤ 10) ∧ 0 ≤ f_z 3 ∧ f_z 3 ≤ 9 then
  some (((z_addS (z_addS (z_vr (z_vr (z_vr (z_vr D_z.1 0 D_z.1.2.1 (f_z 0)) 1 D_z.1.2.1 (f_z 1)) 2 D_z.1.2.1 (f_z 2)) 3 D_z.1.2.1 (f_z 3)) D_z.1.2.1 (f_z 1).toNatClampNeg) D_z.1.2.1 (((f_z 1).toNatClampNeg + 1) % 6)).1, D_z.1.2.1 + 1, D_z.1.2.2), D_z.2) else none
def z_tkC (D_z : z_Dr) (f_z : Nat → Int32) : Option z_Dr := if D_z.1.2.2.1 < 10 ∧ (0 ≤ f_z 0 ∧ f_z 0 ≤ 13) ∧ (0 ≤ f_z 1 ∧ f_z 1 ≤ 5) ∧ (0 ≤ f_z 2 ∧ f_z 2 ≤ 3) ∧ 1 ≤ f_z 3 ∧ f_z 3 ≤ 60 then
  some (((z_vr (z_vr (z_vr (z_vr D_z.1 4 D_z.1.2.2.1 (f_z 0)) 5 D_z.1.2.2.1 (f_z 1)) 6 D_z.1.2.2.1 (f_z 2)) 7 D_z.1.2.2.1 (f_z 3)).1, D_z.1.2.1, D_z.1.2.2.1 + 1, D_z.1.2.2.2), D_z.2) else none
def z_tkH (D_z : z_Dr) (f_z : Nat → Int32) : Option z_Dr := if 1 ≤ f_z 0 ∧ f_z 0 ≤ 10 then some ((D_z.1.1, D_z.1.2.1, D_z.1.2.2.1, f_z 0), D_z.2) else none
theorem z_md6 : ∀ j_z, j_z < 6 → (if (0 : Int32) < 6 then (nI j_z + 1) - (nI j_z + 1) / 6 * 6 else 0) = nI ((j_z + 1) % 6) := by decide +kernel
theorem c_X5_addServer {g_z : z_U} {d_z : Nat} {zS : z_S} (hL : z_L zS) {s_z th : Nat} (ht : th < 6) : z_C g_z (d_z + 1) 0 0 mX5_addServer [.ref 26, .int (nI s_z), .int (nI th)] zS (fun r_z zS' => r_z = none ∧ z_pI zS 44 th (z_I zS 44 th ||| (1 <<< (nI s_z &&& 31))) = zS') := by
  refine z_enter [some (.ref 26), some (.int (nI s_z)), some (.int (nI th))] rfl rfl (Nat.le_of_ble_eq_true rfl) rfl (fun zX hM_z => ?_)
  have hB_z : z_B g_z zX RX5 cX5_addServer 3 := hM_z.1
  refine z_s 1 hB_z dX5_addServer_0 rfl rfl ?_
  refine z_getR 4 hB_z fX5_41 (L26 (zS := zS) hL) dX5_addServer_1 rfl rfl (r26_8 (zS := zS) hL) ?_
  refine z_s 5 hB_z dX5_addServer_4 rfl rfl ?_
  refine z_s 6 hB_z dX5_addServer_5 rfl rfl ?_
  refine z_getR 9 hB_z fX5_41 (L26 (zS := zS) hL) dX5_addServer_6 rfl rfl (r26_8 (zS := zS) hL) ?_
  refine z_s 10 hB_z dX5_addServer_9 rfl rfl ?_
  refine z_callV 13 hB_z hM_z.2.1 kX5_68 dX5_addServer_10 rfl (L43 (zS := zS) hL) rfl (c_at (d_z := 0) (w43 hL) (by decide) ht) (by omega) rfl rfl (Nat.le_of_ble_eq_true rfl) ⟨Nat.le_refl _, Nat.le_refl _⟩ ?_
  rintro _ _ ⟨rfl, rfl⟩
  refine z_s 14 hB_z dX5_addServer_13 rfl rfl ?_
  refine z_s 15 hB_z dX5_addServer_14 rfl rfl ?_
  refine z_s 16 hB_z dX5_addServer_15 rfl rfl ?_
  refine z_s 17 hB_z dX5_addServer_16 rfl rfl ?_
  refine z_callV 20 hB_z hM_z.2.1 kX5_72 dX5_addServer_17 rfl (L43 (zS := zS) hL) rfl (c_put (d_z := 0) (w43 hL) (by decide) ht) (by omega) rfl rfl (Nat.le_of_ble_eq_true rfl) ⟨Nat.le_refl _, Nat.le_refl _⟩ ?_
  rintro _ _ ⟨rfl, rfl⟩
  refine z_vret hM_z dX5_addServer_20 rfl ?_ rfl rfl
  exact ⟨rfl, rfl⟩

theorem c_X2_takeDog {g_z : z_U} {d_z : Nat} {zS : z_S} {D_z : z_Dr} {f_z : Nat → Int32} (hL : z_L zS) (hD : z_rD (z_I zS) D_z) (hf4 : ∀ k_z, k_z < 1 → z_I zS 47 k_z = f_z k_z) : z_C g_z (d_z + 1) 0 0 mX2_takeDog [.ref 45] zS (fun r_z zS' => ∃ v_z : Int32, r_z = some (.int v_z) ∧ ∃ zI', z_up zS zI' = zS' ∧ z_fr (fun x_z => 26 ≤ x_z ∧ x_z < 45) (z_I zS) zI' ∧ (v_z = 0 ∧ z_tkH D_z f_z = none ∨ v_z = 1 ∧ ∃ D_z', z_tkH D_z f_z = some D_z' ∧ z_rD zI' D_z')) := by
  refine z_enter [some (.ref 45)] rfl rfl (Nat.le_of_ble_eq_true rfl) rfl (fun zX hM_z => ?_)
  have hB_z : z_B g_z zX RX2 cX2_takeDog 1 := hM_z.1
  obtain ⟨hV, hQ⟩ := id hD
  have hn := hV.2.1
  have hm_z := hV.2.2.1
  have hn6 := hV.2.2.2.2.1
  have hm10 := hV.2.2.2.2.2
  refine z_s 1 hB_z dX2_takeDog_0 rfl rfl ?_
  refine z_getR 4 hB_z fX2_24 (L45 (zS := zS) hL) dX2_takeDog_1 rfl rfl (r45_1 (zS := zS) hL) ?_
  refine z_s 5 hB_z dX2_takeDog_4 rfl rfl ?_
  refine z_getR 8 hB_z fX2_14 (L45 (zS := zS) hL) dX2_takeDog_5 rfl rfl (r45_2 (zS := zS) hL) ?_
  refine z_s 9 hB_z dX2_takeDog_8 rfl rfl ?_
  refine z_callV 12 hB_z hM_z.2.1 kX2_84 dX2_takeDog_9 rfl (L46 (zS := zS) hL) rfl (c_at (d_z := 0) (w46 hL) (by decide) (k_z := 0) (by decide)) (by omega) rfl rfl (Nat.le_of_ble_eq_true rfl) ⟨Nat.le_refl _, Nat.le_refl _⟩ ?_
  rintro _ _ ⟨rfl, rfl⟩
  rw [hf4 0 (by decide)]
  refine z_putI 15 hB_z fX2_137 (L26 (zS := zS) hL) dX2_takeDog_12 rfl rfl rfl ?_
  refine z_s 16 hB_z dX2_takeDog_15 rfl rfl ?_
  refine z_getR 19 hB_z fX2_24 (L45 (zS := zS) hL) dX2_takeDog_16 rfl rfl (r45_1 (zS := zS) hL) ?_
  refine z_getI 22 hB_z fX2_137 (L26 (zS := zS) hL) dX2_takeDog_19 rfl rfl ?_
  rw [z_Ieq]
  refine z_s 23 hB_z dX2_takeDog_22 rfl rfl ?_
  refine z_s 25 hB_z dX2_takeDog_23 rfl rfl ?_
  refine z_callS 28 hB_z hM_z.2.1 kX2_77 dX2_takeDog_25 rfl (c_X9_isWithin (d_z := 0)) (by omega) rfl rfl (Nat.le_of_ble_eq_true rfl) ⟨Nat.le_refl _, Nat.le_refl _⟩ ?_
  rintro _ _ ⟨rfl, rfl⟩
  refine z_zret hM_z dX2_takeDog_28 rfl z_b01 ?_ rfl rfl
  have hfr : z_fr (fun x_z => 26 ≤ x_z ∧ x_z < 45) (z_I zS) (z_u2 (z_I zS) 26 12 (f_z 0)) := z_fr.rf.u2 (by decide)
  by_cases hc_z : 1 ≤ f_z 0 ∧ f_z 0 ≤ 10
  · exact ⟨1, by rw [if_pos hc_z], _, rfl, hfr, Or.inr ⟨rfl, _, if_pos hc_z, hV.setd, (z_u2_ne (Or.inr (by decide))).trans hQ⟩⟩
  · exact ⟨0, by rw [if_neg hc_z], _, rfl, hfr, Or.inl ⟨rfl, if_neg hc_z⟩⟩

set_option maxHeartbeats 2000000 in
theorem c_X2_takeCustomer {g_z : z_U} {d_z : Nat} {zS : z_S} {D_z : z_Dr} {f_z : Nat → Int32} (hL : z_L zS) (hD : z_rD (z_I zS) D_z) (hf4 : ∀ k_z, k_z < 4 → z_I zS 47 k_z = f_z k_z) : z_C g_z (d_z + 1) 0 0 mX2_takeCustomer [.ref 45] zS (fun r_z zS' => ∃ v_z : Int32, r_z = some (.int v_z) ∧ ∃ zI', z_up zS zI' = zS' ∧ z_fr (fun x_z => 26 ≤ x_z ∧ x_z < 45) (z_I zS) zI' ∧ (v_z = 0 ∧ z_tkC D_z f_z = none ∨ v_z = 1 ∧ ∃ D_z', z_tkC D_z f_z = some D_z' ∧ z_rD zI' D_z')) := by
  refine z_enter [some (.ref 45), none] rfl rfl (Nat.le_of_ble_eq_true rfl) rfl (fun zX hM_z => ?_)
  have hB_z : z_B g_z zX RX2 cX2_takeCustomer 2 := hM_z.1
  obtain ⟨hV, hQ⟩ := id hD
  have hn := hV.2.1
  have hm_z := hV.2.2.1
  have hn6 := hV.2.2.2.2.1
  have hm10 := hV.2.2.2.2.2
  refine z_s 1 hB_z dX2_takeCustomer_0 rfl rfl ?_
  refine z_getR 4 hB_z fX2_24 (L45 (zS := zS) hL) dX2_takeCustomer_1 rfl rfl (r45_1 (zS := zS) hL) ?_
  refine z_getI 7 hB_z fX2_122 (L26 (zS := zS) hL) dX2_takeCustomer_4 rfl rfl ?_
  refine z_s 8 hB_z dX2_takeCustomer_7 rfl rfl ?_
  refine z_s 9 hB_z dX2_takeCustomer_8 rfl rfl ?_
  refine z_s 11 hB_z dX2_takeCustomer_9 rfl rfl ?_
  refine z_b 14 80 hB_z dX2_takeCustomer_11 rfl rfl (by decide) (fun c_11 => ?_) (fun c_11 => ?_)
  ·
    have h10 : ¬ D_z.1.2.2.1 < 10 := fun q_z => z_nlt0 c_11 (by rw [hm_z]; exact (nI_ltI (by omega) (by decide)).mpr q_z)
    refine z_s 81 hB_z dX2_takeCustomer_80 rfl rfl ?_
    refine z_zret hM_z dX2_takeCustomer_81 rfl (by decide) ?_ rfl rfl
    exact ⟨0, rfl, z_I zS, rfl, z_fr.rf, Or.inl ⟨rfl, if_neg (fun q_z => h10 q_z.1)⟩⟩
  ·
    have h10 : D_z.1.2.2.1 < 10 := (nI_ltI (by omega) (by decide)).mp (by rw [← hm_z]; exact c_11)
    rw [hm_z]
    refine z_s 15 hB_z dX2_takeCustomer_14 rfl rfl ?_
    refine z_getR 18 hB_z fX2_14 (L45 (zS := zS) hL) dX2_takeCustomer_15 rfl rfl (r45_2 (zS := zS) hL) ?_
    refine z_s 19 hB_z dX2_takeCustomer_18 rfl rfl ?_
    refine z_callV 22 hB_z hM_z.2.1 kX2_84 dX2_takeCustomer_19 rfl (L46 (zS := zS) hL) rfl (c_at (d_z := 0) (w46 hL) (by decide) (k_z := 0) (by decide)) (by omega) rfl rfl (Nat.le_of_ble_eq_true rfl) ⟨Nat.le_refl _, Nat.le_refl _⟩ ?_
    rintro _ _ ⟨rfl, rfl⟩
    rw [hf4 0 (by decide)]
    refine z_s 23 hB_z dX2_takeCustomer_22 rfl rfl ?_
    refine z_s 25 hB_z dX2_takeCustomer_23 rfl rfl ?_
    refine z_callS 28 hB_z hM_z.2.1 kX2_77 dX2_takeCustomer_25 rfl (c_X9_isWithin (d_z := 0)) (by omega) rfl rfl (Nat.le_of_ble_eq_true rfl) ⟨Nat.le_refl _, Nat.le_refl _⟩ ?_
    rintro _ _ ⟨rfl, rfl⟩
    refine z_b 31 80 hB_z dX2_takeCustomer_28 rfl rfl (by decide) (fun c_28 => ?_) (fun c_28 => ?_)
    ·
      refine z_s 81 hB_z dX2_takeCustomer_80 rfl rfl ?_
      refine z_zret hM_z dX2_takeCustomer_81 rfl (by decide) ?_ rfl rfl
      exact ⟨0, rfl, z_I zS, rfl, z_fr.rf, Or.inl ⟨rfl, if_neg (fun q_z => z_of0 c_28 q_z.2.1)⟩⟩
    ·
      refine z_s 32 hB_z dX2_takeCustomer_31 rfl rfl ?_
      refine z_getR 35 hB_z fX2_14 (L45 (zS := zS) hL) dX2_takeCustomer_32 rfl rfl (r45_2 (zS := zS) hL) ?_
      refine z_s 36 hB_z dX2_takeCustomer_35 rfl rfl ?_
      refine z_callV 39 hB_z hM_z.2.1 kX2_84 dX2_takeCustomer_36 rfl (L46 (zS := zS) hL) rfl (c_at (d_z := 0) (w46 hL) (by decide) (k_z := 1) (by decide)) (by omega) rfl rfl (Nat.le_of_ble_eq_true rfl) ⟨Nat.le_refl _, Nat.le_refl _⟩ ?_
      rintro _ _ ⟨rfl, rfl⟩
      rw [hf4 1 (by decide)]
      refine z_s 40 hB_z dX2_takeCustomer_39 rfl rfl ?_
      refine z_s 41 hB_z dX2_takeCustomer_40 rfl rfl ?_
      refine z_callS 44 hB_z hM_z.2.1 kX2_77 dX2_takeCustomer_41 rfl (c_X9_isWithin (d_z := 0)) (by omega) rfl rfl (Nat.le_of_ble_eq_true rfl) ⟨Nat.le_refl _, Nat.le_refl _⟩ ?_
      rintro _ _ ⟨rfl, rfl⟩
      refine z_b 47 80 hB_z dX2_takeCustomer_44 rfl rfl (by decide) (fun c_44 => ?_) (fun c_44 => ?_)
      ·
        refine z_s 81 hB_z dX2_takeCustomer_80 rfl rfl ?_
        refine z_zret hM_z dX2_takeCustomer_81 rfl (by decide) ?_ rfl rfl
        exact ⟨0, rfl, z_I zS, rfl, z_fr.rf, Or.inl ⟨rfl, if_neg (fun q_z => z_of0 c_44 q_z.2.2.1)⟩⟩
      ·
        refine z_s 48 hB_z dX2_takeCustomer_47 rfl rfl ?_
        refine z_getR 51 hB_z fX2_14 (L45 (zS := zS) hL) dX2_takeCustomer_48 rfl rfl (r45_2 (zS := zS) hL) ?_
        refine z_s 52 hB_z dX2_takeCustomer_51 rfl rfl ?_
        refine z_callV 55 hB_z hM_z.2.1 kX2_84 dX2_takeCustomer_52 rfl (L46 (zS := zS) hL) rfl (c_at (d_z := 0) (w46 hL) (by decide) (k_z := 2) (by decide)) (by omega) rfl rfl (Nat.le_of_ble_eq_true rfl) ⟨Nat.le_refl _, Nat.le_refl _⟩ ?_
        rintro _ _ ⟨rfl, rfl⟩
        rw [hf4 2 (by decide)]
        refine z_s 56 hB_z dX2_takeCustomer_55 rfl rfl ?_
        refine z_s 57 hB_z dX2_takeCustomer_56 rfl rfl ?_
        refine z_callS 60 hB_z hM_z.2.1 kX2_77 dX2_takeCustomer_57 rfl (c_X9_isWithin (d_z := 0)) (by omega) rfl rfl (Nat.le_of_ble_eq_true rfl) ⟨Nat.le_refl _, Nat.le_refl _⟩ ?_
        rintro _ _ ⟨rfl, rfl⟩
        refine z_b 63 80 hB_z dX2_takeCustomer_60 rfl rfl (by decide) (fun c_60 => ?_) (fun c_60 => ?_)
        ·
          refine z_s 81 hB_z dX2_takeCustomer_80 rfl rfl ?_
          refine z_zret hM_z dX2_takeCustomer_81 rfl (by decide) ?_ rfl rfl
          exact ⟨0, rfl, z_I zS, rfl, z_fr.rf, Or.inl ⟨rfl, if_neg (fun q_z => z_of0 c_60 q_z.2.2.2.1)⟩⟩
        ·
          refine z_s 64 hB_z dX2_takeCustomer_63 rfl rfl ?_
          refine z_getR 67 hB_z fX2_14 (L45 (zS := zS) hL) dX2_takeCustomer_64 rfl rfl (r45_2 (zS := zS) hL) ?_
          refine z_s 68 hB_z dX2_takeCustomer_67 rfl rfl ?_
          refine z_callV 71 hB_z hM_z.2.1 kX2_84 dX2_takeCustomer_68 rfl (L46 (zS := zS) hL) rfl (c_at (d_z := 0) (w46 hL) (by decide) (k_z := 3) (by decide)) (by omega) rfl rfl (Nat.le_of_ble_eq_true rfl) ⟨Nat.le_refl _, Nat.le_refl _⟩ ?_
          rintro _ _ ⟨rfl, rfl⟩
          rw [hf4 3 (by decide)]
          refine z_s 72 hB_z dX2_takeCustomer_71 rfl rfl ?_
          refine z_s 74 hB_z dX2_takeCustomer_72 rfl rfl ?_
          refine z_callS 77 hB_z hM_z.2.1 kX2_77 dX2_takeCustomer_74 rfl (c_X9_isWithin (d_z := 0)) (by omega) rfl rfl (Nat.le_of_ble_eq_true rfl) ⟨Nat.le_refl _, Nat.le_refl _⟩ ?_
          rintro _ _ ⟨rfl, rfl⟩
          refine z_b 80 82 hB_z dX2_takeCustomer_77 rfl rfl (by decide) (fun c_77 => ?_) (fun c_77 => ?_)
          ·
            have g0 : z_I zS 47 0 = f_z 0 := hf4 0 (by decide)
            have g1 : z_I zS 47 1 = f_z 1 := hf4 1 (by decide)
            have g2 : z_I zS 47 2 = f_z 2 := hf4 2 (by decide)
            have g3_z : z_I zS 47 3 = f_z 3 := hf4 3 (by decide)
            refine z_s 83 hB_z dX2_takeCustomer_82 rfl rfl ?_
            refine z_getR 86 hB_z fX2_24 (L45 (zS := zS) hL) dX2_takeCustomer_83 rfl rfl (r45_1 (zS := zS) hL) ?_
            refine z_getR 89 hB_z fX2_125 (L26 (zS := zS) hL) dX2_takeCustomer_86 rfl rfl (r26_4 (zS := zS) hL) ?_
            refine z_s 90 hB_z dX2_takeCustomer_89 rfl rfl ?_
            refine z_s 91 hB_z dX2_takeCustomer_90 rfl rfl ?_
            refine z_getR 94 hB_z fX2_14 (L45 (zS := zS) hL) dX2_takeCustomer_91 rfl rfl (r45_2 (zS := zS) hL) ?_
            refine z_s 95 hB_z dX2_takeCustomer_94 rfl rfl ?_
            refine z_callV 98 hB_z hM_z.2.1 kX2_84 dX2_takeCustomer_95 rfl (L46 (zS := zS) hL) rfl (by refine c_at (d_z := 0) (o := 46) (a_z := 47) (n_z := 4) (k_z := 0) ?_ (by decide) (by decide); exact w46 (zS := zS) hL) (by omega) rfl rfl (Nat.le_of_ble_eq_true rfl) ⟨Nat.le_refl _, Nat.le_refl _⟩ ?_
            rintro _ _ ⟨rfl, rfl⟩
            rw [g0]
            refine z_callV 101 hB_z hM_z.2.1 kX2_70 dX2_takeCustomer_98 rfl (L35 (zS := zS) hL) rfl (by refine c_put (d_z := 0) (o := 35) (a_z := 36) (n_z := 10) (k_z := D_z.1.2.2.1) (v_z := f_z 0) ?_ (by decide) h10; exact w35 (zS := zS) hL) (by omega) rfl rfl (Nat.le_of_ble_eq_true rfl) ⟨Nat.le_refl _, Nat.le_refl _⟩ ?_
            rintro _ _ ⟨rfl, rfl⟩
            refine z_s 102 hB_z dX2_takeCustomer_101 rfl rfl ?_
            refine z_getR 105 hB_z fX2_24 (L45 (zS := zS) hL) dX2_takeCustomer_102 rfl rfl (r45_1 (zS := zS) hL) ?_
            refine z_getR 108 hB_z fX2_128 (L26 (zS := zS) hL) dX2_takeCustomer_105 rfl rfl (r26_5 (zS := zS) hL) ?_
            refine z_s 109 hB_z dX2_takeCustomer_108 rfl rfl ?_
            refine z_s 110 hB_z dX2_takeCustomer_109 rfl rfl ?_
            refine z_getR 113 hB_z fX2_14 (L45 (zS := zS) hL) dX2_takeCustomer_110 rfl rfl (r45_2 (zS := zS) hL) ?_
            refine z_s 114 hB_z dX2_takeCustomer_113 rfl rfl ?_
            refine z_callV 117 hB_z hM_z.2.1 kX2_84 dX2_takeCustomer_114 rfl (L46 (zS := zS) hL) rfl (by refine c_at (d_z := 0) (o := 46) (a_z := 47) (n_z := 4) (k_z := 1) ?_ (by decide) (by decide); exact w46 (zS := zS) hL) (by omega) rfl rfl (Nat.le_of_ble_eq_true rfl) ⟨Nat.le_refl _, Nat.le_refl _⟩ ?_
            rintro _ _ ⟨rfl, rfl⟩
            rw [z_Ine (Or.inl (by decide)), g1]
            refine z_callV 120 hB_z hM_z.2.1 kX2_70 dX2_takeCustomer_117 rfl (L37 (zS := zS) hL) rfl (by refine c_put (d_z := 0) (o := 37) (a_z := 38) (n_z := 10) (k_z := D_z.1.2.2.1) (v_z := f_z 1) ?_ (by decide) h10; exact w37 (zS := zS) hL) (by omega) rfl rfl (Nat.le_of_ble_eq_true rfl) ⟨Nat.le_refl _, Nat.le_refl _⟩ ?_
            rintro _ _ ⟨rfl, rfl⟩
            refine z_s 121 hB_z dX2_takeCustomer_120 rfl rfl ?_
            refine z_getR 124 hB_z fX2_24 (L45 (zS := zS) hL) dX2_takeCustomer_121 rfl rfl (r45_1 (zS := zS) hL) ?_
            refine z_getR 127 hB_z fX2_131 (L26 (zS := zS) hL) dX2_takeCustomer_124 rfl rfl (r26_6 (zS := zS) hL) ?_
            refine z_s 128 hB_z dX2_takeCustomer_127 rfl rfl ?_
            refine z_s 129 hB_z dX2_takeCustomer_128 rfl rfl ?_
            refine z_getR 132 hB_z fX2_14 (L45 (zS := zS) hL) dX2_takeCustomer_129 rfl rfl (r45_2 (zS := zS) hL) ?_
            refine z_s 133 hB_z dX2_takeCustomer_132 rfl rfl ?_
            refine z_callV 136 hB_z hM_z.2.1 kX2_84 dX2_takeCustomer_133 rfl (L46 (zS := zS) hL) rfl (by refine c_at (d_z := 0) (o := 46) (a_z := 47) (n_z := 4) (k_z := 2) ?_ (by decide) (by decide); exact w46 (zS := zS) hL) (by omega) rfl rfl (Nat.le_of_ble_eq_true rfl) ⟨Nat.le_refl _, Nat.le_refl _⟩ ?_
            rintro _ _ ⟨rfl, rfl⟩
            rw [z_Ine (Or.inl (by decide)), z_Ine (Or.inl (by decide)), g2]
            refine z_callV 139 hB_z hM_z.2.1 kX2_70 dX2_takeCustomer_136 rfl (L39 (zS := zS) hL) rfl (by refine c_put (d_z := 0) (o := 39) (a_z := 40) (n_z := 10) (k_z := D_z.1.2.2.1) (v_z := f_z 2) ?_ (by decide) h10; exact w39 (zS := zS) hL) (by omega) rfl rfl (Nat.le_of_ble_eq_true rfl) ⟨Nat.le_refl _, Nat.le_refl _⟩ ?_
            rintro _ _ ⟨rfl, rfl⟩
            refine z_s 140 hB_z dX2_takeCustomer_139 rfl rfl ?_
            refine z_getR 143 hB_z fX2_24 (L45 (zS := zS) hL) dX2_takeCustomer_140 rfl rfl (r45_1 (zS := zS) hL) ?_
            refine z_getR 146 hB_z fX2_134 (L26 (zS := zS) hL) dX2_takeCustomer_143 rfl rfl (r26_7 (zS := zS) hL) ?_
            refine z_s 147 hB_z dX2_takeCustomer_146 rfl rfl ?_
            refine z_s 148 hB_z dX2_takeCustomer_147 rfl rfl ?_
            refine z_getR 151 hB_z fX2_14 (L45 (zS := zS) hL) dX2_takeCustomer_148 rfl rfl (r45_2 (zS := zS) hL) ?_
            refine z_s 152 hB_z dX2_takeCustomer_151 rfl rfl ?_
            refine z_callV 155 hB_z hM_z.2.1 kX2_84 dX2_takeCustomer_152 rfl (L46 (zS := zS) hL) rfl (by refine c_at (d_z := 0) (o := 46) (a_z := 47) (n_z := 4) (k_z := 3) ?_ (by decide) (by decide); exact w46 (zS := zS) hL) (by omega) rfl rfl (Nat.le_of_ble_eq_true rfl) ⟨Nat.le_refl _, Nat.le_refl _⟩ ?_
            rintro _ _ ⟨rfl, rfl⟩
            rw [z_Ine (Or.inl (by decide)), z_Ine (Or.inl (by decide)), z_Ine (Or.inl (by decide)), g3_z]
            refine z_callV 158 hB_z hM_z.2.1 kX2_70 dX2_takeCustomer_155 rfl (L41 (zS := zS) hL) rfl (by refine c_put (d_z := 0) (o := 41) (a_z := 42) (n_z := 10) (k_z := D_z.1.2.2.1) (v_z := f_z 3) ?_ (by decide) h10; exact w41 (zS := zS) hL) (by omega) rfl rfl (Nat.le_of_ble_eq_true rfl) ⟨Nat.le_refl _, Nat.le_refl _⟩ ?_
            rintro _ _ ⟨rfl, rfl⟩
            refine z_s 159 hB_z dX2_takeCustomer_158 rfl rfl ?_
            refine z_getR 162 hB_z fX2_24 (L45 (zS := zS) hL) dX2_takeCustomer_159 rfl rfl (r45_1 (zS := zS) hL) ?_
            refine z_s 163 hB_z dX2_takeCustomer_162 rfl rfl ?_
            refine z_s 164 hB_z dX2_takeCustomer_163 rfl rfl ?_
            refine z_s 165 hB_z dX2_takeCustomer_164 rfl rfl ?_
            rw [z_inc]
            refine z_putI 168 hB_z fX2_122 (L26 (zS := zS) hL) dX2_takeCustomer_165 rfl rfl rfl ?_
            refine z_s 169 hB_z dX2_takeCustomer_168 rfl rfl ?_
            refine z_zret hM_z dX2_takeCustomer_169 rfl (by decide) ?_ rfl rfl
            exact ⟨1, rfl, z_u2 (z_u2 (z_u2 (z_u2 (z_u2 (z_I zS) 36 D_z.1.2.2.1 (f_z 0)) 38 D_z.1.2.2.1 (f_z 1)) 40 D_z.1.2.2.1 (f_z 2)) 42 D_z.1.2.2.1 (f_z 3)) 26 10 (nI (D_z.1.2.2.1 + 1)), rfl, ((((z_fr.rf.u2 (by decide)).u2 (by decide)).u2 (by decide)).u2 (by decide)).u2 (by decide), Or.inr ⟨rfl, _, if_pos ⟨h10, z_of1 c_28, z_of1 c_44, z_of1 c_60, z_of1 c_77⟩, ((((hV.row (k_z := 4)).row (k_z := 5)).row (k_z := 6)).row (k_z := 7)).setm h10, (z_u2_ne (Or.inr (by decide))).trans ((z_u2_ne (Or.inl (by decide))).trans ((z_u2_ne (Or.inl (by decide))).trans ((z_u2_ne (Or.inl (by decide))).trans ((z_u2_ne (Or.inl (by decide))).trans hQ))))⟩⟩
          ·
            refine z_s 81 hB_z dX2_takeCustomer_80 rfl rfl ?_
            refine z_zret hM_z dX2_takeCustomer_81 rfl (by decide) ?_ rfl rfl
            exact ⟨0, rfl, z_I zS, rfl, z_fr.rf, Or.inl ⟨rfl, if_neg (fun q_z => z_of0 c_77 q_z.2.2.2.2)⟩⟩

set_option maxHeartbeats 4000000 in
theorem c_X2_takeStaff {g_z : z_U} {d_z : Nat} {zS : z_S} {D_z : z_Dr} {f_z : Nat → Int32} (hL : z_L zS) (hD : z_rD (z_I zS) D_z) (hf4 : ∀ k_z, k_z < 4 → z_I zS 47 k_z = f_z k_z) : z_C g_z (d_z + 2) 0 0 mX2_takeStaff [.ref 45] zS (fun r_z zS' => ∃ v_z : Int32, r_z = some (.int v_z) ∧ ∃ zI', z_up zS zI' = zS' ∧ z_fr (fun x_z => 26 ≤ x_z ∧ x_z < 45) (z_I zS) zI' ∧ (v_z = 0 ∧ z_tkS D_z f_z = none ∨ v_z = 1 ∧ ∃ D_z', z_tkS D_z f_z = some D_z' ∧ z_rD zI' D_z')) := by
  refine z_enter [some (.ref 45), none] rfl rfl (Nat.le_of_ble_eq_true rfl) rfl (fun zX hM_z => ?_)
  have hB_z : z_B g_z zX RX2 cX2_takeStaff 2 := hM_z.1
  obtain ⟨hV, hQ⟩ := id hD
  have hn := hV.2.1
  have hm_z := hV.2.2.1
  have hn6 := hV.2.2.2.2.1
  have hm10 := hV.2.2.2.2.2
  refine z_s 1 hB_z dX2_takeStaff_0 rfl rfl ?_
  refine z_getR 4 hB_z fX2_24 (L45 (zS := zS) hL) dX2_takeStaff_1 rfl rfl (r45_1 (zS := zS) hL) ?_
  refine z_getI 7 hB_z fX2_81 (L26 (zS := zS) hL) dX2_takeStaff_4 rfl rfl ?_
  refine z_s 8 hB_z dX2_takeStaff_7 rfl rfl ?_
  refine z_s 9 hB_z dX2_takeStaff_8 rfl rfl ?_
  refine z_s 11 hB_z dX2_takeStaff_9 rfl rfl ?_
  refine z_b 14 80 hB_z dX2_takeStaff_11 rfl rfl (by decide) (fun c_11 => ?_) (fun c_11 => ?_)
  ·
    have h6 : ¬ D_z.1.2.1 < 6 := fun q_z => z_nlt0 c_11 (by rw [hn]; exact (nI_ltI (by omega) (by decide)).mpr q_z)
    refine z_s 81 hB_z dX2_takeStaff_80 rfl rfl ?_
    refine z_zret hM_z dX2_takeStaff_81 rfl (by decide) ?_ rfl rfl
    exact ⟨0, rfl, z_I zS, rfl, z_fr.rf, Or.inl ⟨rfl, if_neg (fun q_z => h6 q_z.1)⟩⟩
  ·
    have h6 : D_z.1.2.1 < 6 := (nI_ltI (by omega) (by decide)).mp (by rw [← hn]; exact c_11)
    rw [hn]
    refine z_s 15 hB_z dX2_takeStaff_14 rfl rfl ?_
    refine z_getR 18 hB_z fX2_14 (L45 (zS := zS) hL) dX2_takeStaff_15 rfl rfl (r45_2 (zS := zS) hL) ?_
    refine z_s 19 hB_z dX2_takeStaff_18 rfl rfl ?_
    refine z_callV 22 hB_z hM_z.2.1 kX2_84 dX2_takeStaff_19 rfl (L46 (zS := zS) hL) rfl (c_at (d_z := 0) (w46 hL) (by decide) (k_z := 0) (by decide)) (by omega) rfl rfl (Nat.le_of_ble_eq_true rfl) ⟨Nat.le_refl _, Nat.le_refl _⟩ ?_
    rintro _ _ ⟨rfl, rfl⟩
    rw [hf4 0 (by decide)]
    refine z_s 23 hB_z dX2_takeStaff_22 rfl rfl ?_
    refine z_s 24 hB_z dX2_takeStaff_23 rfl rfl ?_
    refine z_callS 27 hB_z hM_z.2.1 kX2_77 dX2_takeStaff_24 rfl (c_X9_isWithin (d_z := 0)) (by omega) rfl rfl (Nat.le_of_ble_eq_true rfl) ⟨Nat.le_refl _, Nat.le_refl _⟩ ?_
    rintro _ _ ⟨rfl, rfl⟩
    refine z_b 30 80 hB_z dX2_takeStaff_27 rfl rfl (by decide) (fun c_27 => ?_) (fun c_27 => ?_)
    ·
      refine z_s 81 hB_z dX2_takeStaff_80 rfl rfl ?_
      refine z_zret hM_z dX2_takeStaff_81 rfl (by decide) ?_ rfl rfl
      exact ⟨0, rfl, z_I zS, rfl, z_fr.rf, Or.inl ⟨rfl, if_neg (fun q_z => z_of0 c_27 q_z.2.1)⟩⟩
    ·
      refine z_s 31 hB_z dX2_takeStaff_30 rfl rfl ?_
      refine z_getR 34 hB_z fX2_14 (L45 (zS := zS) hL) dX2_takeStaff_31 rfl rfl (r45_2 (zS := zS) hL) ?_
      refine z_s 35 hB_z dX2_takeStaff_34 rfl rfl ?_
      refine z_callV 38 hB_z hM_z.2.1 kX2_84 dX2_takeStaff_35 rfl (L46 (zS := zS) hL) rfl (c_at (d_z := 0) (w46 hL) (by decide) (k_z := 1) (by decide)) (by omega) rfl rfl (Nat.le_of_ble_eq_true rfl) ⟨Nat.le_refl _, Nat.le_refl _⟩ ?_
      rintro _ _ ⟨rfl, rfl⟩
      rw [hf4 1 (by decide)]
      refine z_s 39 hB_z dX2_takeStaff_38 rfl rfl ?_
      refine z_s 40 hB_z dX2_takeStaff_39 rfl rfl ?_
      refine z_callS 43 hB_z hM_z.2.1 kX2_77 dX2_takeStaff_40 rfl (c_X9_isWithin (d_z := 0)) (by omega) rfl rfl (Nat.le_of_ble_eq_true rfl) ⟨Nat.le_refl _, Nat.le_refl _⟩ ?_
      rintro _ _ ⟨rfl, rfl⟩
      refine z_b 46 80 hB_z dX2_takeStaff_43 rfl rfl (by decide) (fun c_43 => ?_) (fun c_43 => ?_)
      ·
        refine z_s 81 hB_z dX2_takeStaff_80 rfl rfl ?_
        refine z_zret hM_z dX2_takeStaff_81 rfl (by decide) ?_ rfl rfl
        exact ⟨0, rfl, z_I zS, rfl, z_fr.rf, Or.inl ⟨rfl, if_neg (fun q_z => z_of0 c_43 q_z.2.2.1)⟩⟩
      ·
        refine z_s 47 hB_z dX2_takeStaff_46 rfl rfl ?_
        refine z_getR 50 hB_z fX2_14 (L45 (zS := zS) hL) dX2_takeStaff_47 rfl rfl (r45_2 (zS := zS) hL) ?_
        refine z_s 51 hB_z dX2_takeStaff_50 rfl rfl ?_
        refine z_callV 54 hB_z hM_z.2.1 kX2_84 dX2_takeStaff_51 rfl (L46 (zS := zS) hL) rfl (c_at (d_z := 0) (w46 hL) (by decide) (k_z := 2) (by decide)) (by omega) rfl rfl (Nat.le_of_ble_eq_true rfl) ⟨Nat.le_refl _, Nat.le_refl _⟩ ?_
        rintro _ _ ⟨rfl, rfl⟩
        rw [hf4 2 (by decide)]
        refine z_s 55 hB_z dX2_takeStaff_54 rfl rfl ?_
        refine z_s 57 hB_z dX2_takeStaff_55 rfl rfl ?_
        refine z_callS 60 hB_z hM_z.2.1 kX2_77 dX2_takeStaff_57 rfl (c_X9_isWithin (d_z := 0)) (by omega) rfl rfl (Nat.le_of_ble_eq_true rfl) ⟨Nat.le_refl _, Nat.le_refl _⟩ ?_
        rintro _ _ ⟨rfl, rfl⟩
        refine z_b 63 80 hB_z dX2_takeStaff_60 rfl rfl (by decide) (fun c_60 => ?_) (fun c_60 => ?_)
        ·
          refine z_s 81 hB_z dX2_takeStaff_80 rfl rfl ?_
          refine z_zret hM_z dX2_takeStaff_81 rfl (by decide) ?_ rfl rfl
          exact ⟨0, rfl, z_I zS, rfl, z_fr.rf, Or.inl ⟨rfl, if_neg (fun q_z => z_of0 c_60 q_z.2.2.2.1)⟩⟩
        ·
          refine z_s 64 hB_z dX2_takeStaff_63 rfl rfl ?_
          refine z_getR 67 hB_z fX2_14 (L45 (zS := zS) hL) dX2_takeStaff_64 rfl rfl (r45_2 (zS := zS) hL) ?_
          refine z_s 68 hB_z dX2_takeStaff_67 rfl rfl ?_
          refine z_callV 71 hB_z hM_z.2.1 kX2_84 dX2_takeStaff_68 rfl (L46 (zS := zS) hL) rfl (c_at (d_z := 0) (w46 hL) (by decide) (k_z := 3) (by decide)) (by omega) rfl rfl (Nat.le_of_ble_eq_true rfl) ⟨Nat.le_refl _, Nat.le_refl _⟩ ?_
          rintro _ _ ⟨rfl, rfl⟩
          rw [hf4 3 (by decide)]
          refine z_s 72 hB_z dX2_takeStaff_71 rfl rfl ?_
          refine z_s 74 hB_z dX2_takeStaff_72 rfl rfl ?_
          refine z_callS 77 hB_z hM_z.2.1 kX2_77 dX2_takeStaff_74 rfl (c_X9_isWithin (d_z := 0)) (by omega) rfl rfl (Nat.le_of_ble_eq_true rfl) ⟨Nat.le_refl _, Nat.le_refl _⟩ ?_
          rintro _ _ ⟨rfl, rfl⟩
          refine z_b 80 82 hB_z dX2_takeStaff_77 rfl rfl (by decide) (fun c_77 => ?_) (fun c_77 => ?_)
          ·
            have g0 : z_I zS 47 0 = f_z 0 := hf4 0 (by decide)
            have g1 : z_I zS 47 1 = f_z 1 := hf4 1 (by decide)
            have g2 : z_I zS 47 2 = f_z 2 := hf4 2 (by decide)
            have g3_z : z_I zS 47 3 = f_z 3 := hf4 3 (by decide)
            have w1_z := z_of1 c_43
            obtain ⟨j_z, hj, ej⟩ := z_le28 w1_z.1 (m_z := 5) (by decide) w1_z.2
            have ecl : (f_z 1).toNatClampNeg = j_z := by rw [ej, nI_clamp (by omega)]
            have hj6 : (j_z + 1) % 6 < 6 := Nat.mod_lt _ (by decide)
            have hV4 := (((hV.row (k_z := 0) (j_z := D_z.1.2.1) (x_z := f_z 0)).row (k_z := 1) (j_z := D_z.1.2.1) (x_z := f_z 1)).row (k_z := 2) (j_z := D_z.1.2.1) (x_z := f_z 2)).row (k_z := 3) (j_z := D_z.1.2.1) (x_z := f_z 3)
            have hV5 := hV4.row (k_z := 8) (j_z := j_z) (x_z := (z_vr (z_vr (z_vr (z_vr D_z.1 0 D_z.1.2.1 (f_z 0)) 1 D_z.1.2.1 (f_z 1)) 2 D_z.1.2.1 (f_z 2)) 3 D_z.1.2.1 (f_z 3)).1 8 j_z ||| (1 <<< (nI D_z.1.2.1 &&& 31)))
            have e8 := hV4.1 8 (by decide) j_z (show j_z < 6 by omega)
            have e9_z := hV5.1 8 (by decide) ((j_z + 1) % 6) hj6
            refine z_s 83 hB_z dX2_takeStaff_82 rfl rfl ?_
            refine z_getR 86 hB_z fX2_24 (L45 (zS := zS) hL) dX2_takeStaff_83 rfl rfl (r45_1 (zS := zS) hL) ?_
            refine z_getR 89 hB_z fX2_87 (L26 (zS := zS) hL) dX2_takeStaff_86 rfl rfl (r26_0 (zS := zS) hL) ?_
            refine z_s 90 hB_z dX2_takeStaff_89 rfl rfl ?_
            refine z_s 91 hB_z dX2_takeStaff_90 rfl rfl ?_
            refine z_getR 94 hB_z fX2_14 (L45 (zS := zS) hL) dX2_takeStaff_91 rfl rfl (r45_2 (zS := zS) hL) ?_
            refine z_s 95 hB_z dX2_takeStaff_94 rfl rfl ?_
            refine z_callV 98 hB_z hM_z.2.1 kX2_84 dX2_takeStaff_95 rfl (L46 (zS := zS) hL) rfl (by refine c_at (d_z := 0) (o := 46) (a_z := 47) (n_z := 4) (k_z := 0) ?_ (by decide) (by decide); exact w46 (zS := zS) hL) (by omega) rfl rfl (Nat.le_of_ble_eq_true rfl) ⟨Nat.le_refl _, Nat.le_refl _⟩ ?_
            rintro _ _ ⟨rfl, rfl⟩
            rw [g0]
            refine z_callV 101 hB_z hM_z.2.1 kX2_70 dX2_takeStaff_98 rfl (L27 (zS := zS) hL) rfl (by refine c_put (d_z := 0) (o := 27) (a_z := 28) (n_z := 6) (k_z := D_z.1.2.1) (v_z := f_z 0) ?_ (by decide) h6; exact w27 (zS := zS) hL) (by omega) rfl rfl (Nat.le_of_ble_eq_true rfl) ⟨Nat.le_refl _, Nat.le_refl _⟩ ?_
            rintro _ _ ⟨rfl, rfl⟩
            refine z_s 102 hB_z dX2_takeStaff_101 rfl rfl ?_
            refine z_getR 105 hB_z fX2_24 (L45 (zS := zS) hL) dX2_takeStaff_102 rfl rfl (r45_1 (zS := zS) hL) ?_
            refine z_getR 108 hB_z fX2_90 (L26 (zS := zS) hL) dX2_takeStaff_105 rfl rfl (r26_1 (zS := zS) hL) ?_
            refine z_s 109 hB_z dX2_takeStaff_108 rfl rfl ?_
            refine z_s 110 hB_z dX2_takeStaff_109 rfl rfl ?_
            refine z_getR 113 hB_z fX2_14 (L45 (zS := zS) hL) dX2_takeStaff_110 rfl rfl (r45_2 (zS := zS) hL) ?_
            refine z_s 114 hB_z dX2_takeStaff_113 rfl rfl ?_
            refine z_callV 117 hB_z hM_z.2.1 kX2_84 dX2_takeStaff_114 rfl (L46 (zS := zS) hL) rfl (by refine c_at (d_z := 0) (o := 46) (a_z := 47) (n_z := 4) (k_z := 1) ?_ (by decide) (by decide); exact w46 (zS := zS) hL) (by omega) rfl rfl (Nat.le_of_ble_eq_true rfl) ⟨Nat.le_refl _, Nat.le_refl _⟩ ?_
            rintro _ _ ⟨rfl, rfl⟩
            rw [z_Ine (Or.inl (by decide)), g1]
            refine z_callV 120 hB_z hM_z.2.1 kX2_70 dX2_takeStaff_117 rfl (L29 (zS := zS) hL) rfl (by refine c_put (d_z := 0) (o := 29) (a_z := 30) (n_z := 6) (k_z := D_z.1.2.1) (v_z := f_z 1) ?_ (by decide) h6; exact w29 (zS := zS) hL) (by omega) rfl rfl (Nat.le_of_ble_eq_true rfl) ⟨Nat.le_refl _, Nat.le_refl _⟩ ?_
            rintro _ _ ⟨rfl, rfl⟩
            refine z_s 121 hB_z dX2_takeStaff_120 rfl rfl ?_
            refine z_getR 124 hB_z fX2_24 (L45 (zS := zS) hL) dX2_takeStaff_121 rfl rfl (r45_1 (zS := zS) hL) ?_
            refine z_getR 127 hB_z fX2_93 (L26 (zS := zS) hL) dX2_takeStaff_124 rfl rfl (r26_2 (zS := zS) hL) ?_
            refine z_s 128 hB_z dX2_takeStaff_127 rfl rfl ?_
            refine z_s 129 hB_z dX2_takeStaff_128 rfl rfl ?_
            refine z_getR 132 hB_z fX2_14 (L45 (zS := zS) hL) dX2_takeStaff_129 rfl rfl (r45_2 (zS := zS) hL) ?_
            refine z_s 133 hB_z dX2_takeStaff_132 rfl rfl ?_
            refine z_callV 136 hB_z hM_z.2.1 kX2_84 dX2_takeStaff_133 rfl (L46 (zS := zS) hL) rfl (by refine c_at (d_z := 0) (o := 46) (a_z := 47) (n_z := 4) (k_z := 2) ?_ (by decide) (by decide); exact w46 (zS := zS) hL) (by omega) rfl rfl (Nat.le_of_ble_eq_true rfl) ⟨Nat.le_refl _, Nat.le_refl _⟩ ?_
            rintro _ _ ⟨rfl, rfl⟩
            rw [z_Ine (Or.inl (by decide)), z_Ine (Or.inl (by decide)), g2]
            refine z_callV 139 hB_z hM_z.2.1 kX2_70 dX2_takeStaff_136 rfl (L31 (zS := zS) hL) rfl (by refine c_put (d_z := 0) (o := 31) (a_z := 32) (n_z := 6) (k_z := D_z.1.2.1) (v_z := f_z 2) ?_ (by decide) h6; exact w31 (zS := zS) hL) (by omega) rfl rfl (Nat.le_of_ble_eq_true rfl) ⟨Nat.le_refl _, Nat.le_refl _⟩ ?_
            rintro _ _ ⟨rfl, rfl⟩
            refine z_s 140 hB_z dX2_takeStaff_139 rfl rfl ?_
            refine z_getR 143 hB_z fX2_24 (L45 (zS := zS) hL) dX2_takeStaff_140 rfl rfl (r45_1 (zS := zS) hL) ?_
            refine z_getR 146 hB_z fX2_96 (L26 (zS := zS) hL) dX2_takeStaff_143 rfl rfl (r26_3 (zS := zS) hL) ?_
            refine z_s 147 hB_z dX2_takeStaff_146 rfl rfl ?_
            refine z_s 148 hB_z dX2_takeStaff_147 rfl rfl ?_
            refine z_getR 151 hB_z fX2_14 (L45 (zS := zS) hL) dX2_takeStaff_148 rfl rfl (r45_2 (zS := zS) hL) ?_
            refine z_s 152 hB_z dX2_takeStaff_151 rfl rfl ?_
            refine z_callV 155 hB_z hM_z.2.1 kX2_84 dX2_takeStaff_152 rfl (L46 (zS := zS) hL) rfl (by refine c_at (d_z := 0) (o := 46) (a_z := 47) (n_z := 4) (k_z := 3) ?_ (by decide) (by decide); exact w46 (zS := zS) hL) (by omega) rfl rfl (Nat.le_of_ble_eq_true rfl) ⟨Nat.le_refl _, Nat.le_refl _⟩ ?_
            rintro _ _ ⟨rfl, rfl⟩
            rw [z_Ine (Or.inl (by decide)), z_Ine (Or.inl (by decide)), z_Ine (Or.inl (by decide)), g3_z]
            refine z_callV 158 hB_z hM_z.2.1 kX2_70 dX2_takeStaff_155 rfl (L33 (zS := zS) hL) rfl (by refine c_put (d_z := 0) (o := 33) (a_z := 34) (n_z := 6) (k_z := D_z.1.2.1) (v_z := f_z 3) ?_ (by decide) h6; exact w33 (zS := zS) hL) (by omega) rfl rfl (Nat.le_of_ble_eq_true rfl) ⟨Nat.le_refl _, Nat.le_refl _⟩ ?_
            rintro _ _ ⟨rfl, rfl⟩
            refine z_s 159 hB_z dX2_takeStaff_158 rfl rfl ?_
            refine z_getR 162 hB_z fX2_24 (L45 (zS := zS) hL) dX2_takeStaff_159 rfl rfl (r45_1 (zS := zS) hL) ?_
            refine z_s 163 hB_z dX2_takeStaff_162 rfl rfl ?_
            refine z_s 164 hB_z dX2_takeStaff_163 rfl rfl ?_
            refine z_getR 167 hB_z fX2_14 (L45 (zS := zS) hL) dX2_takeStaff_164 rfl rfl (r45_2 (zS := zS) hL) ?_
            refine z_s 168 hB_z dX2_takeStaff_167 rfl rfl ?_
            refine z_callV 171 hB_z hM_z.2.1 kX2_84 dX2_takeStaff_168 rfl (L46 (zS := zS) hL) rfl (by refine c_at (d_z := 0) (o := 46) (a_z := 47) (n_z := 4) (k_z := 1) ?_ (by decide) (by decide); exact w46 (zS := zS) hL) (by omega) rfl rfl (Nat.le_of_ble_eq_true rfl) ⟨Nat.le_refl _, Nat.le_refl _⟩ ?_
            rintro _ _ ⟨rfl, rfl⟩
            rw [z_Ine (Or.inl (by decide)), z_Ine (Or.inl (by decide)), z_Ine (Or.inl (by decide)), z_Ine (Or.inl (by decide)), show z_I zS 47 1 = nI j_z from g1.trans ej]
            refine z_callV 174 hB_z hM_z.2.1 kX2_99 dX2_takeStaff_171 rfl (L26 (zS := zS) hL) rfl (c_X5_addServer (zS := z_pI (z_pI (z_pI (z_pI zS 28 D_z.1.2.1 (f_z 0)) 30 D_z.1.2.1 (f_z 1)) 32 D_z.1.2.1 (f_z 2)) 34 D_z.1.2.1 (f_z 3)) (d_z := 0) (z_LpI (z_LpI (z_LpI (z_LpI hL)))) (th := j_z) (by omega)) (by omega) rfl rfl (Nat.le_of_ble_eq_true rfl) ⟨Nat.le_refl _, Nat.le_refl _⟩ ?_
            rintro _ _ ⟨rfl, rfl⟩
            rw [show z_I (z_pI (z_pI (z_pI (z_pI zS 28 D_z.1.2.1 (f_z 0)) 30 D_z.1.2.1 (f_z 1)) 32 D_z.1.2.1 (f_z 2)) 34 D_z.1.2.1 (f_z 3)) 44 j_z = _ from e8]
            refine z_s 175 hB_z dX2_takeStaff_174 rfl rfl ?_
            refine z_getR 178 hB_z fX2_24 (L45 (zS := zS) hL) dX2_takeStaff_175 rfl rfl (r45_1 (zS := zS) hL) ?_
            refine z_s 179 hB_z dX2_takeStaff_178 rfl rfl ?_
            refine z_s 180 hB_z dX2_takeStaff_179 rfl rfl ?_
            refine z_getR 183 hB_z fX2_14 (L45 (zS := zS) hL) dX2_takeStaff_180 rfl rfl (r45_2 (zS := zS) hL) ?_
            refine z_s 184 hB_z dX2_takeStaff_183 rfl rfl ?_
            refine z_callV 187 hB_z hM_z.2.1 kX2_84 dX2_takeStaff_184 rfl (L46 (zS := zS) hL) rfl (by refine c_at (d_z := 0) (o := 46) (a_z := 47) (n_z := 4) (k_z := 1) ?_ (by decide) (by decide); exact w46 (zS := zS) hL) (by omega) rfl rfl (Nat.le_of_ble_eq_true rfl) ⟨Nat.le_refl _, Nat.le_refl _⟩ ?_
            rintro _ _ ⟨rfl, rfl⟩
            rw [z_Ine (Or.inl (by decide)), z_Ine (Or.inl (by decide)), z_Ine (Or.inl (by decide)), z_Ine (Or.inl (by decide)), z_Ine (Or.inl (by decide)), show z_I zS 47 1 = nI j_z from g1.trans ej]
            refine z_s 188 hB_z dX2_takeStaff_187 rfl rfl ?_
            refine z_s 189 hB_z dX2_takeStaff_188 rfl rfl ?_
            refine z_s 191 hB_z dX2_takeStaff_189 rfl rfl ?_
            refine z_callS 194 hB_z hM_z.2.1 kX2_102 dX2_takeStaff_191 rfl (c_X9_mod (d_z := 0)) (by omega) rfl rfl (Nat.le_of_ble_eq_true rfl) ⟨Nat.le_refl _, Nat.le_refl _⟩ ?_
            rintro _ _ ⟨rfl, rfl⟩
            rw [z_md6 j_z (by omega)]
            refine z_callV 197 hB_z hM_z.2.1 kX2_99 dX2_takeStaff_194 rfl (L26 (zS := zS) hL) rfl (c_X5_addServer (zS := z_pI (z_pI (z_pI (z_pI (z_pI zS 28 D_z.1.2.1 (f_z 0)) 30 D_z.1.2.1 (f_z 1)) 32 D_z.1.2.1 (f_z 2)) 34 D_z.1.2.1 (f_z 3)) 44 j_z ((z_vr (z_vr (z_vr (z_vr D_z.1 0 D_z.1.2.1 (f_z 0)) 1 D_z.1.2.1 (f_z 1)) 2 D_z.1.2.1 (f_z 2)) 3 D_z.1.2.1 (f_z 3)).1 8 j_z ||| (1 <<< (nI D_z.1.2.1 &&& 31)))) (d_z := 0) (z_LpI (z_LpI (z_LpI (z_LpI (z_LpI hL))))) (th := (j_z + 1) % 6) hj6) (by omega) rfl rfl (Nat.le_of_ble_eq_true rfl) ⟨Nat.le_refl _, Nat.le_refl _⟩ ?_
            rintro _ _ ⟨rfl, rfl⟩
            rw [show z_I (z_pI (z_pI (z_pI (z_pI (z_pI zS 28 D_z.1.2.1 (f_z 0)) 30 D_z.1.2.1 (f_z 1)) 32 D_z.1.2.1 (f_z 2)) 34 D_z.1.2.1 (f_z 3)) 44 j_z ((z_vr (z_vr (z_vr (z_vr D_z.1 0 D_z.1.2.1 (f_z 0)) 1 D_z.1.2.1 (f_z 1)) 2 D_z.1.2.1 (f_z 2)) 3 D_z.1.2.1 (f_z 3)).1 8 j_z ||| (1 <<< (nI D_z.1.2.1 &&& 31)))) 44 ((j_z + 1) % 6) = _ from e9_z]
            refine z_s 198 hB_z dX2_takeStaff_197 rfl rfl ?_
            refine z_getR 201 hB_z fX2_24 (L45 (zS := zS) hL) dX2_takeStaff_198 rfl rfl (r45_1 (zS := zS) hL) ?_
            refine z_s 202 hB_z dX2_takeStaff_201 rfl rfl ?_
            refine z_s 203 hB_z dX2_takeStaff_202 rfl rfl ?_
            refine z_s 204 hB_z dX2_takeStaff_203 rfl rfl ?_
            rw [z_inc]
            refine z_putI 207 hB_z fX2_81 (L26 (zS := zS) hL) dX2_takeStaff_204 rfl rfl rfl ?_
            refine z_s 208 hB_z dX2_takeStaff_207 rfl rfl ?_
            refine z_zret hM_z dX2_takeStaff_208 rfl (by decide) ?_ rfl rfl
            refine ⟨1, rfl, _, rfl, ((((((z_fr.rf.u2 (by decide)).u2 (by decide)).u2 (by decide)).u2 (by decide)).u2 (by decide)).u2 (by decide)).u2 (by decide), Or.inr ⟨rfl, _, if_pos ⟨h6, z_of1 c_27, z_of1 c_43, z_of1 c_60, z_of1 c_77⟩, ?_, ?_⟩⟩
            · rw [ecl]
              exact (hV5.row (k_z := 8) (j_z := (j_z + 1) % 6)).setn h6
            · show z_I _ 26 11 = D_z.2
              rw [z_Ine (Or.inl (by decide)), z_Ine (Or.inl (by decide)), z_Ine (Or.inl (by decide)), z_Ine (Or.inl (by decide)), z_Ine (Or.inl (by decide)), z_Ine (Or.inl (by decide))]
              exact hQ
          ·
            refine z_s 81 hB_z dX2_takeStaff_80 rfl rfl ?_
            refine z_zret hM_z dX2_takeStaff_81 rfl (by decide) ?_ rfl rfl
            exact ⟨0, rfl, z_I zS, rfl, z_fr.rf, Or.inl ⟨rfl, if_neg (fun q_z => z_of0 c_77 q_z.2.2.2.2)⟩⟩

def z_tkQ (D_z : z_Dr) (f_z : Nat → Int32) : Option z_Dr := if ¬ f_z 0 = f_z 1 ∧ (if f_z 0 < f_z 1 then f_z 1 else f_z 0) < nI D_z.1.2.1 then (if z_bc (D_z.2 ^^^ (1 <<< ((if f_z 0 < f_z 1 then 6 * f_z 0 + f_z 1 else 6 * f_z 1 + f_z 0) &&& 31))) ≤ 6 then some (D_z.1, D_z.2 ^^^ (1 <<< ((if f_z 0 < f_z 1 then 6 * f_z 0 + f_z 1 else 6 * f_z 1 + f_z 0) &&& 31))) else none) else none
set_option maxHeartbeats 1000000 in
theorem c_X2_takeQuarrel {g_z : z_U} {d_z : Nat} {zS : z_S} {D_z : z_Dr} {f_z : Nat → Int32} (hL : z_L zS) (hD : z_rD (z_I zS) D_z) (hf4 : ∀ k_z, k_z < 2 → z_I zS 47 k_z = f_z k_z) : z_C g_z (d_z + 1) 0 0 mX2_takeQuarrel [.ref 45] zS (fun r_z zS' => ∃ v_z : Int32, r_z = some (.int v_z) ∧ ∃ zI', z_up zS zI' = zS' ∧ z_fr (fun x_z => 26 ≤ x_z ∧ x_z < 45) (z_I zS) zI' ∧ (v_z = 0 ∧ z_tkQ D_z f_z = none ∨ v_z = 1 ∧ ∃ D_z', z_tkQ D_z f_z = some D_z' ∧ z_rD zI' D_z')) := by
  refine z_enter [some (.ref 45), none, none] rfl rfl (Nat.le_of_ble_eq_true rfl) rfl (fun zX hM_z => ?_)
  have hB_z : z_B g_z zX RX2 cX2_takeQuarrel 3 := hM_z.1
  obtain ⟨hV, hQ⟩ := id hD
  have hn := hV.2.1
  have hm_z := hV.2.2.1
  have hn6 := hV.2.2.2.2.1
  have hm10 := hV.2.2.2.2.2
  refine z_s 1 hB_z dX2_takeQuarrel_0 rfl rfl ?_
  refine z_getR 4 hB_z fX2_14 (L45 (zS := zS) hL) dX2_takeQuarrel_1 rfl rfl (r45_2 (zS := zS) hL) ?_
  refine z_s 5 hB_z dX2_takeQuarrel_4 rfl rfl ?_
  refine z_callV 8 hB_z hM_z.2.1 kX2_84 dX2_takeQuarrel_5 rfl (L46 (zS := zS) hL) rfl (c_at (d_z := 0) (w46 hL) (by decide) (k_z := 0) (by decide)) (by omega) rfl rfl (Nat.le_of_ble_eq_true rfl) ⟨Nat.le_refl _, Nat.le_refl _⟩ ?_
  rintro _ _ ⟨rfl, rfl⟩
  rw [hf4 0 (by decide)]
  refine z_s 9 hB_z dX2_takeQuarrel_8 rfl rfl ?_
  refine z_s 10 hB_z dX2_takeQuarrel_9 rfl rfl ?_
  refine z_getR 13 hB_z fX2_14 (L45 (zS := zS) hL) dX2_takeQuarrel_10 rfl rfl (r45_2 (zS := zS) hL) ?_
  refine z_s 14 hB_z dX2_takeQuarrel_13 rfl rfl ?_
  refine z_callV 17 hB_z hM_z.2.1 kX2_84 dX2_takeQuarrel_14 rfl (L46 (zS := zS) hL) rfl (c_at (d_z := 0) (w46 hL) (by decide) (k_z := 1) (by decide)) (by omega) rfl rfl (Nat.le_of_ble_eq_true rfl) ⟨Nat.le_refl _, Nat.le_refl _⟩ ?_
  rintro _ _ ⟨rfl, rfl⟩
  rw [hf4 1 (by decide)]
  refine z_s 18 hB_z dX2_takeQuarrel_17 rfl rfl ?_
  refine z_s 19 hB_z dX2_takeQuarrel_18 rfl rfl ?_
  refine z_s 20 hB_z dX2_takeQuarrel_19 rfl rfl ?_
  refine z_b 23 38 hB_z dX2_takeQuarrel_20 rfl rfl (by decide) (fun c_20 => ?_) (fun c_20 => ?_)
  ·
    refine z_s 39 hB_z dX2_takeQuarrel_38 rfl rfl ?_
    refine z_zret hM_z dX2_takeQuarrel_39 rfl (by decide) ?_ rfl rfl
    exact ⟨0, rfl, z_I zS, rfl, z_fr.rf, Or.inl ⟨rfl, if_neg (fun q_z => q_z.1 c_20)⟩⟩
  ·
    refine z_s 24 hB_z dX2_takeQuarrel_23 rfl rfl ?_
    refine z_s 25 hB_z dX2_takeQuarrel_24 rfl rfl ?_
    refine z_max 28 hB_z hM_z.2.1 kX2_106 x_stat x_init x_code dX2_takeQuarrel_25 rfl (Nat.le_of_ble_eq_true rfl) ⟨Nat.le_refl _, Nat.le_refl _⟩ ?_
    refine z_s 29 hB_z dX2_takeQuarrel_28 rfl rfl ?_
    refine z_getR 32 hB_z fX2_24 (L45 (zS := zS) hL) dX2_takeQuarrel_29 rfl rfl (r45_1 (zS := zS) hL) ?_
    refine z_getI 35 hB_z fX2_81 (L26 (zS := zS) hL) dX2_takeQuarrel_32 rfl rfl ?_
    rw [hn]
    refine z_b 38 40 hB_z dX2_takeQuarrel_35 rfl rfl (by decide) (fun c_35 => ?_) (fun c_35 => ?_)
    ·
      refine z_s 41 hB_z dX2_takeQuarrel_40 rfl rfl ?_
      refine z_getR 44 hB_z fX2_24 (L45 (zS := zS) hL) dX2_takeQuarrel_41 rfl rfl (r45_1 (zS := zS) hL) ?_
      refine z_s 45 hB_z dX2_takeQuarrel_44 rfl rfl ?_
      refine z_getI 48 hB_z fX2_111 (L26 (zS := zS) hL) dX2_takeQuarrel_45 rfl rfl ?_
      rw [hQ]
      refine z_s 49 hB_z dX2_takeQuarrel_48 rfl rfl ?_
      refine z_s 50 hB_z dX2_takeQuarrel_49 rfl rfl ?_
      refine z_s 51 hB_z dX2_takeQuarrel_50 rfl rfl ?_
      refine z_callS 54 hB_z hM_z.2.1 kX2_114 dX2_takeQuarrel_51 rfl (c_X9_pair (d_z := 0)) (by omega) rfl rfl (Nat.le_of_ble_eq_true rfl) ⟨Nat.le_refl _, Nat.le_refl _⟩ ?_
      rintro _ _ ⟨rfl, rfl⟩
      refine z_s 55 hB_z dX2_takeQuarrel_54 rfl rfl ?_
      refine z_s 56 hB_z dX2_takeQuarrel_55 rfl rfl ?_
      refine z_putI 59 hB_z fX2_111 (L26 (zS := zS) hL) dX2_takeQuarrel_56 rfl rfl rfl ?_
      refine z_s 60 hB_z dX2_takeQuarrel_59 rfl rfl ?_
      refine z_getR 63 hB_z fX2_24 (L45 (zS := zS) hL) dX2_takeQuarrel_60 rfl rfl (r45_1 (zS := zS) hL) ?_
      refine z_getI 66 hB_z fX2_111 (L26 (zS := zS) hL) dX2_takeQuarrel_63 rfl rfl ?_
      rw [z_Ieq]
      refine z_callS 69 hB_z hM_z.2.1 kX2_117 dX2_takeQuarrel_66 rfl (c_J6_bitCount_0f7a4 (d_z := 0)) (by omega) rfl rfl (Nat.le_of_ble_eq_true rfl) ⟨Nat.le_refl _, Nat.le_refl _⟩ ?_
      rintro _ _ ⟨rfl, rfl⟩
      refine z_s 71 hB_z dX2_takeQuarrel_69 rfl rfl ?_
      refine z_b 74 78 hB_z dX2_takeQuarrel_71 rfl rfl (by decide) (fun c_71 => ?_) (fun c_71 => ?_)
      ·
        refine z_s 79 hB_z dX2_takeQuarrel_78 rfl rfl ?_
        refine z_zret hM_z dX2_takeQuarrel_79 rfl (by decide) ?_ rfl rfl
        exact ⟨0, rfl, z_u2 (z_I zS) 26 11 (D_z.2 ^^^ (1 <<< ((if f_z 0 < f_z 1 then 6 * f_z 0 + f_z 1 else 6 * f_z 1 + f_z 0) &&& 31))), rfl, z_fr.rf.u2 (by decide), Or.inl ⟨rfl, (if_pos ⟨c_20, c_35⟩).trans (if_neg (z_nle0 c_71))⟩⟩
      ·
        refine z_s 75 hB_z dX2_takeQuarrel_74 rfl rfl ?_
        refine z_j 79 hB_z dX2_takeQuarrel_75 (by decide) ?_
        refine z_zret hM_z dX2_takeQuarrel_79 rfl (by decide) ?_ rfl rfl
        exact ⟨1, rfl, z_u2 (z_I zS) 26 11 (D_z.2 ^^^ (1 <<< ((if f_z 0 < f_z 1 then 6 * f_z 0 + f_z 1 else 6 * f_z 1 + f_z 0) &&& 31))), rfl, z_fr.rf.u2 (by decide), Or.inr ⟨rfl, _, (if_pos ⟨c_20, c_35⟩).trans (if_pos c_71), hV.setq, z_u2_same _ _ _ _⟩⟩
    ·
      refine z_s 39 hB_z dX2_takeQuarrel_38 rfl rfl ?_
      refine z_zret hM_z dX2_takeQuarrel_39 rfl (by decide) ?_ rfl rfl
      exact ⟨0, rfl, z_I zS, rfl, z_fr.rf, Or.inl ⟨rfl, if_neg (fun q_z => z_nlt0 c_35 q_z.2)⟩⟩

