/-! states are copied; nights go by -/
theorem z_st.ge {zS : z_S} {o : Nat} (h_z : z_st zS o) : 4 ≤ o := h_z.1.2.1
/-- a night's figures, and the state behind it -/
def z_dayO (zV : z_V) (zT : Nat → Int32) (dog : Bool) : z_N := z_day zV (zT 0) (z_wlk zV zT dog) zV.2.2.1
def z_nx1 (zV : z_V) (zT : Nat → Int32) (dog : Bool) : Nat → Int32 := z_cls1 zV zT (z_dayO zV zT dog)
def z_gob (zV : z_V) : Nat → (Nat → Int32) → (Nat → Int32)
  | 0, zT => zT
  | k_z + 1, zT => z_nx1 zV (z_gob zV k_z zT) (z_hasDog zV (z_gob zV k_z zT 0))
def z_PG (o : Nat) : Nat → Prop := fun q_z => z_PN q_z ∨ q_z = o ∨ q_z = o + 2
theorem z_PG7 {o : Nat} (h_z : 51 ≤ o) : ∀ q_z : Nat, 7 ≤ q_z → q_z < 7 + 19 → ¬ z_PG o q_z := fun q_z _ h2 h3 => by
  rcases h3 with (h3 | h3) | h3 | h3 <;> omega
theorem z_fr.toN {o : Nat} {zI zI' : Nat → Nat → Int32} (h_z : z_fr z_PN zI zI') : z_fr (z_PG o) zI zI' := h_z.mono (fun _ q_z => Or.inl q_z)
theorem z_fr.toS {o : Nat} {zI zI' : Nat → Nat → Int32} (h_z : z_fr (fun q_z => q_z = o ∨ q_z = o + 2) zI zI') : z_fr (z_PG o) zI zI' := h_z.mono (fun _ q_z => Or.inr q_z)
theorem z_rN.fr {P_z : Nat → Prop} {zI zI' : Nat → Nat → Int32} {w_z : Int32} {D_z : z_N} (h_z : z_rN zI w_z D_z) (hf : z_fr P_z zI zI') (h1 : ¬ P_z 48) (h2 : ¬ P_z 50) : z_rN zI' w_z D_z := by
  obtain ⟨a1_z, a2, a3, a4, a5, a6, a7, a8⟩ := h_z
  exact ⟨(hf 48 2 h1).trans a1_z, (hf 48 3 h1).trans a2, (hf 48 4 h1).trans a3, (hf 48 5 h1).trans a4, (hf 48 6 h1).trans a5, (hf 48 7 h1).trans a6, (hf 48 8 h1).trans a7, fun c_z hc_z => (hf 50 c_z h2).trans (a8 c_z hc_z)⟩
set_option maxHeartbeats 1000000 in
theorem c_X7_copy {g_z : z_U} {d_z : Nat} {zS : z_S} {o p_z : Nat} (hso : z_st zS o) (hsp : z_st zS p_z) (hpo : p_z ≠ o) (hpo2 : p_z + 2 ≠ o) : z_C g_z (d_z + 2) 0 0 mX7_copy [.ref o, .ref p_z] zS (fun r_z zS' => r_z = none ∧ ∃ zI', z_up zS zI' = zS' ∧ z_fr (fun q_z => q_z = o ∨ q_z = o + 2) (z_I zS) zI' ∧ ∀ zT, z_rT (z_I zS) p_z zT → z_rT zI' o zT) := by
  refine z_enter [some (.ref o), some (.ref p_z)] rfl rfl (Nat.le_of_ble_eq_true rfl) rfl (fun zX hM_z => ?_)
  have hB_z : z_B g_z zX RX7 cX7_copy 2 := hM_z.1
  refine z_s 1 hB_z dX7_copy_0 rfl rfl ?_
  refine z_s 2 hB_z dX7_copy_1 rfl rfl ?_
  refine z_getI 5 hB_z fX7_20 hsp.1 dX7_copy_2 rfl rfl ?_
  refine z_putI 8 hB_z fX7_20 hso.1 dX7_copy_5 rfl rfl rfl ?_
  refine z_s 9 hB_z dX7_copy_8 rfl rfl ?_
  refine z_s 10 hB_z dX7_copy_9 rfl rfl ?_
  refine z_getI 13 hB_z fX7_24 hsp.1 dX7_copy_10 rfl rfl ?_
  refine z_putI 16 hB_z fX7_24 hso.1 dX7_copy_13 rfl rfl rfl ?_
  refine z_s 17 hB_z dX7_copy_16 rfl rfl ?_
  refine z_s 18 hB_z dX7_copy_17 rfl rfl ?_
  refine z_getI 21 hB_z fX7_27 hsp.1 dX7_copy_18 rfl rfl ?_
  refine z_putI 24 hB_z fX7_27 hso.1 dX7_copy_21 rfl rfl rfl ?_
  refine z_s 25 hB_z dX7_copy_24 rfl rfl ?_
  refine z_s 26 hB_z dX7_copy_25 rfl rfl ?_
  refine z_getI 29 hB_z fX7_30 hsp.1 dX7_copy_26 rfl rfl ?_
  refine z_putI 32 hB_z fX7_30 hso.1 dX7_copy_29 rfl rfl rfl ?_
  refine z_s 33 hB_z dX7_copy_32 rfl rfl ?_
  refine z_s 34 hB_z dX7_copy_33 rfl rfl ?_
  refine z_getI 37 hB_z fX7_33 hsp.1 dX7_copy_34 rfl rfl ?_
  refine z_putI 40 hB_z fX7_33 hso.1 dX7_copy_37 rfl rfl rfl ?_
  refine z_s 41 hB_z dX7_copy_40 rfl rfl ?_
  refine z_s 42 hB_z dX7_copy_41 rfl rfl ?_
  refine z_getI 45 hB_z fX7_36 hsp.1 dX7_copy_42 rfl rfl ?_
  refine z_putI 48 hB_z fX7_36 hso.1 dX7_copy_45 rfl rfl rfl ?_
  refine z_s 49 hB_z dX7_copy_48 rfl rfl ?_
  refine z_getR 52 hB_z fX7_14 hso.1 dX7_copy_49 rfl rfl hso.2.1 ?_
  refine z_s 53 hB_z dX7_copy_52 rfl rfl ?_
  refine z_getR 56 hB_z fX7_14 hsp.1 dX7_copy_53 rfl rfl hsp.2.1 ?_
  refine z_callV 59 hB_z hM_z.2.1 kX7_42 dX7_copy_56 rfl hso.2.2.1 rfl (by refine c_X3_copy (d_z := 0) (o := o + 1) (a_z := o + 2) (o2 := p_z + 1) (a2 := p_z + 2) (n_z := 6) ?_ ?_ (by decide); exact hso.2.2; exact hsp.2.2) (by omega) rfl rfl (Nat.le_of_ble_eq_true rfl) ⟨Nat.le_refl _, Nat.le_refl _⟩ ?_
  rintro _ _ ⟨rfl, e9_z⟩
  refine z_vret hM_z dX7_copy_59 rfl ?_ rfl rfl
  subst e9_z
  refine ⟨rfl, _, rfl, ((((((z_fr.rf.u2 (Or.inl rfl)).u2 (Or.inl rfl)).u2 (Or.inl rfl)).u2 (Or.inl rfl)).u2 (Or.inl rfl)).u2 (Or.inl rfl)).sa (Or.inr rfl), ?_⟩
  intro zT hT_z
  have no : o ≠ o + 2 := by omega
  have f0_z := hT_z.1 0 (by decide)
  have f1_z := hT_z.1 1 (by decide)
  have f2_z := hT_z.1 2 (by decide)
  have f3_z := hT_z.1 3 (by decide)
  have f4_z := hT_z.1 4 (by decide)
  have f5_z := hT_z.1 5 (by decide)
  refine ⟨fun k_z hk => ?_, fun k_z hk => ?_⟩
  · rw [z_sa_off no]
    rcases (show k_z = 0 ∨ k_z = 1 ∨ k_z = 2 ∨ k_z = 3 ∨ k_z = 4 ∨ k_z = 5 by omega) with rfl | rfl | rfl | rfl | rfl | rfl
    · rw [← f0_z]
      exact (z_Ine (Or.inr (by decide))).trans ((z_Ine (Or.inr (by decide))).trans ((z_Ine (Or.inr (by decide))).trans ((z_Ine (Or.inr (by decide))).trans ((z_Ine (Or.inr (by decide))).trans z_Ieq))))
    · rw [← f1_z]
      exact (z_Ine (Or.inr (by decide))).trans ((z_Ine (Or.inr (by decide))).trans ((z_Ine (Or.inr (by decide))).trans ((z_Ine (Or.inr (by decide))).trans (z_Ieq.trans (z_Ine (Or.inl hpo))))))
    · rw [← f2_z]
      exact (z_Ine (Or.inr (by decide))).trans ((z_Ine (Or.inr (by decide))).trans ((z_Ine (Or.inr (by decide))).trans (z_Ieq.trans ((z_Ine (Or.inl hpo)).trans (z_Ine (Or.inl hpo))))))
    · rw [← f3_z]
      exact (z_Ine (Or.inr (by decide))).trans ((z_Ine (Or.inr (by decide))).trans (z_Ieq.trans ((z_Ine (Or.inl hpo)).trans ((z_Ine (Or.inl hpo)).trans (z_Ine (Or.inl hpo))))))
    · rw [← f4_z]
      exact (z_Ine (Or.inr (by decide))).trans (z_Ieq.trans ((z_Ine (Or.inl hpo)).trans ((z_Ine (Or.inl hpo)).trans ((z_Ine (Or.inl hpo)).trans (z_Ine (Or.inl hpo))))))
    · rw [← f5_z]
      exact z_Ieq.trans ((z_Ine (Or.inl hpo)).trans ((z_Ine (Or.inl hpo)).trans ((z_Ine (Or.inl hpo)).trans ((z_Ine (Or.inl hpo)).trans (z_Ine (Or.inl hpo))))))
  · rw [← hT_z.2 k_z hk]
    unfold z_sa
    rw [if_pos ⟨rfl, hk⟩]
    exact (z_Ine (Or.inl hpo2)).trans ((z_Ine (Or.inl hpo2)).trans ((z_Ine (Or.inl hpo2)).trans ((z_Ine (Or.inl hpo2)).trans ((z_Ine (Or.inl hpo2)).trans (z_Ine (Or.inl hpo2))))))

set_option maxHeartbeats 1000000 in
theorem c_X9_goBy {g_z : z_U} {d_z : Nat} {zS : z_S} {zV : z_V} {zT : Nat → Int32} (hL : z_L zS) (hV : z_rV (z_I zS) 7 zV) {o : Nat} (ho : 51 ≤ o) (hst : z_st zS o) (hT_z : z_rT (z_I zS) o zT) {n_z : Nat} (hn : n_z < 1000) : z_C g_z (d_z + 4) 0 0 mX9_goBy [.ref 4, .ref o, .int (nI n_z)] zS (fun r_z zS' => r_z = none ∧ ∃ zI', z_up zS zI' = zS' ∧ z_fr (z_PG o) (z_I zS) zI' ∧ z_rT zI' o (z_gob zV n_z zT) ∧ (0 < n_z → ∃ w_z, z_rN zI' w_z (z_dayO zV (z_gob zV (n_z - 1) zT) (z_hasDog zV (z_gob zV (n_z - 1) zT 0))))) := by
  refine z_enter [some (.ref 4), some (.ref o), some (.int (nI n_z)), none] rfl rfl (Nat.le_of_ble_eq_true rfl) rfl (fun zX hM_z => ?_)
  have hB_z : z_B g_z zX RX9 cX9_goBy 4 := hM_z.1
  have hm10 : zV.2.2.1 ≤ 10 := hV.2.2.2.2.2
  have loop := z_loop (fun j_z => ∀ I1, z_fr (z_PG o) (z_I zS) I1 → z_rT I1 o (z_gob zV j_z zT) → (0 < j_z → ∃ w_z, z_rN I1 w_z (z_dayO zV (z_gob zV (j_z - 1) zT) (z_hasDog zV (z_gob zV (j_z - 1) zT 0)))) → z_W g_z zX 2 [some (.ref 4), some (.ref o), some (.int (nI n_z)), some (.int (nI j_z))] [] 0 0 (z_up zS I1)) n_z (fun j_z hj ih_z I1 hf hT1 hlast => by
    have hV1 : z_rV (z_I (z_up zS I1)) 7 zV := hV.fr hf (z_PG7 ho)
    refine z_s 3 hB_z dX9_goBy_2 rfl rfl ?_
    refine z_s 4 hB_z dX9_goBy_3 rfl rfl ?_
    refine z_b 7 47 hB_z dX9_goBy_4 rfl rfl (by decide) (fun c_4 => ?_) (fun c_4 => ?_)
    ·
      have hjs : n_z ≤ j_z := (nI_leI (by omega) (by omega)).mp c_4
      refine z_vret hM_z dX9_goBy_47 rfl ?_ rfl rfl
      rw [show j_z = n_z by omega] at hT1 hlast
      exact ⟨rfl, I1, rfl, hf, hT1, hlast⟩
    ·
      have hjs : j_z < n_z := (nI_ltI (by omega) (by omega)).mp c_4
      refine z_s 8 hB_z dX9_goBy_7 rfl rfl ?_
      refine z_getR 11 hB_z fX9_40 (L4_z (zS := zS) hL) dX9_goBy_8 rfl rfl (r4_4 (zS := zS) hL) ?_
      refine z_s 12 hB_z dX9_goBy_11 rfl rfl ?_
      refine z_s 13 hB_z dX9_goBy_12 rfl rfl ?_
      refine z_getR 16 hB_z fX9_19 (L4_z (zS := zS) hL) dX9_goBy_13 rfl rfl (r4_1 (zS := zS) hL) ?_
      refine z_s 17 hB_z dX9_goBy_16 rfl rfl ?_
      refine z_getI 20 hB_z fX9_161 hst.1 dX9_goBy_17 rfl rfl ?_
      refine z_callV 23 hB_z hM_z.2.1 kX9_242 dX9_goBy_20 rfl (L7 (zS := zS) hL) rfl (c_X5_hasDog (zS := z_up zS I1) (d_z := 0) hL hV1) (by omega) rfl rfl (Nat.le_of_ble_eq_true rfl) ⟨Nat.le_refl _, Nat.le_refl _⟩ ?_
      rintro _ _ ⟨rfl, rfl⟩
      rw [show z_I (z_up zS I1) o 0 = z_gob zV j_z zT 0 from hT1.1 0 (by decide)]
      refine z_s 24 hB_z dX9_goBy_23 rfl rfl ?_
      refine z_getR 27 hB_z fX9_19 (L4_z (zS := zS) hL) dX9_goBy_24 rfl rfl (r4_1 (zS := zS) hL) ?_
      refine z_getI 30 hB_z fX9_290 (L7 (zS := zS) hL) dX9_goBy_27 rfl rfl ?_
      rw [show z_I (z_up zS I1) 7 10 = nI zV.2.2.1 from hV1.2.2.1]
      refine z_callV 33 hB_z hM_z.2.1 kX9_245 dX9_goBy_30 rfl (L48 (zS := zS) hL) rfl (c_X1_play (zS := z_up zS I1) (d_z := 0) hL hV1 ho hst hT1 (dog := z_hasDog zV (z_gob zV j_z zT 0)) rfl hm10) (by omega) rfl rfl (Nat.le_of_ble_eq_true rfl) ⟨Nat.le_refl _, Nat.le_refl _⟩ ?_
      rintro _ _ ⟨rfl, I2_z, rfl, hf2, hN2⟩
      refine z_s 34 hB_z dX9_goBy_33 rfl rfl ?_
      refine z_getR 37 hB_z fX9_40 (L4_z (zS := zS) hL) dX9_goBy_34 rfl rfl (r4_4 (zS := zS) hL) ?_
      refine z_s 38 hB_z dX9_goBy_37 rfl rfl ?_
      refine z_callV 41 hB_z hM_z.2.1 kX9_299 dX9_goBy_38 rfl (L48 (zS := zS) hL) rfl (c_X1_close (zS := z_up zS I2_z) (d_z := 0) hL (hV1.fr hf2 z_PN7) ho hst (hT1.fr hf2 ⟨z_PNo ho, z_PNo (by omega)⟩) hN2) (by omega) rfl rfl (Nat.le_of_ble_eq_true rfl) ⟨Nat.le_refl _, Nat.le_refl _⟩ ?_
      rintro _ _ ⟨rfl, I3, rfl, hf3, hT3⟩
      refine z_s 44 hB_z dX9_goBy_41 rfl rfl ?_
      refine z_j 2 hB_z dX9_goBy_44 (by decide) ?_
      exact z_eq (ih_z hjs I3 ((hf.tr hf2.toN).tr hf3.toS) hT3 (fun _ => ⟨_, hN2.fr hf3 (by omega) (by omega)⟩)) (by rw [← z_inc]; rfl) rfl rfl) 0 (Nat.zero_le n_z)
  refine z_s 1 hB_z dX9_goBy_0 rfl rfl ?_
  refine z_s 2 hB_z dX9_goBy_1 rfl rfl ?_
  exact z_eq (loop (z_I zS) z_fr.rf hT_z (fun q_z => absurd q_z (Nat.lt_irrefl 0))) rfl rfl rfl

theorem c_X9_playTonight {g_z : z_U} {d_z : Nat} {zS : z_S} {zV : z_V} {zT : Nat → Int32} (hL : z_L zS) (hV : z_rV (z_I zS) 7 zV) (hT_z : z_rT (z_I zS) 51 zT) : z_C g_z (d_z + 4) 0 0 mX9_playTonight [.ref 4] zS (fun r_z zS' => r_z = none ∧ ∃ zI', z_up zS zI' = zS' ∧ z_fr z_PN (z_I zS) zI' ∧ z_rN zI' (z_wlk zV zT (z_hasDog zV (zT 0))) (z_dayO zV zT (z_hasDog zV (zT 0)))) := by
  refine z_enter [some (.ref 4)] rfl rfl (Nat.le_of_ble_eq_true rfl) rfl (fun zX hM_z => ?_)
  have hB_z : z_B g_z zX RX9 cX9_playTonight 1 := hM_z.1
  have hm10 : zV.2.2.1 ≤ 10 := hV.2.2.2.2.2
  have et : z_I zS 51 0 = zT 0 := hT_z.1 0 (by decide)
  refine z_s 1 hB_z dX9_playTonight_0 rfl rfl ?_
  refine z_getR 4 hB_z fX9_40 (L4_z (zS := zS) hL) dX9_playTonight_1 rfl rfl (r4_4 (zS := zS) hL) ?_
  refine z_s 5 hB_z dX9_playTonight_4 rfl rfl ?_
  refine z_getR 8 hB_z fX9_47 (L4_z (zS := zS) hL) dX9_playTonight_5 rfl rfl (r4_5 (zS := zS) hL) ?_
  refine z_s 9 hB_z dX9_playTonight_8 rfl rfl ?_
  refine z_getR 12 hB_z fX9_19 (L4_z (zS := zS) hL) dX9_playTonight_9 rfl rfl (r4_1 (zS := zS) hL) ?_
  refine z_s 13 hB_z dX9_playTonight_12 rfl rfl ?_
  refine z_getR 16 hB_z fX9_47 (L4_z (zS := zS) hL) dX9_playTonight_13 rfl rfl (r4_5 (zS := zS) hL) ?_
  refine z_getI 19 hB_z fX9_161 (L51 (zS := zS) hL) dX9_playTonight_16 rfl rfl ?_
  refine z_callV 22 hB_z hM_z.2.1 kX9_242 dX9_playTonight_19 rfl (L7 (zS := zS) hL) rfl (c_X5_hasDog (d_z := 0) hL hV) (by omega) rfl rfl (Nat.le_of_ble_eq_true rfl) ⟨Nat.le_refl _, Nat.le_refl _⟩ ?_
  rintro _ _ ⟨rfl, rfl⟩
  rw [et]
  refine z_s 23 hB_z dX9_playTonight_22 rfl rfl ?_
  refine z_getR 26 hB_z fX9_19 (L4_z (zS := zS) hL) dX9_playTonight_23 rfl rfl (r4_1 (zS := zS) hL) ?_
  refine z_getI 29 hB_z fX9_290 (L7 (zS := zS) hL) dX9_playTonight_26 rfl rfl ?_
  rw [show z_I zS 7 10 = nI zV.2.2.1 from hV.2.2.1]
  refine z_callV 32 hB_z hM_z.2.1 kX9_245 dX9_playTonight_29 rfl (L48 (zS := zS) hL) rfl (c_X1_play (d_z := 0) hL hV (by decide) (s51 hL) hT_z (dog := z_hasDog zV (zT 0)) rfl hm10) (by omega) rfl rfl (Nat.le_of_ble_eq_true rfl) ⟨Nat.le_refl _, Nat.le_refl _⟩ ?_
  rintro _ _ ⟨rfl, I2_z, rfl, hf2, hN2⟩
  refine z_vret hM_z dX9_playTonight_32 rfl ?_ rfl rfl
  exact ⟨rfl, I2_z, rfl, hf2, hN2⟩

theorem c_X9_walkersTonight {g_z : z_U} {d_z : Nat} {zS : z_S} {zV : z_V} {zT : Nat → Int32} (hL : z_L zS) (hV : z_rV (z_I zS) 7 zV) (hT_z : z_rT (z_I zS) 51 zT) : z_C g_z (d_z + 3) 0 0 mX9_walkersTonight [.ref 4] zS (fun r_z zS' => r_z = some (.int (z_wlk zV zT (z_hasDog zV (zT 0)))) ∧ ∃ zI', z_up zS zI' = zS' ∧ z_fr z_PN (z_I zS) zI') := by
  refine z_enter [some (.ref 4)] rfl rfl (Nat.le_of_ble_eq_true rfl) rfl (fun zX hM_z => ?_)
  have hB_z : z_B g_z zX RX9 cX9_walkersTonight 1 := hM_z.1
  have hm10 : zV.2.2.1 ≤ 10 := hV.2.2.2.2.2
  have et : z_I zS 51 0 = zT 0 := hT_z.1 0 (by decide)
  refine z_s 1 hB_z dX9_walkersTonight_0 rfl rfl ?_
  refine z_getR 4 hB_z fX9_40 (L4_z (zS := zS) hL) dX9_walkersTonight_1 rfl rfl (r4_4 (zS := zS) hL) ?_
  refine z_s 5 hB_z dX9_walkersTonight_4 rfl rfl ?_
  refine z_getR 8 hB_z fX9_47 (L4_z (zS := zS) hL) dX9_walkersTonight_5 rfl rfl (r4_5 (zS := zS) hL) ?_
  refine z_s 9 hB_z dX9_walkersTonight_8 rfl rfl ?_
  refine z_getR 12 hB_z fX9_19 (L4_z (zS := zS) hL) dX9_walkersTonight_9 rfl rfl (r4_1 (zS := zS) hL) ?_
  refine z_s 13 hB_z dX9_walkersTonight_12 rfl rfl ?_
  refine z_getR 16 hB_z fX9_47 (L4_z (zS := zS) hL) dX9_walkersTonight_13 rfl rfl (r4_5 (zS := zS) hL) ?_
  refine z_getI 19 hB_z fX9_161 (L51 (zS := zS) hL) dX9_walkersTonight_16 rfl rfl ?_
  refine z_callV 22 hB_z hM_z.2.1 kX9_242 dX9_walkersTonight_19 rfl (L7 (zS := zS) hL) rfl (c_X5_hasDog (d_z := 0) hL hV) (by omega) rfl rfl (Nat.le_of_ble_eq_true rfl) ⟨Nat.le_refl _, Nat.le_refl _⟩ ?_
  rintro _ _ ⟨rfl, rfl⟩
  rw [et]
  refine z_callV 25 hB_z hM_z.2.1 kX9_302 dX9_walkersTonight_22 rfl (L48 (zS := zS) hL) rfl (c_X1_open (d_z := 0) hL hV (by decide) (s51 hL) hT_z (dog := z_hasDog zV (zT 0)) rfl) (by omega) rfl rfl (Nat.le_of_ble_eq_true rfl) ⟨Nat.le_refl _, Nat.le_refl _⟩ ?_
  rintro _ _ ⟨rfl, I2_z, rfl, hf2, hN2⟩
  refine z_s 26 hB_z dX9_walkersTonight_25 rfl rfl ?_
  refine z_getR 29 hB_z fX9_40 (L4_z (zS := zS) hL) dX9_walkersTonight_26 rfl rfl (r4_4 (zS := zS) hL) ?_
  refine z_getI 32 hB_z fX9_306 (L48 (zS := zS) hL) dX9_walkersTonight_29 rfl rfl ?_
  refine z_iret hM_z dX9_walkersTonight_32 rfl ?_ rfl rfl
  exact ⟨by rw [show z_I (z_up zS I2_z) 48 2 = _ from hN2.1], I2_z, rfl, hf2⟩

theorem c_X9_serverTonight {g_z : z_U} {d_z : Nat} {zS : z_S} {zV : z_V} {zT : Nat → Int32} (hL : z_L zS) (hV : z_rV (z_I zS) 7 zV) (hT_z : z_rT (z_I zS) 51 zT) {c_z : Nat} (hc_z : c_z < 10) : z_C g_z (d_z + 5) 0 0 mX9_serverTonight [.ref 4, .int (nI c_z)] zS (fun r_z zS' => r_z = some (.int ((z_dayO zV zT (z_hasDog zV (zT 0))).2.2.2.2.2.2 c_z)) ∧ ∃ zI', z_up zS zI' = zS' ∧ z_fr z_PN (z_I zS) zI') := by
  refine z_enter [some (.ref 4), some (.int (nI c_z))] rfl rfl (Nat.le_of_ble_eq_true rfl) rfl (fun zX hM_z => ?_)
  have hB_z : z_B g_z zX RX9 cX9_serverTonight 2 := hM_z.1
  refine z_s 1 hB_z dX9_serverTonight_0 rfl rfl ?_
  refine z_callV 4 hB_z hM_z.2.1 kX9_179 dX9_serverTonight_1 rfl (L4_z (zS := zS) hL) rfl (c_X9_playTonight (d_z := 0) hL hV hT_z) (by omega) rfl rfl (Nat.le_of_ble_eq_true rfl) ⟨Nat.le_refl _, Nat.le_refl _⟩ ?_
  rintro _ _ ⟨rfl, I2_z, rfl, hf2, hN2⟩
  refine z_s 5 hB_z dX9_serverTonight_4 rfl rfl ?_
  refine z_getR 8 hB_z fX9_40 (L4_z (zS := zS) hL) dX9_serverTonight_5 rfl rfl (r4_4 (zS := zS) hL) ?_
  refine z_getR 11 hB_z fX9_309 (L48 (zS := zS) hL) dX9_serverTonight_8 rfl rfl (r48_1 (zS := zS) hL) ?_
  refine z_s 12 hB_z dX9_serverTonight_11 rfl rfl ?_
  refine z_callV 15 hB_z hM_z.2.1 kX9_118 dX9_serverTonight_12 rfl (L49 (zS := zS) hL) rfl (c_at (zS := z_up zS I2_z) (d_z := 0) (w49 hL) (by decide) hc_z) (by omega) rfl rfl (Nat.le_of_ble_eq_true rfl) ⟨Nat.le_refl _, Nat.le_refl _⟩ ?_
  rintro _ _ ⟨rfl, rfl⟩
  refine z_iret hM_z dX9_serverTonight_15 rfl ?_ rfl rfl
  exact ⟨by rw [show z_I (z_up zS I2_z) 50 c_z = _ from hN2.2.2.2.2.2.2.2 c_z hc_z], I2_z, rfl, hf2⟩

