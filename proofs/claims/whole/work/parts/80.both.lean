/-! both sides at once -/
theorem z_is.ext {zS zS' : z_S} {o : Nat} {q_z : Nat × Nat} (h_z : z_is zS o q_z) (ho : o < 99) (hkd : ∀ o, o < 99 → z_kd zS' o = z_kd zS o) (hn : z_nx zS ≤ z_nx zS') : z_is zS' o q_z := ⟨(hkd o ho).trans h_z.1, h_z.2.1, by have := h_z.2.2; omega⟩
theorem z_row.ext {zS zS' : z_S} {o a_z n_z : Nat} (h_z : z_row zS o a_z n_z) (ho : o < 99) (ha_z : a_z < 99) (hkd : ∀ o, o < 99 → z_kd zS' o = z_kd zS o) (hR : ∀ o k_z, o < 99 → z_R zS' o k_z = z_R zS o k_z) (hn : z_nx zS ≤ z_nx zS') : z_row zS' o a_z n_z := ⟨h_z.1.ext ho hkd hn, (hR o 0 ho).trans h_z.2.1, h_z.2.2.ext ha_z hkd hn⟩
theorem z_st.ext {zS zS' : z_S} {o : Nat} (h_z : z_st zS o) (ho : o + 2 < 99) (hkd : ∀ o, o < 99 → z_kd zS' o = z_kd zS o) (hR : ∀ o k_z, o < 99 → z_R zS' o k_z = z_R zS o k_z) (hn : z_nx zS ≤ z_nx zS') : z_st zS' o := ⟨h_z.1.ext (by omega) hkd hn, (hR o 6 (by omega)).trans h_z.2.1, h_z.2.2.ext (by omega) (by omega) hkd hR hn⟩
theorem z_shelf.ext {zS zS' : z_S} {f_z a_z N_z b_z u_z : Nat} {U_z : Nat → Nat → Int32} (h_z : z_shelf zS f_z a_z N_z b_z U_z u_z) (hf : f_z < 99) (ha_z : a_z < 99) (hb_z : b_z + 3 * N_z ≤ 99) (hkd : ∀ o, o < 99 → z_kd zS' o = z_kd zS o) (hI : ∀ o k_z, o < 99 → z_I zS' o k_z = z_I zS o k_z) (hR : ∀ o k_z, o < 99 → z_R zS' o k_z = z_R zS o k_z) (hn : z_nx zS ≤ z_nx zS') : z_shelf zS' f_z a_z N_z b_z U_z u_z := by
  obtain ⟨r_z, ⟨s1_z, s2_z, s3_z, s4_z, s5, s6_z, s7⟩, hz, hu, hU⟩ := h_z
  refine ⟨r_z, ⟨s1_z.ext hf hkd hn, (hR f_z 0 hf).trans s2_z, s3_z.ext ha_z hkd hn, fun j_z hj => (hR a_z j_z ha_z).trans (s4_z j_z hj), s5, s6_z, fun i_z hi_z => (s7 i_z hi_z).ext (by omega) hkd hR hn⟩, (hI f_z 1 hf).trans hz, hu, fun j_z hj => ?_⟩
  have h5 := s5 j_z (by omega)
  exact ⟨fun k_z hk => (hI _ k_z (by omega)).trans ((hU j_z hj).1 k_z hk), fun k_z hk => (hI _ k_z (by omega)).trans ((hU j_z hj).2 k_z hk)⟩
theorem z_rL99 : ∀ t_z ∈ z_rL, t_z.1 < 99 := by decide
theorem z_RC.ext {zS zS' : z_S} {A_z : z_Ab} (h_z : z_RC zS A_z) (hkd : ∀ o, o < 99 → z_kd zS' o = z_kd zS o) (hI : ∀ o k_z, o < 99 → z_I zS' o k_z = z_I zS o k_z) (hR : ∀ o k_z, o < 99 → z_R zS' o k_z = z_R zS o k_z) (hn : z_nx zS ≤ z_nx zS') : z_RC zS' A_z := by
  obtain ⟨h1, h2, h3, h4, h5, h6, h7⟩ := h_z
  have hf : z_fr (fun q_z => 99 ≤ q_z) (z_I zS) (z_I zS') := fun q_z k_z hq => hI q_z k_z (by omega)
  exact ⟨⟨fun k_z hk => (hkd _ (by omega)).trans (h1.1 k_z hk), by have := h1.2.1; omega, fun t_z ht => (hR _ _ (z_rL99 t_z ht)).trans (h1.2.2 t_z ht)⟩, h2.fr hf (fun q_z a_z b_z => by omega), h3.fr hf ⟨by decide, by decide⟩, h4.ext (by decide) (by decide) (by decide) hkd hI hR hn, h5.ext (by decide) (by decide) (by decide) hkd hI hR hn, h6.fr hf (fun q_z a_z b_z => by omega), h7.fr hf (by decide) (by decide)⟩
theorem z_RM.ext {zI zI' : Nat → Nat → Int32} {A_z : z_Ab} (h_z : z_RM zI A_z) (hf : ∀ q_z k_z, 99 ≤ q_z → zI' q_z k_z = zI q_z k_z) : z_RM zI' A_z :=
  ⟨(hf 99 0 (by decide)).trans h_z.xl, fun k_z hk => (hf 100 k_z (by decide)).trans (h_z.xs k_z hk), (hf 99 10 (by decide)).trans h_z.sn, (hf 99 11 (by decide)).trans h_z.sm, (hf 99 12 (by decide)).trans h_z.sd, fun s_z hs k_z hk => (hf 104 _ (by decide)).trans (h_z.so s_z hs k_z hk), fun s_z hs k_z hk => (hf 105 _ (by decide)).trans (h_z.sg s_z hs k_z hk), h_z.nw.fr (fun k_z _ _ => hf 106 k_z (by decide)), (hf 99 18 (by decide)).trans h_z.bl, fun j_z hj => (h_z.bs j_z hj).fr (fun k_z _ _ => hf 108 k_z (by decide)), (hf 99 20 (by decide)).trans h_z.kl, fun j_z hj => (h_z.ks j_z hj).fr (fun k_z _ _ => hf 109 k_z (by decide)), (hf 99 21 (by decide)).trans h_z.el, fun i_z hi_z => ⟨(hf 110 _ (by decide)).trans (h_z.es i_z hi_z).1, (hf 110 _ (by decide)).trans (h_z.es i_z hi_z).2.1, (hf 110 _ (by decide)).trans (h_z.es i_z hi_z).2.2⟩⟩
def z_BO (zS : z_S) (A_z : z_Ab) : Prop := z_RC zS A_z ∧ z_LM zS ∧ z_RM (z_I zS) A_z ∧ z_OK A_z
theorem z_BO.q {zS : z_S} {A_z : z_Ab} {zI' : Nat → Nat → Int32} (h_z : z_BO zS A_z) (hf : z_fr z_scr (z_I zS) zI') : z_BO (z_up zS zI') A_z :=
  ⟨h_z.1.scr hf, h_z.2.1, h_z.2.2.1.ext (fun q_z k_z hq => hf q_z k_z (fun z_z => by unfold z_scr at z_z; omega)), h_z.2.2.2⟩
theorem z_BO.m {zS : z_S} {A_z : z_Ab} {zI' : Nat → Nat → Int32} (h_z : z_BO zS A_z) (hf : z_f2 z_scM (z_I zS) zI') : z_BO (z_up zS zI') A_z :=
  ⟨h_z.1.ext (zS' := z_up zS zI') (fun _ _ => rfl) (fun o k_z ho => hf o k_z (fun z_z => by unfold z_scM at z_z; omega)) (fun _ _ _ => rfl) (Nat.le_refl _), h_z.2.1, h_z.2.2.1.scr hf, h_z.2.2.2⟩
theorem z_rLM9 : ∀ t_z ∈ z_rLM, 99 ≤ t_z.1 := by decide
theorem z_BO.c {zS zS' : z_S} {A_z : z_Ab} (h_z : z_BO zS A_z) (hk : z_kM zS zS') : z_LM zS' ∧ z_RM (z_I zS') A_z := by
  obtain ⟨k1_z, k2_z, k3_z, k4_z⟩ := hk
  refine ⟨⟨fun k_z hk => by rw [k1_z]; exact h_z.2.1.1 k_z hk, by rw [k2_z]; exact h_z.2.1.2.1, fun t_z ht => (k4_z _ _ (z_rLM9 t_z ht)).trans (h_z.2.1.2.2 t_z ht)⟩, h_z.2.2.1.ext (fun q_z k_z hq => k3_z q_z k_z hq)⟩
theorem z_BO.d {zS : z_S} {A_z : z_Ab} {zI' : Nat → Nat → Int32} (hC : z_RC zS A_z) (hN_z : z_LM zS) (hR : z_RM zI' A_z) (hf : z_f2 (fun q_z _ => 99 ≤ q_z) (z_I zS) zI') (hO : z_OK A_z) : z_BO (z_up zS zI') A_z :=
  ⟨hC.ext (zS' := z_up zS zI') (fun _ _ => rfl) (fun o k_z ho => hf o k_z (by omega)) (fun _ _ _ => rfl) (Nat.le_refl _), hN_z, hR, hO⟩
theorem z_RC.sz {zS : z_S} {A_z : z_Ab} (h_z : z_RC zS A_z) : (z_AX A_z).2 ≤ 200 ∧ (z_AU A_z).2 ≤ 8 ∧ (z_AK A_z).2 ≤ 2 ∧ (z_AS A_z).2.2.2 ≤ 8 := by
  obtain ⟨h1, h2, h3, ⟨_, _, _, hu, _⟩, ⟨_, _, _, hk, _⟩, h6, h7⟩ := h_z
  exact ⟨h7.2.1, hu, hk, h6.2.1⟩
theorem z_n44 (t_z : Nat) : nI (4 * t_z) + 4 = nI (4 * (t_z + 1)) := (nI_add (4 * t_z) 4).trans (congrArg nI (show 4 * t_z + 4 = 4 * (t_z + 1) by omega))
theorem z_nij (t_z j_z : Nat) : nI (4 * t_z) + nI j_z = nI (4 * t_z + j_z) := nI_add _ _
/-- there is room for a call yet -/
theorem z_more {t_z n_z : Nat} (hn : n_z ≤ 256) (ht : t_z ≤ 64) (h_z : nI (4 * t_z) ≤ nI n_z - 4) : 4 * t_z + 4 ≤ n_z := by
  by_cases q_z : n_z < 4
  · exfalso
    have h0 : 0 ≤ nI (4 * t_z) := nI_pos' (by omega)
    have h1 := Int32.le_trans h0 h_z
    rcases (show n_z = 0 ∨ n_z = 1 ∨ n_z = 2 ∨ n_z = 3 by omega) with rfl | rfl | rfl | rfl
    · exact absurd h1 (by decide)
    · exact absurd h1 (by decide)
    · exact absurd h1 (by decide)
    · exact absurd h1 (by decide)
  · have e_z : nI n_z - 4 = nI (n_z - 4) := show nI n_z - nI 4 = _ from pk_sub (by omega)
    rw [e_z] at h_z
    have := (nI_leI (by omega) (by omega)).mp h_z
    omega
