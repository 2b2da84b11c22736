/-! the model: a night is laid -/
def z_ms (zV : z_V) (w_z K_z way_z : Int32) (c_z : Nat) : Int32 × Option Nat := z_scan w_z (z_rd zV.1 8 6 (zV.1 5 c_z)) (fun s_z => decide (z_wakes way_z (zV.1 7 c_z) (zV.1 0 s_z) = 1)) zV.2.1 0 K_z
/-- woken, served, first with a ham, whether he that is asked after is served with nobody woken; who serves -/
abbrev z_MN : Type := Int32 × Int32 × Int32 × Int32 × (Nat → Int32)
def z_mr (zV : z_V) (t_z w_z way_z : Int32) (c_z : Nat) (K_z : Int32) : Int32 × Option Nat := if z_comes zV t_z c_z then z_ms zV w_z K_z way_z c_z else (K_z, none)
def z_mw (zV : z_V) (who ow : Int32) (c_z : Nat) : Int32 := if nI c_z = who then ow else zV.1 6 c_z
def z_sl (r_z : Option Nat) : Int32 := match r_z with
  | none => -4
  | some s_z => nI s_z
def z_m1 (zV : z_V) (t_z w_z who ow : Int32) (D_z : z_MN) (c_z : Nat) : z_MN :=
  ((z_mr zV t_z w_z (z_mw zV who ow c_z) c_z D_z.1).1, D_z.2.1 + (if (z_mr zV t_z w_z (z_mw zV who ow c_z) c_z D_z.1).2 = none then 0 else 1), if z_comes zV t_z c_z = true ∧ (z_mr zV t_z w_z (z_mw zV who ow c_z) c_z D_z.1).2 = none ∧ D_z.2.2.1 = -4 then nI c_z else D_z.2.2.1, if nI c_z = who ∧ ¬ (z_mr zV t_z w_z (z_mw zV who ow c_z) c_z D_z.1).2 = none ∧ (z_mr zV t_z w_z (z_mw zV who ow c_z) c_z D_z.1).1 = D_z.1 then 1 else D_z.2.2.2.1, fun q_z => if q_z = c_z then z_sl (z_mr zV t_z w_z (z_mw zV who ow c_z) c_z D_z.1).2 else D_z.2.2.2.2 q_z)
def z_mn (zV : z_V) (t_z w_z who ow : Int32) : Nat → z_MN
  | 0 => (0, 0, -4, 0, fun _ => -4)
  | c_z + 1 => z_m1 zV t_z w_z who ow (z_mn zV t_z w_z who ow c_z) c_z
/-- what laying a night changes -/
def z_PLN : Nat → Nat → Prop := fun q_z k_z => q_z = 111 ∨ (q_z = 99 ∧ (k_z = 23 ∨ k_z = 24 ∨ k_z = 26 ∨ k_z = 27 ∨ k_z = 28))
def z_rMN (zI : Nat → Nat → Int32) (c_z : Nat) (D_z : z_MN) : Prop := zI 99 24 = D_z.1 ∧ zI 99 27 = D_z.2.1 ∧ zI 99 26 = D_z.2.2.1 ∧ zI 99 28 = D_z.2.2.2.1 ∧ ∀ q_z, q_z < c_z → zI 111 q_z = D_z.2.2.2.2 q_z
theorem z_hb_and (x_z y_z : Int32) (i_z : Nat) (hi_z : i_z < 32) : z_hb (x_z &&& y_z) i_z = (z_hb x_z i_z && z_hb y_z i_z) := by
  rw [z_hb_bit _ i_z hi_z, z_hb_bit _ i_z hi_z, z_hb_bit _ i_z hi_z]
  exact BitVec.getLsbD_and
/-- one customer, so far: who serves (b), K woken, k looked at -/
def z_ri (cm : Bool) (w_z srv : Int32) (wk_z : Nat → Bool) (n_z k_z : Nat) (K_z : Int32) (b_z : Option Nat) : Int32 × Option Nat := match b_z with
  | none => if cm then z_scan w_z srv wk_z (n_z - k_z) k_z K_z else (K_z, none)
  | some s_z => (K_z, some s_z)
theorem z_ri_some {cm : Bool} {w_z srv : Int32} {wk_z : Nat → Bool} {n_z k_z : Nat} {K_z : Int32} {s_z : Nat} : z_ri cm w_z srv wk_z n_z k_z K_z (some s_z) = (K_z, some s_z) := rfl
theorem z_ri_end {cm : Bool} {w_z srv : Int32} {wk_z : Nat → Bool} {n_z : Nat} {K_z : Int32} {b_z : Option Nat} : z_ri cm w_z srv wk_z n_z n_z K_z b_z = (K_z, b_z) := by
  cases b_z with
  | some s_z => rfl
  | none =>
    unfold z_ri
    rw [Nat.sub_self]
    cases cm <;> rfl
theorem z_ri_not {w_z srv : Int32} {wk_z : Nat → Bool} {n_z k_z : Nat} {K_z : Int32} {b_z : Option Nat} : z_ri false w_z srv wk_z n_z k_z K_z b_z = (K_z, b_z) := by
  cases b_z with
  | some s_z => rfl
  | none => rfl
theorem z_ri_step {w_z srv : Int32} {wk_z : Nat → Bool} {n_z k_z : Nat} {K_z : Int32} (h_z : k_z < n_z) : z_ri true w_z srv wk_z n_z k_z K_z none = if z_hb (w_z &&& (K_z ^^^ -1) &&& srv) k_z then (if wk_z k_z then z_ri true w_z srv wk_z n_z (k_z + 1) (K_z ||| (1 <<< (nI k_z &&& 31))) none else (K_z, some k_z)) else z_ri true w_z srv wk_z n_z (k_z + 1) K_z none := by
  show z_scan w_z srv wk_z (n_z - k_z) k_z K_z = _
  obtain ⟨m_z, hm_z⟩ : ∃ m_z, n_z - k_z = m_z + 1 := ⟨n_z - k_z - 1, by omega⟩
  rw [hm_z]
  have h2 : n_z - (k_z + 1) = m_z := by omega
  unfold z_ri
  rw [h2]
  rfl
theorem z_sl_none {b_z : Option Nat} (hb_z : ∀ s_z, b_z = some s_z → s_z < 1000) : z_sl b_z = -4 ↔ b_z = none := by
  cases b_z with
  | none => exact ⟨fun _ => rfl, fun _ => rfl⟩
  | some s_z =>
    have hs := hb_z s_z rfl
    constructor
    · intro q_z
      exfalso
      have h1 : nI s_z = -4 := q_z
      have h2 : 0 ≤ nI s_z := nI_pos' (by omega)
      rw [h1] at h2
      exact absurd h2 (by decide)
    · intro q_z; cases q_z
theorem z_wakes01 (a_z b_z c_z : Int32) : z_wakes a_z b_z c_z = 0 ∨ z_wakes a_z b_z c_z = 1 := by
  unfold z_wakes
  split
  · split
    · exact Or.inr rfl
    · exact Or.inl rfl
  · split
    · split
      · exact Or.inr rfl
      · exact Or.inl rfl
    · split
      · split
        · exact Or.inr rfl
        · exact Or.inl rfl
      · exact Or.inl rfl
theorem z_OV.srv {zV : z_V} (h_z : z_OV zV) {s_z c_z : Nat} (hs : s_z < zV.2.1) (hc_z : c_z < zV.2.2.1) : z_hb (z_rd zV.1 8 6 (zV.1 5 c_z)) s_z = decide (zV.1 5 c_z = zV.1 1 s_z ∨ zV.1 5 c_z = (zV.1 1 s_z + 1) - (zV.1 1 s_z + 1) / 6 * 6) := by
  obtain ⟨h0, h5⟩ := h_z.2.2.2.2.2.1 c_z hc_z
  obtain ⟨j_z, hj, e_z⟩ := z_le28 h0 (m_z := 5) (by decide) h5
  rw [e_z]
  have e2_z : z_rd zV.1 8 6 (nI j_z) = zV.1 8 j_z := by
    unfold z_rd
    rw [if_pos ⟨nI_pos' (by omega), (nI_ltI (by omega) (by decide)).mpr (by omega)⟩, nI_clamp (by omega)]
  rw [e2_z]
  exact h_z.2.2.2.2.2.2 s_z hs j_z (by omega)
theorem z_xs {g_z : z_U} {zX : z_X} {pc : Nat} {ls : List (Option Value)} {x_z y_z : Int32} {cl_z sl_z : Nat} {zS : z_S} (h_z : z_W g_z zX pc ls [.int y_z] cl_z sl_z zS) (e_z : x_z = y_z) : z_W g_z zX pc ls [.int x_z] cl_z sl_z zS := by
  subst e_z; exact h_z
theorem z_scan_lt {w_z srv : Int32} {wk_z : Nat → Bool} : ∀ (m_z s_z : Nat) (K_z : Int32) (a_z : Nat), (z_scan w_z srv wk_z m_z s_z K_z).2 = some a_z → a_z < s_z + m_z
  | 0, s_z, K_z, a_z, h_z => by cases h_z
  | m_z + 1, s_z, K_z, a_z, h_z => by
    unfold z_scan at h_z
    split at h_z
    · split at h_z
      · have := z_scan_lt m_z (s_z + 1) _ a_z h_z; omega
      · cases h_z; omega
    · have := z_scan_lt m_z (s_z + 1) _ a_z h_z; omega
theorem z_mr_lt {zV : z_V} (hO : z_OV zV) {t_z w_z way_z : Int32} {c_z : Nat} {K_z : Int32} {s_z : Nat} (h_z : (z_mr zV t_z w_z way_z c_z K_z).2 = some s_z) : s_z < 1000 := by
  unfold z_mr at h_z
  split at h_z
  · have h1 := z_scan_lt _ _ _ _ h_z
    have := hO.2.1
    omega
  · cases h_z
theorem z_m14 {x_z : Int32} : z_mod x_z 14 = x_z - x_z / 14 * 14 := if_pos (by decide)
set_option maxHeartbeats 4000000 in
theorem c_X10_layNight {g_z : z_U} {d_z : Nat} {zS : z_S} (hN_z : z_LM zS) {zV : z_V} (hO : z_OV zV) (hV : z_mV (z_I zS) zV) {db : Int32} (hdb : z_I zS 99 25 = db) {o : Nat} (ho : z_is zS o (1, 17)) (ho9 : o = 106 ∨ o = 107) {zT : Nat → Int32} (hW : z_rW (z_I zS) o 0 zT) {dog : Bool} (hdg : z_mdg zV db (zT 0) = dog) {who ow : Int32} : z_C g_z (d_z + 2) 0 0 mX10_layNight [.ref 99, .ref o, .int who, .int ow] zS (fun r_z zS' => r_z = none ∧ ∃ zI', z_up zS zI' = zS' ∧ z_f2 z_PLN (z_I zS) zI' ∧ zI' 99 23 = z_wkd zV zT dog zV.2.1 ∧ z_rMN zI' zV.2.2.1 (z_mn zV (zT 0) (z_wkd zV zT dog zV.2.1) who ow zV.2.2.1)) := by
  refine z_enter [some (.ref 99), some (.ref o), some (.int who), some (.int ow), none, none, none, none, none, none] rfl rfl (Nat.le_of_ble_eq_true rfl) rfl (fun zX hM_z => ?_)
  have hB_z : z_B g_z zX RX10 cX10_layNight 10 := hM_z.1
  have hn6 := hO.2.1
  have hm10 := hO.2.2.1
  obtain ⟨w_z, hwe⟩ : ∃ w_z, z_wkd zV zT dog zV.2.1 = w_z := ⟨_, rfl⟩
  rw [hwe] at hM_z
  have loop := z_loop (fun c_z => ∀ I1, z_f2 z_PLN (z_I zS) I1 → I1 99 23 = w_z → z_rMN I1 c_z (z_mn zV (zT 0) w_z who ow c_z) → z_W g_z zX 29 [some (.ref 99), some (.ref o), some (.int who), some (.int ow), some (.int (nI c_z)), none, none, none, none, none] [] 0 0 (z_up zS I1)) zV.2.2.1 (fun c_z hc_z ih_z I1 hf hw hD => by
    obtain ⟨D_z, hDe⟩ : ∃ D_z, z_mn zV (zT 0) w_z who ow c_z = D_z := ⟨_, rfl⟩
    have ih_z : c_z < zV.2.2.1 → ∀ I1, z_f2 z_PLN (z_I zS) I1 → I1 99 23 = w_z → z_rMN I1 (c_z + 1) (z_m1 zV (zT 0) w_z who ow D_z c_z) → z_W g_z zX 29 [some (.ref 99), some (.ref o), some (.int who), some (.int ow), some (.int (nI (c_z + 1))), none, none, none, none, none] [] 0 0 (z_up zS I1) := fun h_z I1 a_z b_z q_z => ih_z h_z I1 a_z b_z (by show z_rMN I1 (c_z + 1) (z_m1 zV (zT 0) w_z who ow (z_mn zV (zT 0) w_z who ow c_z) c_z); rw [hDe]; exact q_z)
    have hD0 := hD
    rw [hDe] at hD
    refine z_s 31 hB_z dX10_layNight_29 rfl rfl ?_
    refine z_s 32 hB_z dX10_layNight_31 rfl rfl ?_
    refine z_getI 35 hB_z fX10_61 (N99 (zS := zS) hN_z) dX10_layNight_32 rfl rfl ?_
    rw [show z_I (z_up zS I1) 99 11 = nI zV.2.2.1 from (hf 99 11 (by unfold z_PLN; omega)).trans hV.2.1]
    refine z_b 38 347 hB_z dX10_layNight_35 rfl rfl (by decide) (fun c_35 => ?_) (fun c_35 => ?_)
    ·
      have hcm : c_z = zV.2.2.1 := by
        have := (nI_leI (by omega) (by omega)).mp (show nI zV.2.2.1 ≤ nI c_z from c_35)
        omega
      subst hcm
      refine z_vret hM_z dX10_layNight_347 rfl ?_ rfl rfl
      exact ⟨rfl, I1, rfl, hf, hw, hD0⟩
    ·
      have hcm : c_z < zV.2.2.1 := (nI_ltI (by omega) (by omega)).mp (show nI c_z < nI zV.2.2.1 from c_35)
      obtain ⟨r_z, hr⟩ : ∃ r_z, z_mr zV (zT 0) w_z (z_mw zV who ow c_z) c_z D_z.1 = r_z := ⟨_, rfl⟩
      have hr0 : r_z = z_ri (z_comes zV (zT 0) c_z) w_z (z_rd zV.1 8 6 (zV.1 5 c_z)) (fun s_z => decide (z_wakes (z_mw zV who ow c_z) (zV.1 7 c_z) (zV.1 0 s_z) = 1)) zV.2.1 0 D_z.1 none := by
        rw [← hr]
        rfl
      have hrs : ∀ s_z, r_z.2 = some s_z → s_z < 1000 := fun s_z hs => by
        rw [← hr] at hs
        exact z_mr_lt hO hs
      have t302 : ∀ (I2_z : Nat → Nat → Int32) (fh : Int32), z_f2 z_PLN (z_I zS) I2_z → I2_z 99 23 = w_z → I2_z 99 24 = r_z.1 → I2_z 99 27 = D_z.2.1 + (if r_z.2 = none then 0 else 1) → I2_z 99 26 = fh → (if z_comes zV (zT 0) c_z = true ∧ r_z.2 = none ∧ D_z.2.2.1 = -4 then nI c_z else D_z.2.2.1) = fh → I2_z 99 28 = D_z.2.2.2.1 → I2_z 111 c_z = z_sl r_z.2 → (∀ q_z, q_z < c_z → I2_z 111 q_z = D_z.2.2.2.2 q_z) → z_W g_z zX 302 [some (.ref 99), some (.ref o), some (.int who), some (.int ow), some (.int (nI c_z)), none, none, some (.int D_z.1), none, none] [] 0 0 (z_up zS I2_z) := fun I2_z fh hf hw hk24 hk27 hk26 hfh hk28 hbc hby => by
        refine z_s 303 hB_z dX10_layNight_302 rfl rfl ?_
        refine z_s 305 hB_z dX10_layNight_303 rfl rfl ?_
        refine z_s 306 hB_z dX10_layNight_305 rfl rfl ?_
        refine z_b 309 334 hB_z dX10_layNight_306 rfl rfl (by decide) (fun c_306 => ?_) (fun c_306 => ?_)
        ·
          refine z_s 335 hB_z dX10_layNight_334 rfl rfl ?_
          refine z_getI 338 hB_z fX10_161 (N99 (zS := zS) hN_z) dX10_layNight_335 rfl rfl ?_
          rw [show z_I (z_up zS I2_z) 99 28 = D_z.2.2.2.1 from hk28]
          refine z_putI 341 hB_z fX10_161 (N99 (zS := zS) hN_z) dX10_layNight_338 rfl rfl rfl ?_
          refine z_s 344 hB_z dX10_layNight_341 rfl rfl ?_
          refine z_j 29 hB_z dX10_layNight_344 (by decide) ?_
          have hwo : (if nI c_z = who ∧ ¬ r_z.2 = none ∧ r_z.1 = D_z.1 then (1 : Int32) else D_z.2.2.2.1) = D_z.2.2.2.1 := if_neg (fun z_z => c_306 z_z.1)
          have e1_z : z_m1 zV (zT 0) w_z who ow D_z c_z = (r_z.1, D_z.2.1 + (if r_z.2 = none then 0 else 1), fh, D_z.2.2.2.1, fun q_z => if q_z = c_z then z_sl r_z.2 else D_z.2.2.2.2 q_z) := by
            unfold z_m1
            rw [hr, hfh, hwo]
          refine z_wkn (ih_z hcm (z_u2 I2_z 99 28 (D_z.2.2.2.1)) (hf.u2 (Or.inr ⟨rfl, Or.inr (Or.inr (Or.inr (Or.inr rfl)))⟩)) ((z_u2_ne (Or.inr (by decide))).trans hw) ?_) ⟨rfl, rfl, rfl, rfl, congrArg (fun q_z => some (Value.int q_z)) (z_inc c_z), trivial⟩
          show z_rMN _ (c_z + 1) (z_m1 zV (zT 0) w_z who ow D_z c_z)
          rw [e1_z]
          refine ⟨(z_u2_ne (Or.inr (by decide))).trans hk24, (z_u2_ne (Or.inr (by decide))).trans hk27, (z_u2_ne (Or.inr (by decide))).trans hk26, z_u2_same _ _ _ _, fun q_z hq => ?_⟩
          rw [z_u2_ne (Or.inl (by decide))]
          by_cases e_z : q_z = c_z
          · rw [e_z, hbc]; exact (if_pos rfl).symm
          · rw [hby q_z (by omega)]; exact (if_neg e_z).symm
        ·
          refine z_s 310 hB_z dX10_layNight_309 rfl rfl ?_
          refine z_getR 313 hB_z fX10_43 (N99 (zS := zS) hN_z) dX10_layNight_310 rfl rfl (n99_29 (zS := zS) hN_z) ?_
          refine z_s 315 hB_z dX10_layNight_313 rfl rfl ?_
          refine z_ald 316 hB_z (N111 (zS := zS) hN_z) dX10_layNight_315 rfl (vp_in_nI (show c_z < 10 by omega) (by decide)) ?_
          rw [nI_clamp (by omega), show z_I (z_up zS I2_z) 111 c_z = z_sl r_z.2 from hbc]
          refine z_s 318 hB_z dX10_layNight_316 rfl rfl ?_
          refine z_b 321 334 hB_z dX10_layNight_318 rfl rfl (by decide) (fun c_318 => ?_) (fun c_318 => ?_)
          ·
            refine z_s 335 hB_z dX10_layNight_334 rfl rfl ?_
            refine z_getI 338 hB_z fX10_161 (N99 (zS := zS) hN_z) dX10_layNight_335 rfl rfl ?_
            rw [show z_I (z_up zS I2_z) 99 28 = D_z.2.2.2.1 from hk28]
            refine z_putI 341 hB_z fX10_161 (N99 (zS := zS) hN_z) dX10_layNight_338 rfl rfl rfl ?_
            refine z_s 344 hB_z dX10_layNight_341 rfl rfl ?_
            refine z_j 29 hB_z dX10_layNight_344 (by decide) ?_
            have hwo : (if nI c_z = who ∧ ¬ r_z.2 = none ∧ r_z.1 = D_z.1 then (1 : Int32) else D_z.2.2.2.1) = D_z.2.2.2.1 := if_neg (fun z_z => z_z.2.1 ((z_sl_none hrs).mp c_318))
            have e1_z : z_m1 zV (zT 0) w_z who ow D_z c_z = (r_z.1, D_z.2.1 + (if r_z.2 = none then 0 else 1), fh, D_z.2.2.2.1, fun q_z => if q_z = c_z then z_sl r_z.2 else D_z.2.2.2.2 q_z) := by
              unfold z_m1
              rw [hr, hfh, hwo]
            refine z_wkn (ih_z hcm (z_u2 I2_z 99 28 (D_z.2.2.2.1)) (hf.u2 (Or.inr ⟨rfl, Or.inr (Or.inr (Or.inr (Or.inr rfl)))⟩)) ((z_u2_ne (Or.inr (by decide))).trans hw) ?_) ⟨rfl, rfl, rfl, rfl, congrArg (fun q_z => some (Value.int q_z)) (z_inc c_z), trivial⟩
            show z_rMN _ (c_z + 1) (z_m1 zV (zT 0) w_z who ow D_z c_z)
            rw [e1_z]
            refine ⟨(z_u2_ne (Or.inr (by decide))).trans hk24, (z_u2_ne (Or.inr (by decide))).trans hk27, (z_u2_ne (Or.inr (by decide))).trans hk26, z_u2_same _ _ _ _, fun q_z hq => ?_⟩
            rw [z_u2_ne (Or.inl (by decide))]
            by_cases e_z : q_z = c_z
            · rw [e_z, hbc]; exact (if_pos rfl).symm
            · rw [hby q_z (by omega)]; exact (if_neg e_z).symm
          ·
            refine z_s 322 hB_z dX10_layNight_321 rfl rfl ?_
            refine z_getI 325 hB_z fX10_152 (N99 (zS := zS) hN_z) dX10_layNight_322 rfl rfl ?_
            rw [show z_I (z_up zS I2_z) 99 24 = r_z.1 from hk24]
            refine z_s 327 hB_z dX10_layNight_325 rfl rfl ?_
            refine z_b 330 334 hB_z dX10_layNight_327 rfl rfl (by decide) (fun c_327 => ?_) (fun c_327 => ?_)
            ·
              refine z_s 335 hB_z dX10_layNight_334 rfl rfl ?_
              refine z_getI 338 hB_z fX10_161 (N99 (zS := zS) hN_z) dX10_layNight_335 rfl rfl ?_
              rw [show z_I (z_up zS I2_z) 99 28 = D_z.2.2.2.1 from hk28]
              refine z_putI 341 hB_z fX10_161 (N99 (zS := zS) hN_z) dX10_layNight_338 rfl rfl rfl ?_
              refine z_s 344 hB_z dX10_layNight_341 rfl rfl ?_
              refine z_j 29 hB_z dX10_layNight_344 (by decide) ?_
              have hwo : (if nI c_z = who ∧ ¬ r_z.2 = none ∧ r_z.1 = D_z.1 then (1 : Int32) else D_z.2.2.2.1) = D_z.2.2.2.1 := if_neg (fun z_z => c_327 z_z.2.2)
              have e1_z : z_m1 zV (zT 0) w_z who ow D_z c_z = (r_z.1, D_z.2.1 + (if r_z.2 = none then 0 else 1), fh, D_z.2.2.2.1, fun q_z => if q_z = c_z then z_sl r_z.2 else D_z.2.2.2.2 q_z) := by
                unfold z_m1
                rw [hr, hfh, hwo]
              refine z_wkn (ih_z hcm (z_u2 I2_z 99 28 (D_z.2.2.2.1)) (hf.u2 (Or.inr ⟨rfl, Or.inr (Or.inr (Or.inr (Or.inr rfl)))⟩)) ((z_u2_ne (Or.inr (by decide))).trans hw) ?_) ⟨rfl, rfl, rfl, rfl, congrArg (fun q_z => some (Value.int q_z)) (z_inc c_z), trivial⟩
              show z_rMN _ (c_z + 1) (z_m1 zV (zT 0) w_z who ow D_z c_z)
              rw [e1_z]
              refine ⟨(z_u2_ne (Or.inr (by decide))).trans hk24, (z_u2_ne (Or.inr (by decide))).trans hk27, (z_u2_ne (Or.inr (by decide))).trans hk26, z_u2_same _ _ _ _, fun q_z hq => ?_⟩
              rw [z_u2_ne (Or.inl (by decide))]
              by_cases e_z : q_z = c_z
              · rw [e_z, hbc]; exact (if_pos rfl).symm
              · rw [hby q_z (by omega)]; exact (if_neg e_z).symm
            ·
              refine z_s 331 hB_z dX10_layNight_330 rfl rfl ?_
              refine z_j 338 hB_z dX10_layNight_331 (by decide) ?_
              refine z_putI 341 hB_z fX10_161 (N99 (zS := zS) hN_z) dX10_layNight_338 rfl rfl rfl ?_
              refine z_s 344 hB_z dX10_layNight_341 rfl rfl ?_
              refine z_j 29 hB_z dX10_layNight_344 (by decide) ?_
              have hwo : (if nI c_z = who ∧ ¬ r_z.2 = none ∧ r_z.1 = D_z.1 then (1 : Int32) else D_z.2.2.2.1) = 1 := if_pos ⟨c_306, fun z_z => c_318 ((z_sl_none hrs).mpr z_z), c_327⟩
              have e1_z : z_m1 zV (zT 0) w_z who ow D_z c_z = (r_z.1, D_z.2.1 + (if r_z.2 = none then 0 else 1), fh, 1, fun q_z => if q_z = c_z then z_sl r_z.2 else D_z.2.2.2.2 q_z) := by
                unfold z_m1
                rw [hr, hfh, hwo]
              refine z_wkn (ih_z hcm (z_u2 I2_z 99 28 (1)) (hf.u2 (Or.inr ⟨rfl, Or.inr (Or.inr (Or.inr (Or.inr rfl)))⟩)) ((z_u2_ne (Or.inr (by decide))).trans hw) ?_) ⟨rfl, rfl, rfl, rfl, congrArg (fun q_z => some (Value.int q_z)) (z_inc c_z), trivial⟩
              show z_rMN _ (c_z + 1) (z_m1 zV (zT 0) w_z who ow D_z c_z)
              rw [e1_z]
              refine ⟨(z_u2_ne (Or.inr (by decide))).trans hk24, (z_u2_ne (Or.inr (by decide))).trans hk27, (z_u2_ne (Or.inr (by decide))).trans hk26, z_u2_same _ _ _ _, fun q_z hq => ?_⟩
              rw [z_u2_ne (Or.inl (by decide))]
              by_cases e_z : q_z = c_z
              · rw [e_z, hbc]; exact (if_pos rfl).symm
              · rw [hby q_z (by omega)]; exact (if_neg e_z).symm
      have t263 : ∀ (I2_z : Nat → Nat → Int32), z_f2 z_PLN (z_I zS) I2_z → I2_z 99 23 = w_z → I2_z 99 24 = r_z.1 → I2_z 99 27 = D_z.2.1 + (if r_z.2 = none then 0 else 1) → I2_z 99 26 = D_z.2.2.1 → I2_z 99 28 = D_z.2.2.2.1 → I2_z 111 c_z = z_sl r_z.2 → (∀ q_z, q_z < c_z → I2_z 111 q_z = D_z.2.2.2.2 q_z) → z_W g_z zX 263 [some (.ref 99), some (.ref o), some (.int who), some (.int ow), some (.int (nI c_z)), some (.int (if z_comes zV (zT 0) c_z = true then 1 else 0)), none, some (.int D_z.1), none, none] [] 0 0 (z_up zS I2_z) := fun I2_z hf hw hk24 hk27 hk26 hk28 hbc hby => by
        refine z_s 264 hB_z dX10_layNight_263 rfl rfl ?_
        refine z_s 266 hB_z dX10_layNight_264 rfl rfl ?_
        refine z_b 269 295 hB_z dX10_layNight_266 rfl rfl (by decide) (fun c_266 => ?_) (fun c_266 => ?_)
        ·
          refine z_s 296 hB_z dX10_layNight_295 rfl rfl ?_
          refine z_getI 299 hB_z fX10_158 (N99 (zS := zS) hN_z) dX10_layNight_296 rfl rfl ?_
          rw [show z_I (z_up zS I2_z) 99 26 = D_z.2.2.1 from hk26]
          refine z_putI 302 hB_z fX10_158 (N99 (zS := zS) hN_z) dX10_layNight_299 rfl rfl rfl ?_
          exact z_wkn (t302 (z_u2 I2_z 99 26 (D_z.2.2.1)) (D_z.2.2.1) (hf.u2 (Or.inr ⟨rfl, Or.inr (Or.inr (Or.inl rfl))⟩)) ((z_u2_ne (Or.inr (by decide))).trans hw) ((z_u2_ne (Or.inr (by decide))).trans hk24) ((z_u2_ne (Or.inr (by decide))).trans hk27) (z_u2_same _ _ _ _) (if_neg (fun z_z => by rw [z_z.1] at c_266; exact absurd c_266 (by decide))) ((z_u2_ne (Or.inr (by decide))).trans hk28) ((z_u2_ne (Or.inl (by decide))).trans hbc) (fun q_z hq => (z_u2_ne (Or.inl (by decide))).trans (hby q_z hq))) ⟨rfl, rfl, rfl, rfl, rfl, rfl, trivial⟩
        ·
          refine z_s 270 hB_z dX10_layNight_269 rfl rfl ?_
          refine z_getR 273 hB_z fX10_43 (N99 (zS := zS) hN_z) dX10_layNight_270 rfl rfl (n99_29 (zS := zS) hN_z) ?_
          refine z_s 275 hB_z dX10_layNight_273 rfl rfl ?_
          refine z_ald 276 hB_z (N111 (zS := zS) hN_z) dX10_layNight_275 rfl (vp_in_nI (show c_z < 10 by omega) (by decide)) ?_
          rw [nI_clamp (by omega), show z_I (z_up zS I2_z) 111 c_z = z_sl r_z.2 from hbc]
          refine z_s 278 hB_z dX10_layNight_276 rfl rfl ?_
          refine z_b 281 295 hB_z dX10_layNight_278 rfl rfl (by decide) (fun c_278 => ?_) (fun c_278 => ?_)
          ·
            refine z_s 296 hB_z dX10_layNight_295 rfl rfl ?_
            refine z_getI 299 hB_z fX10_158 (N99 (zS := zS) hN_z) dX10_layNight_296 rfl rfl ?_
            rw [show z_I (z_up zS I2_z) 99 26 = D_z.2.2.1 from hk26]
            refine z_putI 302 hB_z fX10_158 (N99 (zS := zS) hN_z) dX10_layNight_299 rfl rfl rfl ?_
            exact z_wkn (t302 (z_u2 I2_z 99 26 (D_z.2.2.1)) (D_z.2.2.1) (hf.u2 (Or.inr ⟨rfl, Or.inr (Or.inr (Or.inl rfl))⟩)) ((z_u2_ne (Or.inr (by decide))).trans hw) ((z_u2_ne (Or.inr (by decide))).trans hk24) ((z_u2_ne (Or.inr (by decide))).trans hk27) (z_u2_same _ _ _ _) (if_neg (fun z_z => c_278 ((z_sl_none hrs).mpr z_z.2.1))) ((z_u2_ne (Or.inr (by decide))).trans hk28) ((z_u2_ne (Or.inl (by decide))).trans hbc) (fun q_z hq => (z_u2_ne (Or.inl (by decide))).trans (hby q_z hq))) ⟨rfl, rfl, rfl, rfl, rfl, rfl, trivial⟩
          ·
            refine z_s 282 hB_z dX10_layNight_281 rfl rfl ?_
            refine z_getI 285 hB_z fX10_158 (N99 (zS := zS) hN_z) dX10_layNight_282 rfl rfl ?_
            rw [show z_I (z_up zS I2_z) 99 26 = D_z.2.2.1 from hk26]
            refine z_s 287 hB_z dX10_layNight_285 rfl rfl ?_
            refine z_b 290 295 hB_z dX10_layNight_287 rfl rfl (by decide) (fun c_287 => ?_) (fun c_287 => ?_)
            ·
              refine z_s 296 hB_z dX10_layNight_295 rfl rfl ?_
              refine z_getI 299 hB_z fX10_158 (N99 (zS := zS) hN_z) dX10_layNight_296 rfl rfl ?_
              rw [show z_I (z_up zS I2_z) 99 26 = D_z.2.2.1 from hk26]
              refine z_putI 302 hB_z fX10_158 (N99 (zS := zS) hN_z) dX10_layNight_299 rfl rfl rfl ?_
              exact z_wkn (t302 (z_u2 I2_z 99 26 (D_z.2.2.1)) (D_z.2.2.1) (hf.u2 (Or.inr ⟨rfl, Or.inr (Or.inr (Or.inl rfl))⟩)) ((z_u2_ne (Or.inr (by decide))).trans hw) ((z_u2_ne (Or.inr (by decide))).trans hk24) ((z_u2_ne (Or.inr (by decide))).trans hk27) (z_u2_same _ _ _ _) (if_neg (fun z_z => c_287 z_z.2.2)) ((z_u2_ne (Or.inr (by decide))).trans hk28) ((z_u2_ne (Or.inl (by decide))).trans hbc) (fun q_z hq => (z_u2_ne (Or.inl (by decide))).trans (hby q_z hq))) ⟨rfl, rfl, rfl, rfl, rfl, rfl, trivial⟩
            ·
              refine z_s 292 hB_z dX10_layNight_290 rfl rfl ?_
              refine z_j 299 hB_z dX10_layNight_292 (by decide) ?_
              refine z_putI 302 hB_z fX10_158 (N99 (zS := zS) hN_z) dX10_layNight_299 rfl rfl rfl ?_
              exact z_wkn (t302 (z_u2 I2_z 99 26 (nI c_z)) (nI c_z) (hf.u2 (Or.inr ⟨rfl, Or.inr (Or.inr (Or.inl rfl))⟩)) ((z_u2_ne (Or.inr (by decide))).trans hw) ((z_u2_ne (Or.inr (by decide))).trans hk24) ((z_u2_ne (Or.inr (by decide))).trans hk27) (z_u2_same _ _ _ _) (if_pos ⟨z_if1 c_266, (z_sl_none hrs).mp c_278, c_287⟩) ((z_u2_ne (Or.inr (by decide))).trans hk28) ((z_u2_ne (Or.inl (by decide))).trans hbc) (fun q_z hq => (z_u2_ne (Or.inl (by decide))).trans (hby q_z hq))) ⟨rfl, rfl, rfl, rfl, rfl, rfl, trivial⟩
      have t237 : ∀ (I2_z : Nat → Nat → Int32), z_f2 z_PLN (z_I zS) I2_z → I2_z 99 23 = w_z → I2_z 99 24 = r_z.1 → I2_z 99 27 = D_z.2.1 → I2_z 99 26 = D_z.2.2.1 → I2_z 99 28 = D_z.2.2.2.1 → I2_z 111 c_z = z_sl r_z.2 → (∀ q_z, q_z < c_z → I2_z 111 q_z = D_z.2.2.2.2 q_z) → z_W g_z zX 237 [some (.ref 99), some (.ref o), some (.int who), some (.int ow), some (.int (nI c_z)), some (.int (if z_comes zV (zT 0) c_z = true then 1 else 0)), none, some (.int D_z.1), none, none] [] 0 0 (z_up zS I2_z) := fun I2_z hf hw hk24 hk27 hk26 hk28 hbc hby => by
        refine z_s 238 hB_z dX10_layNight_237 rfl rfl ?_
        refine z_s 239 hB_z dX10_layNight_238 rfl rfl ?_
        refine z_getI 242 hB_z fX10_155 (N99 (zS := zS) hN_z) dX10_layNight_239 rfl rfl ?_
        rw [show z_I (z_up zS I2_z) 99 27 = D_z.2.1 from hk27]
        refine z_s 243 hB_z dX10_layNight_242 rfl rfl ?_
        refine z_getR 246 hB_z fX10_43 (N99 (zS := zS) hN_z) dX10_layNight_243 rfl rfl (n99_29 (zS := zS) hN_z) ?_
        refine z_s 248 hB_z dX10_layNight_246 rfl rfl ?_
        refine z_ald 249 hB_z (N111 (zS := zS) hN_z) dX10_layNight_248 rfl (vp_in_nI (show c_z < 10 by omega) (by decide)) ?_
        rw [nI_clamp (by omega), show z_I (z_up zS I2_z) 111 c_z = z_sl r_z.2 from hbc]
        refine z_s 251 hB_z dX10_layNight_249 rfl rfl ?_
        refine z_b 254 258 hB_z dX10_layNight_251 rfl rfl (by decide) (fun c_251 => ?_) (fun c_251 => ?_)
        ·
          refine z_s 259 hB_z dX10_layNight_258 rfl rfl ?_
          refine z_s 260 hB_z dX10_layNight_259 rfl rfl ?_
          refine z_putI 263 hB_z fX10_155 (N99 (zS := zS) hN_z) dX10_layNight_260 rfl rfl rfl ?_
          have hse : (if r_z.2 = none then (0 : Int32) else 1) = 1 := if_neg (fun z_z => c_251 ((z_sl_none hrs).mpr z_z))
          exact z_wkn (t263 (z_u2 I2_z 99 27 (D_z.2.1 + 1)) (hf.u2 (Or.inr ⟨rfl, Or.inr (Or.inr (Or.inr (Or.inl rfl)))⟩)) ((z_u2_ne (Or.inr (by decide))).trans hw) ((z_u2_ne (Or.inr (by decide))).trans hk24) ((z_u2_same _ _ _ _).trans (by rw [hse])) ((z_u2_ne (Or.inr (by decide))).trans hk26) ((z_u2_ne (Or.inr (by decide))).trans hk28) ((z_u2_ne (Or.inl (by decide))).trans hbc) (fun q_z hq => (z_u2_ne (Or.inl (by decide))).trans (hby q_z hq))) ⟨rfl, rfl, rfl, rfl, rfl, rfl, rfl, trivial⟩
        ·
          refine z_s 255 hB_z dX10_layNight_254 rfl rfl ?_
          refine z_j 259 hB_z dX10_layNight_255 (by decide) ?_
          refine z_s 260 hB_z dX10_layNight_259 rfl rfl ?_
          refine z_putI 263 hB_z fX10_155 (N99 (zS := zS) hN_z) dX10_layNight_260 rfl rfl rfl ?_
          have hse : (if r_z.2 = none then (0 : Int32) else 1) = 0 := if_pos ((z_sl_none hrs).mp c_251)
          exact z_wkn (t263 (z_u2 I2_z 99 27 (D_z.2.1 + 0)) (hf.u2 (Or.inr ⟨rfl, Or.inr (Or.inr (Or.inr (Or.inl rfl)))⟩)) ((z_u2_ne (Or.inr (by decide))).trans hw) ((z_u2_ne (Or.inr (by decide))).trans hk24) ((z_u2_same _ _ _ _).trans (by rw [hse])) ((z_u2_ne (Or.inr (by decide))).trans hk26) ((z_u2_ne (Or.inr (by decide))).trans hk28) ((z_u2_ne (Or.inl (by decide))).trans hbc) (fun q_z hq => (z_u2_ne (Or.inl (by decide))).trans (hby q_z hq))) ⟨rfl, rfl, rfl, rfl, rfl, rfl, rfl, trivial⟩
      have inner := z_loop (fun k_z => ∀ (I2_z : Nat → Nat → Int32) (K_z : Int32) (b_z : Option Nat), z_f2 z_PLN (z_I zS) I2_z → I2_z 99 23 = w_z → I2_z 99 24 = K_z → I2_z 99 27 = D_z.2.1 → I2_z 99 26 = D_z.2.2.1 → I2_z 99 28 = D_z.2.2.2.1 → I2_z 111 c_z = z_sl b_z → (∀ q_z, q_z < c_z → I2_z 111 q_z = D_z.2.2.2.2 q_z) → r_z = z_ri (z_comes zV (zT 0) c_z) w_z (z_rd zV.1 8 6 (zV.1 5 c_z)) (fun s_z => decide (z_wakes (z_mw zV who ow c_z) (zV.1 7 c_z) (zV.1 0 s_z) = 1)) zV.2.1 k_z K_z b_z → (∀ s_z, b_z = some s_z → s_z < 1000) → z_W g_z zX 104 [some (.ref 99), some (.ref o), some (.int who), some (.int ow), some (.int (nI c_z)), some (.int (if z_comes zV (zT 0) c_z = true then 1 else 0)), some (.int (z_mw zV who ow c_z)), some (.int D_z.1), some (.int (nI k_z)), none] [] 0 0 (z_up zS I2_z)) zV.2.1 (fun k_z hk ihk I2_z K_z b_z hf hw hk24 hk27 hk26 hk28 hbc hby hri hbs => by
        refine z_s 106 hB_z dX10_layNight_104 rfl rfl ?_
        refine z_s 107 hB_z dX10_layNight_106 rfl rfl ?_
        refine z_getI 110 hB_z fX10_50 (N99 (zS := zS) hN_z) dX10_layNight_107 rfl rfl ?_
        rw [show z_I (z_up zS I2_z) 99 10 = nI zV.2.1 from (hf 99 10 (by unfold z_PLN; omega)).trans hV.1]
        refine z_b 113 237 hB_z dX10_layNight_110 rfl rfl (by decide) (fun c_110 => ?_) (fun c_110 => ?_)
        ·
          have hks : k_z = zV.2.1 := by
            have := (nI_leI (by omega) (by omega)).mp (show nI zV.2.1 ≤ nI k_z from c_110)
            omega
          subst hks
          have e1_z : r_z = (K_z, b_z) := hri.trans z_ri_end
          exact z_wkn (t237 I2_z hf hw (hk24.trans (congrArg Prod.fst e1_z).symm) hk27 hk26 hk28 (hbc.trans (congrArg z_sl (congrArg Prod.snd e1_z).symm)) hby) ⟨rfl, rfl, rfl, rfl, rfl, rfl, rfl, trivial⟩
        ·
          have hks : k_z < zV.2.1 := (nI_ltI (by omega) (by omega)).mp (show nI k_z < nI zV.2.1 from c_110)
          refine z_s 115 hB_z dX10_layNight_113 rfl rfl ?_
          refine z_b 118 237 hB_z dX10_layNight_115 rfl rfl (by decide) (fun c_115 => ?_) (fun c_115 => ?_)
          ·
            have hcf := z_if0 c_115
            have e1_z : r_z = (K_z, b_z) := hri.trans (by rw [hcf]; exact z_ri_not)
            exact z_wkn (t237 I2_z hf hw (hk24.trans (congrArg Prod.fst e1_z).symm) hk27 hk26 hk28 (hbc.trans (congrArg z_sl (congrArg Prod.snd e1_z).symm)) hby) ⟨rfl, rfl, rfl, rfl, rfl, rfl, rfl, trivial⟩
          ·
            have hct := z_if1 c_115
            refine z_s 119 hB_z dX10_layNight_118 rfl rfl ?_
            refine z_getR 122 hB_z fX10_43 (N99 (zS := zS) hN_z) dX10_layNight_119 rfl rfl (n99_29 (zS := zS) hN_z) ?_
            refine z_s 124 hB_z dX10_layNight_122 rfl rfl ?_
            refine z_ald 125 hB_z (N111 (zS := zS) hN_z) dX10_layNight_124 rfl (vp_in_nI (show c_z < 10 by omega) (by decide)) ?_
            rw [nI_clamp (by omega), show z_I (z_up zS I2_z) 111 c_z = z_sl b_z from hbc]
            refine z_s 127 hB_z dX10_layNight_125 rfl rfl ?_
            refine z_b 130 237 hB_z dX10_layNight_127 rfl rfl (by decide) (fun c_127 => ?_) (fun c_127 => ?_)
            ·
              obtain ⟨s_z, rfl⟩ : ∃ s_z, b_z = some s_z := by
                cases b_z with
                | none => exact absurd rfl c_127
                | some s_z => exact ⟨s_z, rfl⟩
              have e1_z : r_z = (K_z, some s_z) := hri.trans rfl
              exact z_wkn (t237 I2_z hf hw (hk24.trans (congrArg Prod.fst e1_z).symm) hk27 hk26 hk28 (hbc.trans (congrArg z_sl (congrArg Prod.snd e1_z).symm)) hby) ⟨rfl, rfl, rfl, rfl, rfl, rfl, rfl, trivial⟩
            ·
              have hb0 : b_z = none := (z_sl_none hbs).mp c_127
              subst hb0
              rw [hct] at hri
              have hsv : z_hb (w_z &&& (K_z ^^^ -1) &&& z_rd zV.1 8 6 (zV.1 5 c_z)) k_z = (z_hb (w_z &&& (K_z ^^^ -1)) k_z && decide (zV.1 5 c_z = zV.1 1 k_z ∨ zV.1 5 c_z = (zV.1 1 k_z + 1) - (zV.1 1 k_z + 1) / 6 * 6)) := by rw [z_hb_and _ _ k_z (by omega), hO.srv hks hcm]
              have hst := z_ri_step (w_z := w_z) (srv := z_rd zV.1 8 6 (zV.1 5 c_z)) (wk_z := fun s_z => decide (z_wakes (z_mw zV who ow c_z) (zV.1 7 c_z) (zV.1 0 s_z) = 1)) (n_z := zV.2.1) (k_z := k_z) (K_z := K_z) hks
              rw [hsv] at hst
              refine z_s 131 hB_z dX10_layNight_130 rfl rfl ?_
              refine z_getI 134 hB_z fX10_142 (N99 (zS := zS) hN_z) dX10_layNight_131 rfl rfl ?_
              rw [show z_I (z_up zS I2_z) 99 23 = w_z from hw]
              refine z_s 135 hB_z dX10_layNight_134 rfl rfl ?_
              refine z_getI 138 hB_z fX10_152 (N99 (zS := zS) hN_z) dX10_layNight_135 rfl rfl ?_
              rw [show z_I (z_up zS I2_z) 99 24 = K_z from hk24]
              refine z_s 139 hB_z dX10_layNight_138 rfl rfl ?_
              refine z_s 140 hB_z dX10_layNight_139 rfl rfl ?_
              refine z_s 141 hB_z dX10_layNight_140 rfl rfl ?_
              refine z_s 143 hB_z dX10_layNight_141 rfl rfl ?_
              refine z_callS 146 hB_z hM_z.2.1 kX10_107 dX10_layNight_143 rfl (c_X10_has (d_z := 0)) (by omega) rfl rfl (Nat.le_of_ble_eq_true rfl) ⟨Nat.le_refl _, Nat.le_refl _⟩ ?_
              rintro _ _ ⟨rfl, rfl⟩
              refine z_b 149 231 hB_z dX10_layNight_146 rfl rfl (by decide) (fun c_146 => ?_) (fun c_146 => ?_)
              ·
                refine z_s 234 hB_z dX10_layNight_231 rfl rfl ?_
                refine z_j 104 hB_z dX10_layNight_234 (by decide) ?_
                exact z_wkn (ihk hks I2_z K_z none hf hw hk24 hk27 hk26 hk28 hbc hby (hri.trans (hst.trans (by rw [show z_hb (w_z &&& (K_z ^^^ -1)) k_z = false from decide_eq_false (z_of0 c_146)]; rw [hct]; rfl))) hbs) ⟨rfl, rfl, rfl, rfl, rfl, rfl, rfl, rfl, congrArg (fun q_z => some (Value.int q_z)) (z_inc k_z), trivial⟩
              ·
                refine z_s 150 hB_z dX10_layNight_149 rfl rfl ?_
                refine z_s 152 hB_z dX10_layNight_150 rfl rfl ?_
                refine z_s 153 hB_z dX10_layNight_152 rfl rfl ?_
                refine z_getR 156 hB_z fX10_25 (N99 (zS := zS) hN_z) dX10_layNight_153 rfl rfl (n99_14 (zS := zS) hN_z) ?_
                refine z_s 157 hB_z dX10_layNight_156 rfl rfl ?_
                refine z_s 159 hB_z dX10_layNight_157 rfl rfl ?_
                refine z_s 160 hB_z dX10_layNight_159 rfl rfl ?_
                refine z_s 161 hB_z dX10_layNight_160 rfl rfl ?_
                refine z_s 162 hB_z dX10_layNight_161 rfl rfl ?_
                rw [z_n4 _ (by omega), show nI (4 * c_z) + 1 = nI (4 * c_z + 1) from z_n4b _ 1]
                refine z_ald 163 hB_z (N105 (zS := zS) hN_z) dX10_layNight_162 rfl (vp_in_nI (show 4 * c_z + 1 < 40 by omega) (by decide)) ?_
                rw [nI_clamp (by omega), show z_I (z_up zS I2_z) 105 (4 * c_z + 1) = zV.1 5 c_z from (hf 105 _ (by unfold z_PLN; omega)).trans (hV.2.2.2.2 c_z hcm 1 (by decide))]
                refine z_callV 166 hB_z hM_z.2.1 kX10_164 dX10_layNight_163 rfl (N99 (zS := zS) hN_z) rfl (c_X10_serves (zS := z_up zS I2_z) (d_z := 0) hN_z (by omega) ((hf 104 _ (by unfold z_PLN; omega)).trans (hV.2.2.2.1 k_z hks 1 (by decide)))) (by omega) rfl rfl (Nat.le_of_ble_eq_true rfl) ⟨Nat.le_refl _, Nat.le_refl _⟩ ?_
                rintro _ _ ⟨rfl, rfl⟩
                refine z_b 169 231 hB_z dX10_layNight_166 rfl rfl (by decide) (fun c_166 => ?_) (fun c_166 => ?_)
                ·
                  refine z_s 234 hB_z dX10_layNight_231 rfl rfl ?_
                  refine z_j 104 hB_z dX10_layNight_234 (by decide) ?_
                  exact z_wkn (ihk hks I2_z K_z none hf hw hk24 hk27 hk26 hk28 hbc hby (hri.trans (hst.trans (by rw [decide_eq_false (z_of0 c_166), Bool.and_false]; rw [hct]; rfl))) hbs) ⟨rfl, rfl, rfl, rfl, rfl, rfl, rfl, rfl, congrArg (fun q_z => some (Value.int q_z)) (z_inc k_z), trivial⟩
                ·
                  refine z_s 170 hB_z dX10_layNight_169 rfl rfl ?_
                  refine z_s 172 hB_z dX10_layNight_170 rfl rfl ?_
                  refine z_s 173 hB_z dX10_layNight_172 rfl rfl ?_
                  refine z_getR 176 hB_z fX10_25 (N99 (zS := zS) hN_z) dX10_layNight_173 rfl rfl (n99_14 (zS := zS) hN_z) ?_
                  refine z_s 177 hB_z dX10_layNight_176 rfl rfl ?_
                  refine z_s 179 hB_z dX10_layNight_177 rfl rfl ?_
                  refine z_s 180 hB_z dX10_layNight_179 rfl rfl ?_
                  refine z_s 181 hB_z dX10_layNight_180 rfl rfl ?_
                  refine z_s 182 hB_z dX10_layNight_181 rfl rfl ?_
                  rw [z_n4 _ (by omega), show nI (4 * c_z) + 3 = nI (4 * c_z + 3) from z_n4b _ 3]
                  refine z_ald 183 hB_z (N105 (zS := zS) hN_z) dX10_layNight_182 rfl (vp_in_nI (show 4 * c_z + 3 < 40 by omega) (by decide)) ?_
                  rw [nI_clamp (by omega), show z_I (z_up zS I2_z) 105 (4 * c_z + 3) = zV.1 7 c_z from (hf 105 _ (by unfold z_PLN; omega)).trans (hV.2.2.2.2 c_z hcm 3 (by decide))]
                  refine z_s 185 hB_z dX10_layNight_183 rfl rfl ?_
                  refine z_callV 188 hB_z hM_z.2.1 kX10_167 dX10_layNight_185 rfl (N99 (zS := zS) hN_z) rfl (c_X10_wakes (zS := z_up zS I2_z) (d_z := 0) hN_z (by omega) (w_z := z_mw zV who ow c_z) (p_z := zV.1 7 c_z) (k_z := zV.1 0 k_z) ((hf 104 _ (by unfold z_PLN; omega)).trans (hV.2.2.2.1 k_z hks 0 (by decide)))) (by omega) rfl rfl (Nat.le_of_ble_eq_true rfl) ⟨Nat.le_refl _, Nat.le_refl _⟩ ?_
                  rintro _ _ ⟨rfl, rfl⟩
                  refine z_s 190 hB_z dX10_layNight_188 rfl rfl ?_
                  refine z_s 191 hB_z dX10_layNight_190 rfl rfl ?_
                  refine z_s 192 hB_z dX10_layNight_191 rfl rfl ?_
                  refine z_getI 195 hB_z fX10_152 (N99 (zS := zS) hN_z) dX10_layNight_192 rfl rfl ?_
                  rw [show z_I (z_up zS I2_z) 99 24 = K_z from hk24]
                  refine z_s 197 hB_z dX10_layNight_195 rfl rfl ?_
                  refine z_b 200 207 hB_z dX10_layNight_197 rfl rfl (by decide) (fun c_197 => ?_) (fun c_197 => ?_)
                  ·
                    refine z_s 208 hB_z dX10_layNight_207 rfl rfl ?_
                    refine z_s 209 hB_z dX10_layNight_208 rfl rfl ?_
                    rw [z_or0]
                    refine z_putI 212 hB_z fX10_152 (N99 (zS := zS) hN_z) dX10_layNight_209 rfl rfl rfl ?_
                    refine z_s 213 hB_z dX10_layNight_212 rfl rfl ?_
                    refine z_getR 216 hB_z fX10_43 (N99 (zS := zS) hN_z) dX10_layNight_213 rfl rfl (n99_29 (zS := zS) hN_z) ?_
                    refine z_s 218 hB_z dX10_layNight_216 rfl rfl ?_
                    refine z_s 220 hB_z dX10_layNight_218 rfl rfl ?_
                    refine z_b 223 228 hB_z dX10_layNight_220 rfl rfl (by decide) (fun c_220 => ?_) (fun c_220 => ?_)
                    ·
                      refine z_s 230 hB_z dX10_layNight_228 rfl rfl ?_
                      refine z_ast 231 hB_z (N111 (zS := zS) hN_z) dX10_layNight_230 rfl (vp_in_nI (show c_z < 10 by omega) (by decide)) ?_
                      rw [nI_clamp (by omega)]
                      refine z_s 234 hB_z dX10_layNight_231 rfl rfl ?_
                      refine z_j 104 hB_z dX10_layNight_234 (by decide) ?_
                      exact z_wkn (ihk hks (z_u2 (z_u2 I2_z 99 24 (K_z)) 111 c_z (nI k_z)) (K_z) (some k_z) ((hf.u2 (Or.inr ⟨rfl, Or.inr (Or.inl rfl)⟩)).u2 (Or.inl rfl)) ((z_u2_ne (Or.inl (by decide))).trans ((z_u2_ne (Or.inr (by decide))).trans hw)) ((z_u2_ne (Or.inl (by decide))).trans (z_u2_same _ _ _ _)) ((z_u2_ne (Or.inl (by decide))).trans ((z_u2_ne (Or.inr (by decide))).trans hk27)) ((z_u2_ne (Or.inl (by decide))).trans ((z_u2_ne (Or.inr (by decide))).trans hk26)) ((z_u2_ne (Or.inl (by decide))).trans ((z_u2_ne (Or.inr (by decide))).trans hk28)) (z_u2_same _ _ _ _) (fun q_z hq => (z_u2_ne (Or.inr (by omega))).trans ((z_u2_ne (Or.inl (by decide))).trans (hby q_z hq))) (hri.trans (hst.trans (by rw [show z_hb (w_z &&& (K_z ^^^ -1)) k_z = true from decide_eq_true (z_of1 c_146), decide_eq_true (z_of1 c_166)]; rw [show decide (z_wakes (z_mw zV who ow c_z) (zV.1 7 c_z) (zV.1 0 k_z) = 1) = false from decide_eq_false (fun z_z => by rw [c_197] at z_z; exact absurd z_z (by decide))]; rfl))) (fun s_z z_z => by cases z_z <;> omega)) ⟨rfl, rfl, rfl, rfl, rfl, rfl, rfl, rfl, congrArg (fun q_z => some (Value.int q_z)) (z_inc k_z), trivial⟩
                    ·
                      exact absurd c_197 c_220
                  ·
                    refine z_s 201 hB_z dX10_layNight_200 rfl rfl ?_
                    refine z_s 203 hB_z dX10_layNight_201 rfl rfl ?_
                    refine z_s 204 hB_z dX10_layNight_203 rfl rfl ?_
                    refine z_j 208 hB_z dX10_layNight_204 (by decide) ?_
                    refine z_s 209 hB_z dX10_layNight_208 rfl rfl ?_
                    refine z_putI 212 hB_z fX10_152 (N99 (zS := zS) hN_z) dX10_layNight_209 rfl rfl rfl ?_
                    refine z_s 213 hB_z dX10_layNight_212 rfl rfl ?_
                    refine z_getR 216 hB_z fX10_43 (N99 (zS := zS) hN_z) dX10_layNight_213 rfl rfl (n99_29 (zS := zS) hN_z) ?_
                    refine z_s 218 hB_z dX10_layNight_216 rfl rfl ?_
                    refine z_s 220 hB_z dX10_layNight_218 rfl rfl ?_
                    refine z_b 223 228 hB_z dX10_layNight_220 rfl rfl (by decide) (fun c_220 => ?_) (fun c_220 => ?_)
                    ·
                      exact absurd c_220 c_197
                    ·
                      refine z_s 225 hB_z dX10_layNight_223 rfl rfl ?_
                      refine z_j 230 hB_z dX10_layNight_225 (by decide) ?_
                      refine z_ast 231 hB_z (N111 (zS := zS) hN_z) dX10_layNight_230 rfl (vp_in_nI (show c_z < 10 by omega) (by decide)) ?_
                      rw [nI_clamp (by omega)]
                      refine z_s 234 hB_z dX10_layNight_231 rfl rfl ?_
                      refine z_j 104 hB_z dX10_layNight_234 (by decide) ?_
                      exact z_wkn (ihk hks (z_u2 (z_u2 I2_z 99 24 (K_z ||| (1 <<< (nI k_z &&& 31)))) 111 c_z (-4)) (K_z ||| (1 <<< (nI k_z &&& 31))) none ((hf.u2 (Or.inr ⟨rfl, Or.inr (Or.inl rfl)⟩)).u2 (Or.inl rfl)) ((z_u2_ne (Or.inl (by decide))).trans ((z_u2_ne (Or.inr (by decide))).trans hw)) ((z_u2_ne (Or.inl (by decide))).trans (z_u2_same _ _ _ _)) ((z_u2_ne (Or.inl (by decide))).trans ((z_u2_ne (Or.inr (by decide))).trans hk27)) ((z_u2_ne (Or.inl (by decide))).trans ((z_u2_ne (Or.inr (by decide))).trans hk26)) ((z_u2_ne (Or.inl (by decide))).trans ((z_u2_ne (Or.inr (by decide))).trans hk28)) (z_u2_same _ _ _ _) (fun q_z hq => (z_u2_ne (Or.inr (by omega))).trans ((z_u2_ne (Or.inl (by decide))).trans (hby q_z hq))) (hri.trans (hst.trans (by rw [show z_hb (w_z &&& (K_z ^^^ -1)) k_z = true from decide_eq_true (z_of1 c_146), decide_eq_true (z_of1 c_166)]; rw [show decide (z_wakes (z_mw zV who ow c_z) (zV.1 7 c_z) (zV.1 0 k_z) = 1) = true from decide_eq_true ((z_wakes01 _ _ _).resolve_left c_197)]; rw [hct]; rfl))) (fun s_z z_z => by cases z_z <;> omega)) ⟨rfl, rfl, rfl, rfl, rfl, rfl, rfl, rfl, congrArg (fun q_z => some (Value.int q_z)) (z_inc k_z), trivial⟩) 0 (Nat.zero_le _)
      refine z_s 39 hB_z dX10_layNight_38 rfl rfl ?_
      refine z_getR 42 hB_z fX10_25 (N99 (zS := zS) hN_z) dX10_layNight_39 rfl rfl (n99_14 (zS := zS) hN_z) ?_
      refine z_s 43 hB_z dX10_layNight_42 rfl rfl ?_
      refine z_s 45 hB_z dX10_layNight_43 rfl rfl ?_
      refine z_s 46 hB_z dX10_layNight_45 rfl rfl ?_
      rw [z_n4 _ (by omega)]
      refine z_ald 47 hB_z (N105 (zS := zS) hN_z) dX10_layNight_46 rfl (vp_in_nI (show 4 * c_z + 0 < 40 by omega) (by decide)) ?_
      rw [nI_clamp (by omega), show z_I (z_up zS I1) 105 (4 * c_z) = zV.1 4 c_z from (hf 105 _ (by unfold z_PLN; omega)).trans (hV.2.2.2.2 c_z hcm 0 (by decide))]
      refine z_s 48 hB_z dX10_layNight_47 rfl rfl ?_
      refine z_s 49 hB_z dX10_layNight_48 rfl rfl ?_
      refine z_ald 50 hB_z ho dX10_layNight_49 rfl (vp_in_nI (show 0 < 17 by decide) (by decide)) ?_
      rw [z_c0, show z_I (z_up zS I1) o 0 = zT 0 from (hf o 0 (by unfold z_PLN; omega)).trans hW.a0]
      refine z_s 52 hB_z dX10_layNight_50 rfl rfl ?_
      refine z_irem 53 hB_z dX10_layNight_52 rfl (by decide) ?_
      refine z_b 56 60 hB_z dX10_layNight_53 rfl rfl (by decide) (fun c_53 => ?_) (fun c_53 => ?_)
      ·
        refine z_s 61 hB_z dX10_layNight_60 rfl rfl ?_
        refine z_s 63 hB_z dX10_layNight_61 rfl rfl ?_
        refine z_s 65 hB_z dX10_layNight_63 rfl rfl ?_
        refine z_s 66 hB_z dX10_layNight_65 rfl rfl ?_
        refine z_b 69 73 hB_z dX10_layNight_66 rfl rfl (by decide) (fun c_66 => ?_) (fun c_66 => ?_)
        ·
          refine z_s 74 hB_z dX10_layNight_73 rfl rfl ?_
          refine z_getR 77 hB_z fX10_25 (N99 (zS := zS) hN_z) dX10_layNight_74 rfl rfl (n99_14 (zS := zS) hN_z) ?_
          refine z_s 78 hB_z dX10_layNight_77 rfl rfl ?_
          refine z_s 80 hB_z dX10_layNight_78 rfl rfl ?_
          refine z_s 81 hB_z dX10_layNight_80 rfl rfl ?_
          refine z_s 82 hB_z dX10_layNight_81 rfl rfl ?_
          refine z_s 83 hB_z dX10_layNight_82 rfl rfl ?_
          rw [z_n4 _ (by omega), show nI (4 * c_z) + 2 = nI (4 * c_z + 2) from z_n4b _ 2]
          refine z_ald 84 hB_z (N105 (zS := zS) hN_z) dX10_layNight_83 rfl (vp_in_nI (show 4 * c_z + 2 < 40 by omega) (by decide)) ?_
          rw [nI_clamp (by omega), show z_I (z_up zS I1) 105 (4 * c_z + 2) = zV.1 6 c_z from (hf 105 _ (by unfold z_PLN; omega)).trans (hV.2.2.2.2 c_z hcm 2 (by decide))]
          refine z_s 86 hB_z dX10_layNight_84 rfl rfl ?_
          refine z_s 87 hB_z dX10_layNight_86 rfl rfl ?_
          refine z_getI 90 hB_z fX10_152 (N99 (zS := zS) hN_z) dX10_layNight_87 rfl rfl ?_
          rw [show z_I (z_up zS I1) 99 24 = D_z.1 from hD.1]
          refine z_s 92 hB_z dX10_layNight_90 rfl rfl ?_
          refine z_s 93 hB_z dX10_layNight_92 rfl rfl ?_
          refine z_getR 96 hB_z fX10_43 (N99 (zS := zS) hN_z) dX10_layNight_93 rfl rfl (n99_29 (zS := zS) hN_z) ?_
          refine z_s 98 hB_z dX10_layNight_96 rfl rfl ?_
          refine z_s 100 hB_z dX10_layNight_98 rfl rfl ?_
          refine z_ast 101 hB_z (N111 (zS := zS) hN_z) dX10_layNight_100 rfl (vp_in_nI (show c_z < 10 by omega) (by decide)) ?_
          rw [nI_clamp (by omega)]
          refine z_s 102 hB_z dX10_layNight_101 rfl rfl ?_
          refine z_s 104 hB_z dX10_layNight_102 rfl rfl ?_
          refine z_eqS (z_wkn (inner (z_u2 I1 111 c_z (-4)) D_z.1 none (hf.u2 (Or.inl rfl)) ((z_u2_ne (Or.inl (by decide))).trans hw) ((z_u2_ne (Or.inl (by decide))).trans hD.1) ((z_u2_ne (Or.inl (by decide))).trans hD.2.1) ((z_u2_ne (Or.inl (by decide))).trans hD.2.2.1) ((z_u2_ne (Or.inl (by decide))).trans hD.2.2.2.1) (z_u2_same _ _ _ _) (fun q_z hq => (z_u2_ne (Or.inr (by omega))).trans (hD.2.2.2.2 q_z hq)) hr0 (fun s_z z_z => by cases z_z)) ⟨rfl, rfl, rfl, rfl, rfl, congrArg (fun q_z => some (Value.int q_z)) (z_bie (p_z := z_comes zV (zT 0) c_z = true) (fun z_z => c_53 ((of_decide_eq_true z_z).trans z_m14))), congrArg (fun q_z => some (Value.int q_z)) ((if_neg c_66).symm), rfl, rfl, trivial⟩) rfl
        ·
          refine z_s 70 hB_z dX10_layNight_69 rfl rfl ?_
          refine z_j 84 hB_z dX10_layNight_70 (by decide) ?_
          refine z_s 86 hB_z dX10_layNight_84 rfl rfl ?_
          refine z_s 87 hB_z dX10_layNight_86 rfl rfl ?_
          refine z_getI 90 hB_z fX10_152 (N99 (zS := zS) hN_z) dX10_layNight_87 rfl rfl ?_
          rw [show z_I (z_up zS I1) 99 24 = D_z.1 from hD.1]
          refine z_s 92 hB_z dX10_layNight_90 rfl rfl ?_
          refine z_s 93 hB_z dX10_layNight_92 rfl rfl ?_
          refine z_getR 96 hB_z fX10_43 (N99 (zS := zS) hN_z) dX10_layNight_93 rfl rfl (n99_29 (zS := zS) hN_z) ?_
          refine z_s 98 hB_z dX10_layNight_96 rfl rfl ?_
          refine z_s 100 hB_z dX10_layNight_98 rfl rfl ?_
          refine z_ast 101 hB_z (N111 (zS := zS) hN_z) dX10_layNight_100 rfl (vp_in_nI (show c_z < 10 by omega) (by decide)) ?_
          rw [nI_clamp (by omega)]
          refine z_s 102 hB_z dX10_layNight_101 rfl rfl ?_
          refine z_s 104 hB_z dX10_layNight_102 rfl rfl ?_
          refine z_eqS (z_wkn (inner (z_u2 I1 111 c_z (-4)) D_z.1 none (hf.u2 (Or.inl rfl)) ((z_u2_ne (Or.inl (by decide))).trans hw) ((z_u2_ne (Or.inl (by decide))).trans hD.1) ((z_u2_ne (Or.inl (by decide))).trans hD.2.1) ((z_u2_ne (Or.inl (by decide))).trans hD.2.2.1) ((z_u2_ne (Or.inl (by decide))).trans hD.2.2.2.1) (z_u2_same _ _ _ _) (fun q_z hq => (z_u2_ne (Or.inr (by omega))).trans (hD.2.2.2.2 q_z hq)) hr0 (fun s_z z_z => by cases z_z)) ⟨rfl, rfl, rfl, rfl, rfl, congrArg (fun q_z => some (Value.int q_z)) (z_bie (p_z := z_comes zV (zT 0) c_z = true) (fun z_z => c_53 ((of_decide_eq_true z_z).trans z_m14))), congrArg (fun q_z => some (Value.int q_z)) ((if_pos c_66).symm), rfl, rfl, trivial⟩) rfl
      ·
        refine z_s 57 hB_z dX10_layNight_56 rfl rfl ?_
        refine z_j 61 hB_z dX10_layNight_57 (by decide) ?_
        refine z_s 63 hB_z dX10_layNight_61 rfl rfl ?_
        refine z_s 65 hB_z dX10_layNight_63 rfl rfl ?_
        refine z_s 66 hB_z dX10_layNight_65 rfl rfl ?_
        refine z_b 69 73 hB_z dX10_layNight_66 rfl rfl (by decide) (fun c_66 => ?_) (fun c_66 => ?_)
        ·
          refine z_s 74 hB_z dX10_layNight_73 rfl rfl ?_
          refine z_getR 77 hB_z fX10_25 (N99 (zS := zS) hN_z) dX10_layNight_74 rfl rfl (n99_14 (zS := zS) hN_z) ?_
          refine z_s 78 hB_z dX10_layNight_77 rfl rfl ?_
          refine z_s 80 hB_z dX10_layNight_78 rfl rfl ?_
          refine z_s 81 hB_z dX10_layNight_80 rfl rfl ?_
          refine z_s 82 hB_z dX10_layNight_81 rfl rfl ?_
          refine z_s 83 hB_z dX10_layNight_82 rfl rfl ?_
          rw [z_n4 _ (by omega), show nI (4 * c_z) + 2 = nI (4 * c_z + 2) from z_n4b _ 2]
          refine z_ald 84 hB_z (N105 (zS := zS) hN_z) dX10_layNight_83 rfl (vp_in_nI (show 4 * c_z + 2 < 40 by omega) (by decide)) ?_
          rw [nI_clamp (by omega), show z_I (z_up zS I1) 105 (4 * c_z + 2) = zV.1 6 c_z from (hf 105 _ (by unfold z_PLN; omega)).trans (hV.2.2.2.2 c_z hcm 2 (by decide))]
          refine z_s 86 hB_z dX10_layNight_84 rfl rfl ?_
          refine z_s 87 hB_z dX10_layNight_86 rfl rfl ?_
          refine z_getI 90 hB_z fX10_152 (N99 (zS := zS) hN_z) dX10_layNight_87 rfl rfl ?_
          rw [show z_I (z_up zS I1) 99 24 = D_z.1 from hD.1]
          refine z_s 92 hB_z dX10_layNight_90 rfl rfl ?_
          refine z_s 93 hB_z dX10_layNight_92 rfl rfl ?_
          refine z_getR 96 hB_z fX10_43 (N99 (zS := zS) hN_z) dX10_layNight_93 rfl rfl (n99_29 (zS := zS) hN_z) ?_
          refine z_s 98 hB_z dX10_layNight_96 rfl rfl ?_
          refine z_s 100 hB_z dX10_layNight_98 rfl rfl ?_
          refine z_ast 101 hB_z (N111 (zS := zS) hN_z) dX10_layNight_100 rfl (vp_in_nI (show c_z < 10 by omega) (by decide)) ?_
          rw [nI_clamp (by omega)]
          refine z_s 102 hB_z dX10_layNight_101 rfl rfl ?_
          refine z_s 104 hB_z dX10_layNight_102 rfl rfl ?_
          refine z_eqS (z_wkn (inner (z_u2 I1 111 c_z (-4)) D_z.1 none (hf.u2 (Or.inl rfl)) ((z_u2_ne (Or.inl (by decide))).trans hw) ((z_u2_ne (Or.inl (by decide))).trans hD.1) ((z_u2_ne (Or.inl (by decide))).trans hD.2.1) ((z_u2_ne (Or.inl (by decide))).trans hD.2.2.1) ((z_u2_ne (Or.inl (by decide))).trans hD.2.2.2.1) (z_u2_same _ _ _ _) (fun q_z hq => (z_u2_ne (Or.inr (by omega))).trans (hD.2.2.2.2 q_z hq)) hr0 (fun s_z z_z => by cases z_z)) ⟨rfl, rfl, rfl, rfl, rfl, congrArg (fun q_z => some (Value.int q_z)) (z_bif (p_z := z_comes zV (zT 0) c_z = true) (decide_eq_true (c_53.trans z_m14.symm))), congrArg (fun q_z => some (Value.int q_z)) ((if_neg c_66).symm), rfl, rfl, trivial⟩) rfl
        ·
          refine z_s 70 hB_z dX10_layNight_69 rfl rfl ?_
          refine z_j 84 hB_z dX10_layNight_70 (by decide) ?_
          refine z_s 86 hB_z dX10_layNight_84 rfl rfl ?_
          refine z_s 87 hB_z dX10_layNight_86 rfl rfl ?_
          refine z_getI 90 hB_z fX10_152 (N99 (zS := zS) hN_z) dX10_layNight_87 rfl rfl ?_
          rw [show z_I (z_up zS I1) 99 24 = D_z.1 from hD.1]
          refine z_s 92 hB_z dX10_layNight_90 rfl rfl ?_
          refine z_s 93 hB_z dX10_layNight_92 rfl rfl ?_
          refine z_getR 96 hB_z fX10_43 (N99 (zS := zS) hN_z) dX10_layNight_93 rfl rfl (n99_29 (zS := zS) hN_z) ?_
          refine z_s 98 hB_z dX10_layNight_96 rfl rfl ?_
          refine z_s 100 hB_z dX10_layNight_98 rfl rfl ?_
          refine z_ast 101 hB_z (N111 (zS := zS) hN_z) dX10_layNight_100 rfl (vp_in_nI (show c_z < 10 by omega) (by decide)) ?_
          rw [nI_clamp (by omega)]
          refine z_s 102 hB_z dX10_layNight_101 rfl rfl ?_
          refine z_s 104 hB_z dX10_layNight_102 rfl rfl ?_
          refine z_eqS (z_wkn (inner (z_u2 I1 111 c_z (-4)) D_z.1 none (hf.u2 (Or.inl rfl)) ((z_u2_ne (Or.inl (by decide))).trans hw) ((z_u2_ne (Or.inl (by decide))).trans hD.1) ((z_u2_ne (Or.inl (by decide))).trans hD.2.1) ((z_u2_ne (Or.inl (by decide))).trans hD.2.2.1) ((z_u2_ne (Or.inl (by decide))).trans hD.2.2.2.1) (z_u2_same _ _ _ _) (fun q_z hq => (z_u2_ne (Or.inr (by omega))).trans (hD.2.2.2.2 q_z hq)) hr0 (fun s_z z_z => by cases z_z)) ⟨rfl, rfl, rfl, rfl, rfl, congrArg (fun q_z => some (Value.int q_z)) (z_bif (p_z := z_comes zV (zT 0) c_z = true) (decide_eq_true (c_53.trans z_m14.symm))), congrArg (fun q_z => some (Value.int q_z)) ((if_pos c_66).symm), rfl, rfl, trivial⟩) rfl) 0 (Nat.zero_le _)
  refine z_s 1 hB_z dX10_layNight_0 rfl rfl ?_
  refine z_s 2 hB_z dX10_layNight_1 rfl rfl ?_
  refine z_callV 5 hB_z hM_z.2.1 kX10_148 dX10_layNight_2 rfl (N99 (zS := zS) hN_z) rfl (c_X10_layWalks (d_z := 0) hN_z hO hV hdb ho (by omega) hW hdg) (by omega) rfl rfl (Nat.le_of_ble_eq_true rfl) ⟨Nat.le_refl _, Nat.le_refl _⟩ ?_
  rintro _ _ ⟨rfl, I1, rfl, hf1, hw1⟩
  rw [hwe] at hw1
  refine z_s 6 hB_z dX10_layNight_5 rfl rfl ?_
  refine z_s 7 hB_z dX10_layNight_6 rfl rfl ?_
  refine z_putI 10 hB_z fX10_152 (N99 (zS := zS) hN_z) dX10_layNight_7 rfl rfl rfl ?_
  refine z_s 11 hB_z dX10_layNight_10 rfl rfl ?_
  refine z_s 12 hB_z dX10_layNight_11 rfl rfl ?_
  refine z_putI 15 hB_z fX10_155 (N99 (zS := zS) hN_z) dX10_layNight_12 rfl rfl rfl ?_
  refine z_s 16 hB_z dX10_layNight_15 rfl rfl ?_
  refine z_s 18 hB_z dX10_layNight_16 rfl rfl ?_
  refine z_putI 21 hB_z fX10_158 (N99 (zS := zS) hN_z) dX10_layNight_18 rfl rfl rfl ?_
  refine z_s 22 hB_z dX10_layNight_21 rfl rfl ?_
  refine z_s 23 hB_z dX10_layNight_22 rfl rfl ?_
  refine z_putI 26 hB_z fX10_161 (N99 (zS := zS) hN_z) dX10_layNight_23 rfl rfl rfl ?_
  refine z_s 27 hB_z dX10_layNight_26 rfl rfl ?_
  refine z_s 29 hB_z dX10_layNight_27 rfl rfl ?_
  refine z_eqS (z_wkn (loop (z_u2 (z_u2 (z_u2 (z_u2 I1 99 24 0) 99 27 0) 99 26 (-4)) 99 28 0) ((((((hf1.mono (fun q_z k_z h_z => Or.inr ⟨h_z.1, Or.inl h_z.2⟩)).u2 (Or.inr ⟨rfl, Or.inr (Or.inl rfl)⟩)).u2 (Or.inr ⟨rfl, Or.inr (Or.inr (Or.inr (Or.inl rfl)))⟩)).u2 (Or.inr ⟨rfl, Or.inr (Or.inr (Or.inl rfl))⟩)).u2 (Or.inr ⟨rfl, Or.inr (Or.inr (Or.inr (Or.inr rfl)))⟩))) ?_ ?_) ⟨rfl, rfl, rfl, rfl, rfl, trivial⟩) rfl
  · rw [z_u2_ne (Or.inr (by decide)), z_u2_ne (Or.inr (by decide)), z_u2_ne (Or.inr (by decide)), z_u2_ne (Or.inr (by decide))]; exact hw1
  · refine ⟨?_, ?_, ?_, z_u2_same _ _ _ _, fun q_z hq => absurd hq (Nat.not_lt_zero q_z)⟩
    · rw [z_u2_ne (Or.inr (by decide)), z_u2_ne (Or.inr (by decide)), z_u2_ne (Or.inr (by decide)), z_u2_same]; rfl
    · rw [z_u2_ne (Or.inr (by decide)), z_u2_ne (Or.inr (by decide)), z_u2_same]; rfl
    · rw [z_u2_ne (Or.inr (by decide)), z_u2_same]; rfl

