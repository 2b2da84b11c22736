/-! the model: what its shop tells; is there a dog; who walks -/
/-- the model's cells tell the shop -/
def z_mV (zI : Nat → Nat → Int32) (zV : z_V) : Prop := zI 99 10 = nI zV.2.1 ∧ zI 99 11 = nI zV.2.2.1 ∧ zI 99 12 = zV.2.2.2 ∧ (∀ s_z, s_z < zV.2.1 → ∀ k_z, k_z < 4 → zI 104 (4 * s_z + k_z) = zV.1 k_z s_z) ∧ (∀ c_z, c_z < zV.2.2.1 → ∀ k_z, k_z < 4 → zI 105 (4 * c_z + k_z) = zV.1 (4 + k_z) c_z)
theorem z_RM.mv {zI : Nat → Nat → Int32} {A_z : z_Ab} (h_z : z_RM zI A_z) : z_mV zI (z_AV A_z) := ⟨h_z.sn, h_z.sm, h_z.sd, h_z.so, h_z.sg⟩
theorem z_mV.fr {P_z : Nat → Nat → Prop} {zI zI' : Nat → Nat → Int32} {zV : z_V} (h_z : z_mV zI zV) (hf : z_f2 P_z zI zI') (h0 : ¬ P_z 99 10) (h1 : ¬ P_z 99 11) (h2 : ¬ P_z 99 12) (h3 : ∀ k_z, ¬ P_z 104 k_z) (h4 : ∀ k_z, ¬ P_z 105 k_z) : z_mV zI' zV :=
  ⟨(hf _ _ h0).trans h_z.1, (hf _ _ h1).trans h_z.2.1, (hf _ _ h2).trans h_z.2.2.1, fun s_z hs k_z hk => (hf _ _ (h3 _)).trans (h_z.2.2.2.1 s_z hs k_z hk), fun s_z hs k_z hk => (hf _ _ (h4 _)).trans (h_z.2.2.2.2 s_z hs k_z hk)⟩
/-- a shop as it can be -/
def z_OV (zV : z_V) : Prop := 1 ≤ zV.2.1 ∧ zV.2.1 ≤ 6 ∧ zV.2.2.1 ≤ 10 ∧ (∀ s_z, s_z < zV.2.1 → 1 ≤ zV.1 2 s_z ∧ zV.1 2 s_z ≤ 10) ∧ (∀ s_z, s_z < zV.2.1 → 0 ≤ zV.1 1 s_z ∧ zV.1 1 s_z ≤ 5) ∧ (∀ c_z, c_z < zV.2.2.1 → 0 ≤ zV.1 5 c_z ∧ zV.1 5 c_z ≤ 5) ∧ ∀ s_z, s_z < zV.2.1 → ∀ th, th < 6 → z_hb (zV.1 8 th) s_z = decide (nI th = zV.1 1 s_z ∨ nI th = (zV.1 1 s_z + 1) - (zV.1 1 s_z + 1) / 6 * 6)
theorem z_pos1 {x_z : Int32} (h_z : 1 ≤ x_z) : 0 < x_z := Int32.lt_of_lt_of_le (by decide) h_z
theorem z_ne1 {x_z : Int32} (h_z : 1 ≤ x_z) : ¬ x_z = 0 := fun q_z => absurd (q_z ▸ h_z) (by decide)
theorem z_mod1 {x_z y_z : Int32} (h_z : 1 ≤ y_z) : z_mod x_z y_z = x_z - x_z / y_z * y_z := if_pos (z_pos1 h_z)
theorem z_OV.e0 {zV : z_V} (h_z : z_OV zV) {s_z : Nat} (hs : s_z < zV.2.1) : ¬ zV.1 2 s_z = 0 := z_ne1 (h_z.2.2.2.1 s_z hs).1
/-- is there a dog: by the calendar, or as it is set -/
def z_mdg (zV : z_V) (db t_z : Int32) : Bool := if db = -4 then z_hasDog zV t_z else decide (db = 1)
theorem z_c0 : (0 : Int32).toNatClampNeg = 0 := rfl
theorem z_c1 : (1 : Int32).toNatClampNeg = 1 := rfl
theorem z_c2 : (2 : Int32).toNatClampNeg = 2 := rfl
theorem z_c3 : (3 : Int32).toNatClampNeg = 3 := rfl
theorem z_c4 : (4 : Int32).toNatClampNeg = 4 := rfl
theorem z_bif {p_z : Prop} [h_z : Decidable p_z] (q_z : p_z) : (1 : Int32) = if p_z then 1 else 0 := (if_pos q_z).symm
theorem z_bie {p_z : Prop} [h_z : Decidable p_z] (q_z : ¬ p_z) : (0 : Int32) = if p_z then 1 else 0 := (if_neg q_z).symm
theorem c_X10_isDogNight {g_z : z_U} {d_z : Nat} {zS : z_S} (hN_z : z_LM zS) {zV : z_V} (hd_z : z_I zS 99 12 = zV.2.2.2) {db t_z : Int32} (hdb : z_I zS 99 25 = db) : z_C g_z (d_z) 0 0 mX10_isDogNight [.ref 99, .int t_z] zS (fun r_z zS' => zS = zS' ∧ r_z = some (.int (if z_mdg zV db t_z = true then 1 else 0))) := by
  refine z_enter [some (.ref 99), some (.int t_z)] rfl rfl (Nat.le_of_ble_eq_true rfl) rfl (fun zX hM_z => ?_)
  have hB_z : z_B g_z zX RX10 cX10_isDogNight 2 := hM_z.1
  refine z_s 1 hB_z dX10_isDogNight_0 rfl rfl ?_
  refine z_getI 4 hB_z fX10_139 (N99 (zS := zS) hN_z) dX10_isDogNight_1 rfl rfl ?_
  rw [hdb]
  refine z_s 6 hB_z dX10_isDogNight_4 rfl rfl ?_
  refine z_b 9 33 hB_z dX10_isDogNight_6 rfl rfl (by decide) (fun c_6 => ?_) (fun c_6 => ?_)
  ·
    refine z_s 34 hB_z dX10_isDogNight_33 rfl rfl ?_
    refine z_getI 37 hB_z fX10_139 (N99 (zS := zS) hN_z) dX10_isDogNight_34 rfl rfl ?_
    rw [hdb]
    refine z_s 38 hB_z dX10_isDogNight_37 rfl rfl ?_
    refine z_b 41 45 hB_z dX10_isDogNight_38 rfl rfl (by decide) (fun c_38 => ?_) (fun c_38 => ?_)
    ·
      refine z_s 46 hB_z dX10_isDogNight_45 rfl rfl ?_
      refine z_zret hM_z dX10_isDogNight_46 rfl (by decide) ?_ rfl rfl
      refine ⟨rfl, congrArg (fun q_z => some (Value.int q_z)) ?_⟩
      unfold z_mdg
      exact z_bie (fun q_z => by
        rw [if_neg c_6] at q_z
        exact c_38 (of_decide_eq_true q_z))
    ·
      refine z_s 42 hB_z dX10_isDogNight_41 rfl rfl ?_
      refine z_j 46 hB_z dX10_isDogNight_42 (by decide) ?_
      refine z_zret hM_z dX10_isDogNight_46 rfl (by decide) ?_ rfl rfl
      refine ⟨rfl, congrArg (fun q_z => some (Value.int q_z)) ?_⟩
      unfold z_mdg
      exact z_bif (by
        rw [if_neg c_6]
        exact decide_eq_true c_38)
  ·
    refine z_s 10 hB_z dX10_isDogNight_9 rfl rfl ?_
    refine z_getI 13 hB_z fX10_64 (N99 (zS := zS) hN_z) dX10_isDogNight_10 rfl rfl ?_
    rw [hd_z]
    refine z_b 16 29 hB_z dX10_isDogNight_13 rfl rfl (by decide) (fun c_13 => ?_) (fun c_13 => ?_)
    ·
      refine z_s 30 hB_z dX10_isDogNight_29 rfl rfl ?_
      refine z_j 46 hB_z dX10_isDogNight_30 (by decide) ?_
      refine z_zret hM_z dX10_isDogNight_46 rfl (by decide) ?_ rfl rfl
      refine ⟨rfl, congrArg (fun q_z => some (Value.int q_z)) ?_⟩
      unfold z_mdg
      exact z_bie (fun q_z => by
        rw [if_pos c_6] at q_z
        exact z_nlt0 c_13 (of_decide_eq_true (Bool.and_eq_true_iff.mp q_z).1))
    ·
      refine z_s 17 hB_z dX10_isDogNight_16 rfl rfl ?_
      refine z_s 18 hB_z dX10_isDogNight_17 rfl rfl ?_
      refine z_getI 21 hB_z fX10_64 (N99 (zS := zS) hN_z) dX10_isDogNight_18 rfl rfl ?_
      rw [hd_z]
      refine z_irem 22 hB_z dX10_isDogNight_21 rfl (fun q_z => absurd (q_z ▸ c_13) (by decide)) ?_
      refine z_b 25 29 hB_z dX10_isDogNight_22 rfl rfl (by decide) (fun c_22 => ?_) (fun c_22 => ?_)
      ·
        refine z_s 30 hB_z dX10_isDogNight_29 rfl rfl ?_
        refine z_j 46 hB_z dX10_isDogNight_30 (by decide) ?_
        refine z_zret hM_z dX10_isDogNight_46 rfl (by decide) ?_ rfl rfl
        refine ⟨rfl, congrArg (fun q_z => some (Value.int q_z)) ?_⟩
        unfold z_mdg
        exact z_bie (fun q_z => by
          rw [if_pos c_6] at q_z
          exact c_22 ((if_pos c_13).symm.trans (of_decide_eq_true (Bool.and_eq_true_iff.mp q_z).2)))
      ·
        refine z_s 26 hB_z dX10_isDogNight_25 rfl rfl ?_
        refine z_j 46 hB_z dX10_isDogNight_26 (by decide) ?_
        refine z_zret hM_z dX10_isDogNight_46 rfl (by decide) ?_ rfl rfl
        refine ⟨rfl, congrArg (fun q_z => some (Value.int q_z)) ?_⟩
        unfold z_mdg
        exact z_bif (by
          rw [if_pos c_6]
          exact Bool.and_eq_true_iff.mpr ⟨decide_eq_true c_13, decide_eq_true ((if_pos c_13).trans c_22)⟩)

theorem z_orT : ∀ s_z, s_z < 6 → ∀ x_z, x_z < 64 → x_z < 2 ^ s_z → nI x_z ||| (1 <<< (nI s_z &&& 31)) = nI (x_z + 2 ^ s_z) := by decide +kernel
theorem z_wk_lt (zV : z_V) (zT : Nat → Int32) : ∀ s_z, s_z ≤ 6 → ∃ x_z, x_z < 2 ^ s_z ∧ z_wk zV zT s_z = nI x_z
  | 0, _ => ⟨0, by decide, rfl⟩
  | s_z + 1, hs => by
    obtain ⟨x_z, hx, e_z⟩ := z_wk_lt zV zT s_z (by omega)
    have h64 : 2 ^ s_z ≤ 2 ^ 6 := Nat.pow_le_pow_right (by decide) (by omega)
    unfold z_wk
    rw [e_z, Nat.pow_succ]
    split
    · exact ⟨x_z + 2 ^ s_z, by omega, z_orT s_z (by omega) x_z (by omega) hx⟩
    · exact ⟨x_z, by omega, rfl⟩
def z_an (c_z : Nat → Bool) : Nat → Bool
  | 0 => false
  | k_z + 1 => z_an c_z k_z || c_z k_z
theorem z_an_cg {c_z c_z' : Nat → Bool} : ∀ n_z, (∀ k_z, k_z < n_z → c_z k_z = c_z' k_z) → z_an c_z n_z = z_an c_z' n_z
  | 0, _ => rfl
  | n_z + 1, h_z => by
    show (z_an c_z n_z || _) = (z_an c_z' n_z || _)
    rw [z_an_cg n_z (fun k_z hk => h_z k_z (by omega)), h_z n_z (by omega)]
theorem z_an_up {c_z : Nat → Bool} {s_z : Nat} : ∀ m_z, (∀ k_z, s_z ≤ k_z → k_z < s_z + m_z → c_z k_z = false) → z_an c_z (s_z + m_z) = z_an c_z s_z
  | 0, _ => rfl
  | m_z + 1, h_z => by
    show (z_an c_z (s_z + m_z) || c_z (s_z + m_z)) = _
    rw [z_an_up m_z (fun k_z h1 h2 => h_z k_z h1 (by omega)), h_z (s_z + m_z) (by omega) (by omega), Bool.or_false]
theorem z_bar_an (w_z Q_z : Int32) (s_z : Nat) : ∀ l, z_bar w_z Q_z s_z l = z_an (fun i_z => z_hb w_z i_z && z_hb Q_z (6 * i_z + s_z)) l
  | 0 => rfl
  | l + 1 => by
    show (z_bar w_z Q_z s_z l || _) = (z_an _ l || _)
    rw [z_bar_an w_z Q_z s_z l]
theorem z_hb_hi : ∀ s_z, s_z < 7 → ∀ x_z, x_z < 64 → x_z < 2 ^ s_z → ∀ i_z, i_z < 6 → s_z ≤ i_z → z_hb (nI x_z) i_z = false := by decide +kernel
theorem z_g6_and : ∀ a_z b_z c_z e_z f_z h_z : Bool, ∀ x_z, x_z < 64 → decide (z_g6 (z_l6 a_z b_z c_z e_z f_z h_z) 6 &&& nI x_z = 0) = !z_an (fun i_z => z_hb (nI x_z) i_z && z_l6 a_z b_z c_z e_z f_z h_z i_z) 6 := by decide +kernel
theorem z_bar_qr {w_z Q_z : Int32} {s_z x_z : Nat} (hs : s_z < 6) (hx : x_z < 2 ^ s_z) (e_z : w_z = nI x_z) : z_bar w_z Q_z s_z s_z = !decide (z_qr Q_z s_z 6 &&& w_z = 0) := by
  have h64 : 2 ^ s_z ≤ 2 ^ 6 := Nat.pow_le_pow_right (by decide) (by omega)
  subst e_z
  rw [z_qr_g6, z_g6_l6 (z_qb Q_z s_z), z_g6_and _ _ _ _ _ _ x_z (by omega), Bool.not_not, z_bar_an]
  have e1_z : z_an (fun i_z => z_hb (nI x_z) i_z && z_l6 (z_qb Q_z s_z 0) (z_qb Q_z s_z 1) (z_qb Q_z s_z 2) (z_qb Q_z s_z 3) (z_qb Q_z s_z 4) (z_qb Q_z s_z 5) i_z) 6 = z_an (fun i_z => z_hb (nI x_z) i_z && z_qb Q_z s_z i_z) 6 := z_an_cg 6 (fun k_z hk => by rw [z_l6_at _ k_z hk])
  rw [e1_z]
  have e2_z := z_an_up (c_z := fun i_z => z_hb (nI x_z) i_z && z_qb Q_z s_z i_z) (s_z := s_z) (6 - s_z) (fun k_z h1 h2 => by rw [z_hb_hi s_z (by omega) x_z (by omega) hx k_z (by omega) h1]; rfl)
  rw [show s_z + (6 - s_z) = 6 by omega] at e2_z
  rw [e2_z]
  refine z_an_cg s_z (fun k_z hk => ?_)
  unfold z_qb
  rw [if_neg (by omega), if_neg (by omega)]
/-- who walks of the first k, if there is a dog or not -/
def z_wkd (zV : z_V) (zT : Nat → Int32) (dog : Bool) (k_z : Nat) : Int32 := if dog then 0 else z_wk zV zT k_z
def z_isw (zV : z_V) (zT : Nat → Int32) (dog : Bool) (k_z : Nat) : Prop := (zT 0 - zT 0 / zV.1 2 k_z * zV.1 2 k_z = zV.1 3 k_z - zV.1 3 k_z / zV.1 2 k_z * zV.1 2 k_z) ∧ dog = false ∧ zT (6 + k_z) = 0 ∧ z_hb (zT 5) k_z = false
theorem z_wkd_yes {zV : z_V} (hO : z_OV zV) {zT : Nat → Int32} {dog : Bool} {k_z : Nat} (hk : k_z < zV.2.1) (h_z : z_isw zV zT dog k_z) (h2 : z_qr (zT 4) k_z 6 &&& z_wkd zV zT dog k_z = 0) : z_wkd zV zT dog (k_z + 1) = z_wkd zV zT dog k_z ||| (1 <<< (nI k_z &&& 31)) := by
  obtain ⟨h1, rfl, h3, h4⟩ := h_z
  have hn6 := hO.2.1
  obtain ⟨x_z, hx, e_z⟩ := z_wk_lt zV zT k_z (by omega)
  have h5 : z_bar (z_wk zV zT k_z) (zT 4) k_z k_z = false := by
    rw [z_bar_qr (by omega) hx e_z, decide_eq_true (show z_qr (zT 4) k_z 6 &&& z_wk zV zT k_z = 0 from h2)]; rfl
  have he := (hO.2.2.2.1 k_z hk).1
  show z_wk zV zT (k_z + 1) = z_wk zV zT k_z ||| _
  refine z_wk_yes ?_
  unfold z_goes z_due
  rw [z_mod1 he, z_mod1 he, decide_eq_true h1, decide_eq_true h3, h4, h5]
  rfl
theorem z_wkd_no {zV : z_V} (hO : z_OV zV) {zT : Nat → Int32} {dog : Bool} {k_z : Nat} (hk : k_z < zV.2.1) (h_z : ¬ (z_isw zV zT dog k_z ∧ z_qr (zT 4) k_z 6 &&& z_wkd zV zT dog k_z = 0)) : z_wkd zV zT dog (k_z + 1) = z_wkd zV zT dog k_z := by
  cases dog with
  | true => rfl
  | false =>
    have hn6 := hO.2.1
    obtain ⟨x_z, hx, e_z⟩ := z_wk_lt zV zT k_z (by omega)
    have he := (hO.2.2.2.1 k_z hk).1
    show z_wk zV zT (k_z + 1) = z_wk zV zT k_z
    refine z_wk_no ?_
    cases q_z : z_goes zV zT (z_wk zV zT k_z) k_z with
    | false => rfl
    | true =>
      exfalso
      unfold z_goes z_due at q_z
      rw [z_mod1 he, z_mod1 he] at q_z
      simp only [Bool.and_eq_true, decide_eq_true_eq, Bool.not_eq_true'] at q_z
      refine h_z ⟨⟨q_z.1, rfl, q_z.2.1, q_z.2.2.1⟩, ?_⟩
      have q5_z := q_z.2.2.2
      rw [z_bar_qr (by omega) hx e_z] at q5_z
      show z_qr (zT 4) k_z 6 &&& z_wk zV zT k_z = 0
      exact of_decide_eq_true (by
        cases q6_z : decide (z_qr (zT 4) k_z 6 &&& z_wk zV zT k_z = 0) with
        | true => rfl
        | false => rw [q6_z] at q5_z; cases q5_z)
/-- what laying who walks changes -/
def z_P23 : Nat → Nat → Prop := fun q_z k_z => q_z = 99 ∧ k_z = 23
theorem z_or0 (x_z : Int32) : x_z ||| 0 = x_z := by
  apply Int32.toBitVec_inj.mp
  exact BitVec.or_zero
set_option maxHeartbeats 2000000 in
theorem c_X10_layWalks {g_z : z_U} {d_z : Nat} {zS : z_S} (hN_z : z_LM zS) {zV : z_V} (hO : z_OV zV) (hV : z_mV (z_I zS) zV) {db : Int32} (hdb : z_I zS 99 25 = db) {o : Nat} (ho : z_is zS o (1, 17)) (ho9 : ¬ o = 99) {zT : Nat → Int32} (hW : z_rW (z_I zS) o 0 zT) {dog : Bool} (hdg : z_mdg zV db (zT 0) = dog) : z_C g_z (d_z + 1) 0 0 mX10_layWalks [.ref 99, .ref o] zS (fun r_z zS' => r_z = none ∧ ∃ zI', z_up zS zI' = zS' ∧ z_f2 z_P23 (z_I zS) zI' ∧ zI' 99 23 = z_wkd zV zT dog zV.2.1) := by
  refine z_enter [some (.ref 99), some (.ref o), none, none, none] rfl rfl (Nat.le_of_ble_eq_true rfl) rfl (fun zX hM_z => ?_)
  have hB_z : z_B g_z zX RX10 cX10_layWalks 5 := hM_z.1
  have hn6 := hO.2.1
  have loop := z_loop (fun k_z => ∀ I1, z_f2 z_P23 (z_I zS) I1 → I1 99 23 = z_wkd zV zT dog k_z → z_W g_z zX 7 [some (.ref 99), some (.ref o), some (.int (nI k_z)), none, none] [] 0 0 (z_up zS I1)) zV.2.1 (fun k_z hk ih_z I1 hf hw => by
    refine z_s 8 hB_z dX10_layWalks_7 rfl rfl ?_
    refine z_s 9 hB_z dX10_layWalks_8 rfl rfl ?_
    refine z_getI 12 hB_z fX10_50 (N99 (zS := zS) hN_z) dX10_layWalks_9 rfl rfl ?_
    rw [show z_I (z_up zS I1) 99 10 = nI zV.2.1 from (hf 99 10 (by unfold z_P23; omega)).trans hV.1]
    refine z_b 15 122 hB_z dX10_layWalks_12 rfl rfl (by decide) (fun c_12 => ?_) (fun c_12 => ?_)
    ·
      have hks : k_z = zV.2.1 := by
        have := (nI_leI (by omega) (by omega)).mp (show nI zV.2.1 ≤ nI k_z from c_12)
        omega
      subst hks
      refine z_vret hM_z dX10_layWalks_122 rfl ?_ rfl rfl
      exact ⟨rfl, I1, rfl, hf, hw⟩
    ·
      have hks : k_z < zV.2.1 := (nI_ltI (by omega) (by omega)).mp (show nI k_z < nI zV.2.1 from c_12)
      have tl : ∀ b_z : Int32, (b_z = 0 → ¬ z_isw zV zT dog k_z) → (¬ b_z = 0 → z_isw zV zT dog k_z) → z_W g_z zX 80 [some (.ref 99), some (.ref o), some (.int (nI k_z)), none, none] [.int b_z] 0 0 (z_up zS I1) := fun b_z hb0 hb1 => by
        refine z_s 82 hB_z dX10_layWalks_80 rfl rfl ?_
        refine z_s 83 hB_z dX10_layWalks_82 rfl rfl ?_
        refine z_s 84 hB_z dX10_layWalks_83 rfl rfl ?_
        refine z_getI 87 hB_z fX10_142 (N99 (zS := zS) hN_z) dX10_layWalks_84 rfl rfl ?_
        rw [show z_I (z_up zS I1) 99 23 = z_wkd zV zT dog k_z from hw]
        refine z_s 89 hB_z dX10_layWalks_87 rfl rfl ?_
        refine z_b 92 111 hB_z dX10_layWalks_89 rfl rfl (by decide) (fun c_89 => ?_) (fun c_89 => ?_)
        ·
          refine z_s 112 hB_z dX10_layWalks_111 rfl rfl ?_
          refine z_s 113 hB_z dX10_layWalks_112 rfl rfl ?_
          rw [z_or0]
          refine z_putI 116 hB_z fX10_142 (N99 (zS := zS) hN_z) dX10_layWalks_113 rfl rfl rfl ?_
          refine z_s 119 hB_z dX10_layWalks_116 rfl rfl ?_
          refine z_j 7 hB_z dX10_layWalks_119 (by decide) ?_
          exact z_wkn (ih_z hks (z_u2 I1 99 23 (z_wkd zV zT dog k_z)) (hf.u2 ⟨rfl, rfl⟩) ((z_u2_same _ _ _ _).trans (z_wkd_no hO hks (fun q_z => hb0 c_89 q_z.1)).symm)) ⟨rfl, rfl, congrArg (fun q_z => some (Value.int q_z)) (z_inc k_z), trivial⟩
        ·
          refine z_s 93 hB_z dX10_layWalks_92 rfl rfl ?_
          refine z_s 94 hB_z dX10_layWalks_93 rfl rfl ?_
          refine z_s 95 hB_z dX10_layWalks_94 rfl rfl ?_
          refine z_s 96 hB_z dX10_layWalks_95 rfl rfl ?_
          rw [z_n5]
          refine z_ald 97 hB_z ho dX10_layWalks_96 rfl (vp_in_nI (show 5 + k_z < 17 by omega) (by decide)) ?_
          rw [nI_clamp (by omega), show z_I (z_up zS I1) o (5 + k_z) = z_qr (zT 4) k_z 6 from (hf o _ (by unfold z_P23; omega)).trans ((congrArg (z_I zS o) (show 5 + k_z = 0 + 5 + k_z by omega)).trans (hW.aq k_z (by omega)))]
          refine z_s 98 hB_z dX10_layWalks_97 rfl rfl ?_
          refine z_getI 101 hB_z fX10_142 (N99 (zS := zS) hN_z) dX10_layWalks_98 rfl rfl ?_
          rw [show z_I (z_up zS I1) 99 23 = z_wkd zV zT dog k_z from hw]
          refine z_s 102 hB_z dX10_layWalks_101 rfl rfl ?_
          refine z_b 105 111 hB_z dX10_layWalks_102 rfl rfl (by decide) (fun c_102 => ?_) (fun c_102 => ?_)
          ·
            refine z_s 112 hB_z dX10_layWalks_111 rfl rfl ?_
            refine z_s 113 hB_z dX10_layWalks_112 rfl rfl ?_
            rw [z_or0]
            refine z_putI 116 hB_z fX10_142 (N99 (zS := zS) hN_z) dX10_layWalks_113 rfl rfl rfl ?_
            refine z_s 119 hB_z dX10_layWalks_116 rfl rfl ?_
            refine z_j 7 hB_z dX10_layWalks_119 (by decide) ?_
            exact z_wkn (ih_z hks (z_u2 I1 99 23 (z_wkd zV zT dog k_z)) (hf.u2 ⟨rfl, rfl⟩) ((z_u2_same _ _ _ _).trans (z_wkd_no hO hks (fun q_z => c_102 q_z.2)).symm)) ⟨rfl, rfl, congrArg (fun q_z => some (Value.int q_z)) (z_inc k_z), trivial⟩
          ·
            refine z_s 106 hB_z dX10_layWalks_105 rfl rfl ?_
            refine z_s 107 hB_z dX10_layWalks_106 rfl rfl ?_
            refine z_s 108 hB_z dX10_layWalks_107 rfl rfl ?_
            refine z_j 112 hB_z dX10_layWalks_108 (by decide) ?_
            refine z_s 113 hB_z dX10_layWalks_112 rfl rfl ?_
            refine z_putI 116 hB_z fX10_142 (N99 (zS := zS) hN_z) dX10_layWalks_113 rfl rfl rfl ?_
            refine z_s 119 hB_z dX10_layWalks_116 rfl rfl ?_
            refine z_j 7 hB_z dX10_layWalks_119 (by decide) ?_
            exact z_wkn (ih_z hks (z_u2 I1 99 23 (z_wkd zV zT dog k_z ||| (1 <<< (nI k_z &&& 31)))) (hf.u2 ⟨rfl, rfl⟩) ((z_u2_same _ _ _ _).trans (z_wkd_yes hO hks (hb1 c_89) c_102).symm)) ⟨rfl, rfl, congrArg (fun q_z => some (Value.int q_z)) (z_inc k_z), trivial⟩
      refine z_s 16 hB_z dX10_layWalks_15 rfl rfl ?_
      refine z_getR 19 hB_z fX10_22 (N99 (zS := zS) hN_z) dX10_layWalks_16 rfl rfl (n99_13 (zS := zS) hN_z) ?_
      refine z_s 20 hB_z dX10_layWalks_19 rfl rfl ?_
      refine z_s 21 hB_z dX10_layWalks_20 rfl rfl ?_
      refine z_s 22 hB_z dX10_layWalks_21 rfl rfl ?_
      refine z_s 23 hB_z dX10_layWalks_22 rfl rfl ?_
      refine z_s 24 hB_z dX10_layWalks_23 rfl rfl ?_
      rw [z_n4 _ (by omega), show nI (4 * k_z) + 2 = nI (4 * k_z + 2) from z_n4b _ 2]
      refine z_ald 25 hB_z (N104 (zS := zS) hN_z) dX10_layWalks_24 rfl (vp_in_nI (show 4 * k_z + 2 < 24 by omega) (by decide)) ?_
      rw [nI_clamp (by omega), show z_I (z_up zS I1) 104 (4 * k_z + 2) = zV.1 2 k_z from (hf 104 _ (by unfold z_P23; omega)).trans (hV.2.2.2.1 k_z hks 2 (by decide))]
      refine z_s 26 hB_z dX10_layWalks_25 rfl rfl ?_
      refine z_s 27 hB_z dX10_layWalks_26 rfl rfl ?_
      refine z_s 28 hB_z dX10_layWalks_27 rfl rfl ?_
      refine z_ald 29 hB_z ho dX10_layWalks_28 rfl (vp_in_nI (show 0 < 17 by decide) (by decide)) ?_
      rw [z_c0, show z_I (z_up zS I1) o 0 = zT 0 from (hf o 0 (by unfold z_P23; omega)).trans hW.a0]
      refine z_s 30 hB_z dX10_layWalks_29 rfl rfl ?_
      refine z_irem 31 hB_z dX10_layWalks_30 rfl (hO.e0 hks) ?_
      refine z_s 32 hB_z dX10_layWalks_31 rfl rfl ?_
      refine z_getR 35 hB_z fX10_22 (N99 (zS := zS) hN_z) dX10_layWalks_32 rfl rfl (n99_13 (zS := zS) hN_z) ?_
      refine z_s 36 hB_z dX10_layWalks_35 rfl rfl ?_
      refine z_s 37 hB_z dX10_layWalks_36 rfl rfl ?_
      refine z_s 38 hB_z dX10_layWalks_37 rfl rfl ?_
      refine z_s 39 hB_z dX10_layWalks_38 rfl rfl ?_
      refine z_s 40 hB_z dX10_layWalks_39 rfl rfl ?_
      rw [z_n4 _ (by omega), show nI (4 * k_z) + 3 = nI (4 * k_z + 3) from z_n4b _ 3]
      refine z_ald 41 hB_z (N104 (zS := zS) hN_z) dX10_layWalks_40 rfl (vp_in_nI (show 4 * k_z + 3 < 24 by omega) (by decide)) ?_
      rw [nI_clamp (by omega), show z_I (z_up zS I1) 104 (4 * k_z + 3) = zV.1 3 k_z from (hf 104 _ (by unfold z_P23; omega)).trans (hV.2.2.2.1 k_z hks 3 (by decide))]
      refine z_s 42 hB_z dX10_layWalks_41 rfl rfl ?_
      refine z_irem 43 hB_z dX10_layWalks_42 rfl (hO.e0 hks) ?_
      refine z_b 46 79 hB_z dX10_layWalks_43 rfl rfl (by decide) (fun c_43 => ?_) (fun c_43 => ?_)
      ·
        refine z_s 80 hB_z dX10_layWalks_79 rfl rfl ?_
        exact z_wkn (tl 0 (fun _ q_z => c_43 q_z.1) (fun q_z => absurd rfl q_z)) ⟨rfl, rfl, rfl, trivial⟩
      ·
        refine z_s 47 hB_z dX10_layWalks_46 rfl rfl ?_
        refine z_s 48 hB_z dX10_layWalks_47 rfl rfl ?_
        refine z_s 49 hB_z dX10_layWalks_48 rfl rfl ?_
        refine z_ald 50 hB_z ho dX10_layWalks_49 rfl (vp_in_nI (show 0 < 17 by decide) (by decide)) ?_
        rw [z_c0, show z_I (z_up zS I1) o 0 = zT 0 from (hf o 0 (by unfold z_P23; omega)).trans hW.a0]
        refine z_callV 53 hB_z hM_z.2.1 kX10_145 dX10_layWalks_50 rfl (N99 (zS := zS) hN_z) rfl (c_X10_isDogNight (zS := z_up zS I1) (d_z := 0) hN_z (zV := zV) (db := db) ((hf 99 12 (by unfold z_P23; omega)).trans hV.2.2.1) ((hf 99 25 (by unfold z_P23; omega)).trans hdb)) (by omega) rfl rfl (Nat.le_of_ble_eq_true rfl) ⟨Nat.le_refl _, Nat.le_refl _⟩ ?_
        rintro _ _ ⟨rfl, rfl⟩
        refine z_b 56 79 hB_z dX10_layWalks_53 rfl rfl (by decide) (fun c_53 => ?_) (fun c_53 => ?_)
        ·
          refine z_s 80 hB_z dX10_layWalks_79 rfl rfl ?_
          exact z_wkn (tl 0 (fun _ q_z => by rw [hdg] at c_53; exact absurd ((if_neg (fun z_z => by rw [q_z.2.1] at z_z; cases z_z)).trans rfl) c_53) (fun q_z => absurd rfl q_z)) ⟨rfl, rfl, rfl, trivial⟩
        ·
          refine z_s 57 hB_z dX10_layWalks_56 rfl rfl ?_
          refine z_s 59 hB_z dX10_layWalks_57 rfl rfl ?_
          refine z_s 60 hB_z dX10_layWalks_59 rfl rfl ?_
          refine z_s 61 hB_z dX10_layWalks_60 rfl rfl ?_
          rw [z_n11]
          refine z_ald 62 hB_z ho dX10_layWalks_61 rfl (vp_in_nI (show 11 + k_z < 17 by omega) (by decide)) ?_
          rw [nI_clamp (by omega), show z_I (z_up zS I1) o (11 + k_z) = zT (6 + k_z) from (hf o _ (by unfold z_P23; omega)).trans ((congrArg (z_I zS o) (show 11 + k_z = 0 + 11 + k_z by omega)).trans (hW.aw k_z (by omega)))]
          refine z_b 65 79 hB_z dX10_layWalks_62 rfl rfl (by decide) (fun c_62 => ?_) (fun c_62 => ?_)
          ·
            refine z_s 80 hB_z dX10_layWalks_79 rfl rfl ?_
            exact z_wkn (tl 0 (fun _ q_z => c_62 q_z.2.2.1) (fun q_z => absurd rfl q_z)) ⟨rfl, rfl, rfl, trivial⟩
          ·
            refine z_s 66 hB_z dX10_layWalks_65 rfl rfl ?_
            refine z_s 67 hB_z dX10_layWalks_66 rfl rfl ?_
            refine z_ald 68 hB_z ho dX10_layWalks_67 rfl (vp_in_nI (show 4 < 17 by decide) (by decide)) ?_
            rw [z_c4, show z_I (z_up zS I1) o 4 = zT 5 from (hf o 4 (by unfold z_P23; omega)).trans hW.a4]
            refine z_s 69 hB_z dX10_layWalks_68 rfl rfl ?_
            refine z_callS 72 hB_z hM_z.2.1 kX10_107 dX10_layWalks_69 rfl (c_X10_has (d_z := 0)) (by omega) rfl rfl (Nat.le_of_ble_eq_true rfl) ⟨Nat.le_refl _, Nat.le_refl _⟩ ?_
            rintro _ _ ⟨rfl, rfl⟩
            refine z_b 75 79 hB_z dX10_layWalks_72 rfl rfl (by decide) (fun c_72 => ?_) (fun c_72 => ?_)
            ·
              refine z_s 80 hB_z dX10_layWalks_79 rfl rfl ?_
              exact z_wkn (tl 0 (fun _ q_z => Bool.noConfusion ((show z_hb (zT 5) k_z = true from decide_eq_true (z_of1 c_72)).symm.trans q_z.2.2.2)) (fun q_z => absurd rfl q_z)) ⟨rfl, rfl, rfl, trivial⟩
            ·
              refine z_s 76 hB_z dX10_layWalks_75 rfl rfl ?_
              refine z_j 80 hB_z dX10_layWalks_76 (by decide) ?_
              exact z_wkn (tl 1 (fun q_z _ => absurd q_z (by decide)) (fun _ => ⟨c_43, by rw [hdg] at c_53; exact z_if0 c_53, c_62, decide_eq_false (z_of0 c_72)⟩)) ⟨rfl, rfl, rfl, trivial⟩) 0 (Nat.zero_le _)
  refine z_s 1 hB_z dX10_layWalks_0 rfl rfl ?_
  refine z_s 2 hB_z dX10_layWalks_1 rfl rfl ?_
  refine z_putI 5 hB_z fX10_142 (N99 (zS := zS) hN_z) dX10_layWalks_2 rfl rfl rfl ?_
  refine z_s 6 hB_z dX10_layWalks_5 rfl rfl ?_
  refine z_s 7 hB_z dX10_layWalks_6 rfl rfl ?_
  exact loop (z_u2 (z_I zS) 99 23 0) (z_f2.rf.u2 ⟨rfl, rfl⟩) ((z_u2_same _ _ _ _).trans (by unfold z_wkd; cases dog <;> rfl))

