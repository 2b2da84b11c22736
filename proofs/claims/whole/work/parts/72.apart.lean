/-! the model: quarrels made up; whom to keep apart -/
theorem z_wo_no {Q_z set_z : Int32} {p_z : Nat} (h_z : z_hb Q_z p_z = false) : z_wo Q_z set_z (p_z + 1) = z_wo Q_z set_z p_z := by
  show (if z_hb Q_z p_z = true then _ else _) = _
  rw [h_z]; rfl
theorem z_shl0 : ∀ p_z, p_z < 32 → (0 : Int32) <<< (nI p_z &&& 31) = 0 := by decide +kernel
theorem z_xor0 (x_z : Int32) : x_z ^^^ 0 = x_z := by
  apply Int32.toBitVec_inj.mp
  exact BitVec.xor_zero
theorem z_wo_y0 {Q_z set_z : Int32} {p_z : Nat} (hp : p_z < 32) (h_z : z_hb Q_z p_z = true) (h2 : ¬ z_hb set_z (z_wo Q_z set_z p_z).2 = true) : z_wo Q_z set_z (p_z + 1) = ((z_wo Q_z set_z p_z).1, (z_wo Q_z set_z p_z).2 + 1) := by
  show (if z_hb Q_z p_z = true then _ else _) = _
  rw [if_pos h_z, if_neg h2, z_shl0 p_z hp, z_xor0]
theorem z_wo_y1 {Q_z set_z : Int32} {p_z : Nat} (h_z : z_hb Q_z p_z = true) (h2 : z_hb set_z (z_wo Q_z set_z p_z).2 = true) : z_wo Q_z set_z (p_z + 1) = ((z_wo Q_z set_z p_z).1 ^^^ (1 <<< (nI p_z &&& 31)), (z_wo Q_z set_z p_z).2 + 1) := by
  show (if z_hb Q_z p_z = true then _ else _) = _
  rw [if_pos h_z, if_pos h2]
theorem z_npl : ∀ a_z, a_z < 5 → ∀ k_z, k_z ≤ a_z → 6 * a_z + k_z ∉ z_pl := by decide
theorem z_wo_skip {Q_z set_z : Int32} (hQ : z_OQ Q_z) {a_z : Nat} (ha_z : a_z < 5) : ∀ k_z, k_z ≤ a_z + 1 → z_wo Q_z set_z (6 * a_z + k_z) = z_wo Q_z set_z (6 * a_z)
  | 0, _ => rfl
  | k_z + 1, hk => by
    have h0 : z_hb Q_z (6 * a_z + k_z) = false := by
      cases q_z : z_hb Q_z (6 * a_z + k_z) with
      | false => rfl
      | true => exact absurd (hQ _ (by omega) q_z) (z_npl a_z ha_z k_z (by omega))
    show z_wo Q_z set_z ((6 * a_z + k_z) + 1) = _
    rw [z_wo_no h0]
    exact z_wo_skip hQ ha_z k_z (by omega)
/-- made up so far -/
def z_wm (Q_z set_z : Int32) (p_z : Nat) : Int32 × Nat := z_wo Q_z set_z (if p_z < 30 then p_z else 30)
theorem z_wm_in {Q_z set_z : Int32} {a_z : Nat} (hQ : z_OQ Q_z) (ha_z : a_z < 6) : z_wm Q_z set_z (6 * a_z + (a_z + 1)) = z_wm Q_z set_z (6 * a_z) := by
  unfold z_wm
  by_cases h_z : a_z < 5
  · rw [if_pos (by omega), if_pos (by omega)]; exact z_wo_skip hQ h_z (a_z + 1) (Nat.le_refl _)
  · rw [if_neg (by omega), if_neg (by omega)]
theorem z_wm_at {Q_z set_z : Int32} {p_z : Nat} (h_z : p_z < 30) : z_wm Q_z set_z p_z = z_wo Q_z set_z p_z ∧ z_wm Q_z set_z (p_z + 1) = z_wo Q_z set_z (p_z + 1) := by
  unfold z_wm
  refine ⟨by rw [if_pos h_z], ?_⟩
  by_cases q_z : p_z + 1 < 30
  · rw [if_pos q_z]
  · rw [if_neg q_z, show p_z + 1 = 30 by omega]
theorem z_putT2 (zT : Nat → Int32) (k_z : Nat) (v_z w_z : Int32) : z_putT (z_putT zT k_z v_z) k_z w_z = z_putT zT k_z w_z := by
  funext i_z
  unfold z_putT
  by_cases q_z : i_z = k_z
  · rw [if_pos q_z, if_pos q_z]
  · rw [if_neg q_z, if_neg q_z, if_neg q_z]
theorem z_putT_s (zT : Nat → Int32) (k_z : Nat) (v_z : Int32) : z_putT zT k_z v_z k_z = v_z := if_pos rfl
theorem z_putT_id (zT : Nat → Int32) (k_z : Nat) : z_putT zT k_z (zT k_z) = zT := by
  funext i_z
  unfold z_putT
  by_cases q_z : i_z = k_z
  · rw [if_pos q_z, q_z]
  · rw [if_neg q_z]
set_option maxHeartbeats 4000000 in
theorem c_X10_makeUp {g_z : z_U} {d_z : Nat} {zS : z_S} {A_z : z_Ab} (hN_z : z_LM zS) (hR : z_RM (z_I zS) A_z) (hQ : z_OQ (z_AT A_z 4)) (hW0 : z_rW (z_I zS) 107 0 (z_AT A_z)) {set_z : Int32} : z_C g_z (d_z + 1) 0 0 mX10_makeUp [.ref 99, .int set_z] zS (fun r_z zS' => r_z = none ∧ ∃ zI', z_up zS zI' = zS' ∧ z_f2 (fun q_z _ => q_z = 107) (z_I zS) zI' ∧ z_rW zI' 107 0 (z_putT (z_AT A_z) 4 (z_wo (z_AT A_z 4) set_z 30).1)) := by
  refine z_enter [some (.ref 99), some (.int set_z), none, none, none] rfl rfl (Nat.le_of_ble_eq_true rfl) rfl (fun zX hM_z => ?_)
  have hB_z : z_B g_z zX RX10 cX10_makeUp 5 := hM_z.1
  have loop := z_loop (fun a_z => ∀ I1, z_f2 (fun q_z _ => q_z = 107) (z_I zS) I1 → z_rW I1 107 0 (z_putT (z_AT A_z) 4 (z_wm (z_AT A_z 4) set_z (6 * a_z)).1) → z_W g_z zX 4 [some (.ref 99), some (.int set_z), some (.int (nI (z_wm (z_AT A_z 4) set_z (6 * a_z)).2)), some (.int (nI a_z)), none] [] 0 0 (z_up zS I1)) 6 (fun a_z ha_z iha I1 hf hW => by
    refine z_s 5 hB_z dX10_makeUp_4 rfl rfl ?_
    refine z_s 7 hB_z dX10_makeUp_5 rfl rfl ?_
    refine z_b 10 72 hB_z dX10_makeUp_7 rfl rfl (by decide) (fun c_7 => ?_) (fun c_7 => ?_)
    ·
      have ha6 : a_z = 6 := by
        have := (nI_leI (by omega) (by omega)).mp (show nI 6 ≤ nI a_z from c_7)
        omega
      subst ha6
      refine z_vret hM_z dX10_makeUp_72 rfl ?_ rfl rfl
      exact ⟨rfl, I1, rfl, hf, hW⟩
    ·
      have ha6 : a_z < 6 := (nI_ltI (by omega) (by omega)).mp (show nI a_z < nI 6 from c_7)
      have inner : ∀ b_z, a_z + 1 ≤ b_z → b_z ≤ 6 → ∀ I1, z_f2 (fun q_z _ => q_z = 107) (z_I zS) I1 → z_rW I1 107 0 (z_putT (z_AT A_z) 4 (z_wm (z_AT A_z 4) set_z (6 * a_z + b_z)).1) → z_W g_z zX 15 [some (.ref 99), some (.int set_z), some (.int (nI (z_wm (z_AT A_z 4) set_z (6 * a_z + b_z)).2)), some (.int (nI a_z)), some (.int (nI b_z))] [] 0 0 (z_up zS I1) := fun b_z hba hb7 => by
        refine z_loop (fun b_z => a_z + 1 ≤ b_z → ∀ I1, z_f2 (fun q_z _ => q_z = 107) (z_I zS) I1 → z_rW I1 107 0 (z_putT (z_AT A_z) 4 (z_wm (z_AT A_z 4) set_z (6 * a_z + b_z)).1) → z_W g_z zX 15 [some (.ref 99), some (.int set_z), some (.int (nI (z_wm (z_AT A_z 4) set_z (6 * a_z + b_z)).2)), some (.int (nI a_z)), some (.int (nI b_z))] [] 0 0 (z_up zS I1)) 6 (fun b_z hb7 ihb0 hba I1 hf hW => ?_) b_z hb7 hba
        have ihb := fun q_z : b_z < 6 => ihb0 q_z (by omega)
        refine z_s 17 hB_z dX10_makeUp_15 rfl rfl ?_
        refine z_s 19 hB_z dX10_makeUp_17 rfl rfl ?_
        refine z_b 22 66 hB_z dX10_makeUp_19 rfl rfl (by decide) (fun c_19 => ?_) (fun c_19 => ?_)
        ·
          have hb6 : b_z = 6 := by
            have := (nI_leI (by omega) (by omega)).mp (show nI 6 ≤ nI b_z from c_19)
            omega
          subst hb6
          refine z_s 69 hB_z dX10_makeUp_66 rfl rfl ?_
          refine z_j 4 hB_z dX10_makeUp_69 (by decide) ?_
          exact z_wkn (iha (by omega) I1 hf (by rw [show 6 * (a_z + 1) = 6 * a_z + 6 by omega]; exact hW)) ⟨rfl, rfl, rfl, congrArg (fun q_z => some (Value.int q_z)) (z_inc a_z), trivial⟩
        ·
          have hb6 : b_z < 6 := (nI_ltI (by omega) (by omega)).mp (show nI b_z < nI 6 from c_19)
          have hp30 : 6 * a_z + b_z < 30 := by omega
          obtain ⟨w1_z, w2_z⟩ := z_wm_at (Q_z := z_AT A_z 4) (set_z := set_z) hp30
          have hpr : z_pr a_z b_z = 6 * a_z + b_z := if_pos (by omega)
          refine z_s 23 hB_z dX10_makeUp_22 rfl rfl ?_
          refine z_getR 26 hB_z fX10_28 (N99 (zS := zS) hN_z) dX10_makeUp_23 rfl rfl (n99_15 (zS := zS) hN_z) ?_
          refine z_s 27 hB_z dX10_makeUp_26 rfl rfl ?_
          refine z_s 28 hB_z dX10_makeUp_27 rfl rfl ?_
          refine z_s 29 hB_z dX10_makeUp_28 rfl rfl ?_
          rw [z_n5]
          refine z_ald 30 hB_z (N106 (zS := zS) hN_z) dX10_makeUp_29 rfl (vp_in_nI (show 5 + a_z < 17 by omega) (by decide)) ?_
          rw [nI_clamp (by omega), show z_I (z_up zS I1) 106 (5 + a_z) = z_qr (z_AT A_z 4) a_z 6 from (hf 106 _ (by omega)).trans ((congrArg (z_I zS 106) (show 5 + a_z = 0 + 5 + a_z by omega)).trans (hR.nw.aq a_z (by omega)))]
          refine z_s 32 hB_z dX10_makeUp_30 rfl rfl ?_
          refine z_callS 35 hB_z hM_z.2.1 kX10_107 dX10_makeUp_32 rfl (c_X10_has (d_z := 0)) (by omega) rfl rfl (Nat.le_of_ble_eq_true rfl) ⟨Nat.le_refl _, Nat.le_refl _⟩ ?_
          rintro _ _ ⟨rfl, rfl⟩
          rw [show (if z_qr (z_AT A_z 4) a_z 6 >>> (nI b_z &&& 31) &&& 1 = 1 then (1 : Int32) else 0) = if z_hb (z_AT A_z 4) (6 * a_z + b_z) = true then 1 else 0 from by rw [z_qr_bit _ _ _ (by omega), z_qb_pr (by omega), hpr]; cases z_hb (z_AT A_z 4) (6 * a_z + b_z) <;> rfl]
          refine z_b 38 60 hB_z dX10_makeUp_35 rfl rfl (by decide) (fun c_35 => ?_) (fun c_35 => ?_)
          ·
            have hno := z_if0 c_35
            refine z_s 63 hB_z dX10_makeUp_60 rfl rfl ?_
            refine z_j 15 hB_z dX10_makeUp_63 (by decide) ?_
            have e1_z : z_wm (z_AT A_z 4) set_z (6 * a_z + b_z + 1) = ((z_wo (z_AT A_z 4) set_z (6 * a_z + b_z)).1, (z_wo (z_AT A_z 4) set_z (6 * a_z + b_z)).2) := w2_z.trans (z_wo_no hno)
            have ih2 := ihb hb6 I1 hf
            rw [show 6 * a_z + (b_z + 1) = 6 * a_z + b_z + 1 by omega, e1_z] at ih2
            exact z_wkn (ih2 (by rw [← w1_z]; exact hW)) ⟨rfl, rfl, congrArg (fun q_z => some (Value.int (nI q_z.2))) w1_z, rfl, congrArg (fun q_z => some (Value.int q_z)) (z_inc b_z), trivial⟩
          ·
            have hyes := z_if1 c_35
            refine z_s 39 hB_z dX10_makeUp_38 rfl rfl ?_
            refine z_s 40 hB_z dX10_makeUp_39 rfl rfl ?_
            refine z_callS 43 hB_z hM_z.2.1 kX10_107 dX10_makeUp_40 rfl (c_X10_has (d_z := 0)) (by omega) rfl rfl (Nat.le_of_ble_eq_true rfl) ⟨Nat.le_refl _, Nat.le_refl _⟩ ?_
            rintro _ _ ⟨rfl, rfl⟩
            refine z_b 46 57 hB_z dX10_makeUp_43 rfl rfl (by decide) (fun c_43 => ?_) (fun c_43 => ?_)
            ·
              have hns : ¬ z_hb set_z (z_wo (z_AT A_z 4) set_z (6 * a_z + b_z)).2 = true := fun z_z => by
                rw [← w1_z] at z_z
                exact z_of0 c_43 (of_decide_eq_true z_z)
              refine z_s 60 hB_z dX10_makeUp_57 rfl rfl ?_
              refine z_s 63 hB_z dX10_makeUp_60 rfl rfl ?_
              refine z_j 15 hB_z dX10_makeUp_63 (by decide) ?_
              have e1_z : z_wm (z_AT A_z 4) set_z (6 * a_z + b_z + 1) = ((z_wo (z_AT A_z 4) set_z (6 * a_z + b_z)).1, (z_wo (z_AT A_z 4) set_z (6 * a_z + b_z)).2 + 1) := w2_z.trans (z_wo_y0 (by omega) hyes hns)
              have ih2 := ihb hb6 I1 hf
              rw [show 6 * a_z + (b_z + 1) = 6 * a_z + b_z + 1 by omega, e1_z] at ih2
              exact z_wkn (ih2 (by rw [← w1_z]; exact hW)) ⟨rfl, rfl, congrArg (fun q_z => some (Value.int q_z)) (by rw [w1_z]; exact z_inc _), rfl, congrArg (fun q_z => some (Value.int q_z)) (z_inc b_z), trivial⟩
            ·
              have hys : z_hb set_z (z_wo (z_AT A_z 4) set_z (6 * a_z + b_z)).2 = true := by
                rw [← w1_z]
                exact decide_eq_true (z_of1 c_43)
              refine z_s 47 hB_z dX10_makeUp_46 rfl rfl ?_
              refine z_getR 50 hB_z fX10_31 (N99 (zS := zS) hN_z) dX10_makeUp_47 rfl rfl (n99_16 (zS := zS) hN_z) ?_
              refine z_s 51 hB_z dX10_makeUp_50 rfl rfl ?_
              refine z_s 52 hB_z dX10_makeUp_51 rfl rfl ?_
              refine z_s 54 hB_z dX10_makeUp_52 rfl rfl ?_
              refine z_callS 57 hB_z hM_z.2.1 kX10_54 dX10_makeUp_54 rfl (c_X10_turn (zS := z_up zS I1) (d_z := 0) (f_z := 5) (a_z := a_z) (b_z := b_z) (N107 hN_z) (by omega) (by omega) (by decide)) (by omega) rfl rfl (Nat.le_of_ble_eq_true rfl) ⟨Nat.le_refl _, Nat.le_refl _⟩ ?_
              rintro _ _ ⟨rfl, rfl⟩
              have hW2 := hW.trn (a_z := a_z) (b_z := b_z) (by omega) (by omega) (by omega)
              rw [z_putT2, z_putT_s, hpr] at hW2
              refine z_s 60 hB_z dX10_makeUp_57 rfl rfl ?_
              refine z_s 63 hB_z dX10_makeUp_60 rfl rfl ?_
              refine z_j 15 hB_z dX10_makeUp_63 (by decide) ?_
              have e1_z : z_wm (z_AT A_z 4) set_z (6 * a_z + b_z + 1) = ((z_wo (z_AT A_z 4) set_z (6 * a_z + b_z)).1 ^^^ (1 <<< (nI (6 * a_z + b_z) &&& 31)), (z_wo (z_AT A_z 4) set_z (6 * a_z + b_z)).2 + 1) := w2_z.trans (z_wo_y1 hyes hys)
              have ih2 := ihb hb6 (z_trn I1 107 5 a_z b_z) (by unfold z_trn; refine z_f2.u2 (z_f2.u2 hf ?_) ?_ <;> exact rfl)
              rw [show 6 * a_z + (b_z + 1) = 6 * a_z + b_z + 1 by omega, e1_z] at ih2
              exact z_wkn (ih2 (by rw [← w1_z]; exact hW2)) ⟨rfl, rfl, congrArg (fun q_z => some (Value.int q_z)) (by rw [w1_z]; exact z_inc _), rfl, congrArg (fun q_z => some (Value.int q_z)) (z_inc b_z), trivial⟩
      refine z_s 11 hB_z dX10_makeUp_10 rfl rfl ?_
      refine z_s 12 hB_z dX10_makeUp_11 rfl rfl ?_
      refine z_s 13 hB_z dX10_makeUp_12 rfl rfl ?_
      refine z_s 15 hB_z dX10_makeUp_13 rfl rfl ?_
      exact z_wkn (inner (a_z + 1) (Nat.le_refl _) (by omega) I1 hf (by rw [z_wm_in hQ ha6]; exact hW)) ⟨rfl, rfl, congrArg (fun q_z => some (Value.int (nI q_z.2))) (z_wm_in hQ ha6).symm, rfl, congrArg (fun q_z => some (Value.int q_z)) (z_inc a_z), trivial⟩) 0 (Nat.zero_le _)
  refine z_s 1 hB_z dX10_makeUp_0 rfl rfl ?_
  refine z_s 2 hB_z dX10_makeUp_1 rfl rfl ?_
  refine z_s 3 hB_z dX10_makeUp_2 rfl rfl ?_
  refine z_s 4 hB_z dX10_makeUp_3 rfl rfl ?_
  exact z_wkn (loop (z_I zS) z_f2.rf (by rw [show (z_wm (z_AT A_z 4) set_z (6 * 0)).1 = z_AT A_z 4 from rfl, z_putT_id]; exact hW0)) ⟨rfl, rfl, rfl, rfl, trivial⟩

theorem z_mu_n (zV : z_V) (zT : Nat → Int32) (hm_z : zV.2.2.1 ≤ 10) : ∀ i_z, ∃ k_z, k_z ≤ 10 * i_z ∧ z_mu zV zT i_z = nI k_z
  | 0 => ⟨0, Nat.le_refl _, rfl⟩
  | i_z + 1 => by
    obtain ⟨k_z, hk, e_z⟩ := z_mu_n zV zT hm_z i_z
    obtain ⟨h_z, hh, e2_z⟩ := z_day_sv zV (z_gob zV i_z zT 0) (z_wlk zV (z_gob zV i_z zT) (z_hasDog zV (z_gob zV i_z zT 0))) zV.2.2.1
    refine ⟨k_z + h_z, by omega, ?_⟩
    show z_mu zV zT i_z + (z_dayO zV (z_gob zV i_z zT) (z_hasDog zV (z_gob zV i_z zT 0))).2.1 = _
    rw [e_z, show (z_dayO zV (z_gob zV i_z zT) (z_hasDog zV (z_gob zV i_z zT 0))).2.1 = nI h_z from e2_z]
    exact nI_add _ _
def z_apM (zV : z_V) (zT : Nat → Int32) (n_z : Nat) : Nat → Int32 × Int32
  | 0 => (0, -1)
  | j_z + 1 => z_off (z_apM zV zT n_z j_z) (nI j_z) (z_muV zV zT (nI j_z) n_z)
theorem z_apM_eq (zV : z_V) (hm_z : zV.2.2.1 ≤ 10) (zT : Nat → Int32) {n_z : Nat} (hn : n_z ≤ 14) : ∀ j_z, z_apM zV zT n_z (j_z + 1) = z_ap zV zT n_z (j_z + 1)
  | 0 => by
    have hv : 0 ≤ z_muV zV zT (nI 0) n_z := by
      obtain ⟨k_z, hk, e_z⟩ := z_mu_n zV (z_putT zT 4 (z_wo (zT 4) (nI 0) 30).1) hm_z n_z
      rw [show z_muV zV zT (nI 0) n_z = nI k_z from e_z]
      exact nI_pos' (by omega)
    have h_z := z_off0 hv
    exact h_z.1.trans h_z.2.symm
  | j_z + 1 => by
    show z_off (z_apM zV zT n_z (j_z + 1)) _ _ = z_off (z_ap zV zT n_z (j_z + 1)) _ _
    rw [z_apM_eq zV hm_z zT hn j_z]
theorem z_apM_lt (zV : z_V) (zT : Nat → Int32) (n_z : Nat) : ∀ j_z, j_z ≤ 64 → ∃ x_z, x_z < 64 ∧ (z_apM zV zT n_z j_z).1 = nI x_z
  | 0, _ => ⟨0, by decide, rfl⟩
  | j_z + 1, hj => z_off_lt (by omega) (z_apM_lt zV zT n_z j_z (by omega))
set_option maxHeartbeats 4000000 in
theorem c_X10_apart {g_z : z_U} {d_z : Nat} {zS : z_S} {A_z : z_Ab} (hN_z : z_LM zS) (hR : z_RM (z_I zS) A_z) (hO : z_OV (z_AV A_z)) (hT_z : z_OT (z_AT A_z)) {n_z what : Int32} : z_C g_z (d_z + 4) 0 0 mX10_apart [.ref 99, .int n_z, .int what] zS (z_MQ zS (z_ansApart A_z (z_qn (z_AT A_z 4)) n_z what)) := by
  refine z_enter [some (.ref 99), some (.int n_z), some (.int what), none, none, none, none, none] rfl rfl (Nat.le_of_ble_eq_true rfl) rfl (fun zX hM_z => ?_)
  have hB_z : z_B g_z zX RX10 cX10_apart 8 := hM_z.1
  have hn6 := hO.2.1
  have hm10 := hO.2.2.1
  have hq6 := hT_z.2.2.1
  have h64 := z_pow6 hq6
  have loop := fun (m_z : Nat) (hm14 : m_z ≤ 14) (hin : (1 ≤ nI m_z ∧ nI m_z ≤ 14) ∧ 0 ≤ what ∧ what ≤ 1) (hM_z : z_BM g_z zX (d_z + 4) 0 0 mX10_apart (z_MQ zS (z_ansApart A_z (z_qn (z_AT A_z 4)) (nI m_z) what))) => z_loop (fun j_z => ∀ I1, z_f2 z_scM (z_I zS) I1 → z_W g_z zX 29 [some (.ref 99), some (.int (nI m_z)), some (.int what), some (.int (z_apM (z_AV A_z) (z_AT A_z) m_z j_z).1), some (.int (z_apM (z_AV A_z) (z_AT A_z) m_z j_z).2), some (.int (nI j_z)), none, none] [] 0 0 (z_up zS I1)) (2 ^ z_qn (z_AT A_z 4)) (fun j_z hj ih_z I1 hf => by
    refine z_s 31 hB_z dX10_apart_29 rfl rfl ?_
    refine z_s 32 hB_z dX10_apart_31 rfl rfl ?_
    refine z_s 33 hB_z dX10_apart_32 rfl rfl ?_
    refine z_getR 36 hB_z fX10_28 (N99 (zS := zS) hN_z) dX10_apart_33 rfl rfl (n99_15 (zS := zS) hN_z) ?_
    refine z_s 37 hB_z dX10_apart_36 rfl rfl ?_
    refine z_callS 40 hB_z hM_z.2.1 kX10_111 dX10_apart_37 rfl (c_X10_quarrelsIn (zS := z_up zS I1) (d_z := 0) (f_z := 5) (N106 hN_z) (by decide) (by decide)) (by omega) rfl rfl (Nat.le_of_ble_eq_true rfl) ⟨Nat.le_refl _, Nat.le_refl _⟩ ?_
    rintro _ _ ⟨rfl, rfl⟩
    rw [z_sb_qr (zI := z_I (z_up zS I1)) (o := 106) (f_z := 5) (Q_z := z_AT A_z 4) (fun a_z ha_z => (congrArg (I1 106) (show 5 + a_z = 0 + 5 + a_z by omega)).trans ((hR.scr hf).nw.aq a_z ha_z))]
    refine z_s 41 hB_z dX10_apart_40 rfl rfl ?_
    rw [z_shl _ (by omega)]
    refine z_b 44 157 hB_z dX10_apart_41 rfl rfl (by decide) (fun c_41 => ?_) (fun c_41 => ?_)
    ·
      have hjs : j_z = 2 ^ z_qn (z_AT A_z 4) := by
        have := (nI_leI (by omega) (by omega)).mp c_41
        omega
      subst hjs
      obtain ⟨p_z, hp⟩ : ∃ p_z, 2 ^ z_qn (z_AT A_z 4) = p_z + 1 := ⟨2 ^ z_qn (z_AT A_z 4) - 1, by have := Nat.two_pow_pos (z_qn (z_AT A_z 4)); omega⟩
      have hse : z_apM (z_AV A_z) (z_AT A_z) m_z (2 ^ z_qn (z_AT A_z 4)) = z_ap (z_AV A_z) (z_AT A_z) m_z (2 ^ z_qn (z_AT A_z 4)) := by rw [hp]; exact z_apM_eq _ hm10 _ hm14 p_z
      refine z_s 158 hB_z dX10_apart_157 rfl rfl ?_
      refine z_b 161 166 hB_z dX10_apart_158 rfl rfl (by decide) (fun c_158 => ?_) (fun c_158 => ?_)
      ·
        refine z_s 167 hB_z dX10_apart_166 rfl rfl ?_
        refine z_iret hM_z dX10_apart_167 rfl ?_ rfl rfl
        exact z_MQ.ok (by rw [hse]; unfold z_ansApart; rw [if_pos hin, nI_clamp (by omega), if_neg c_158]) hf
      ·
        refine z_s 163 hB_z dX10_apart_161 rfl rfl ?_
        refine z_j 167 hB_z dX10_apart_163 (by decide) ?_
        refine z_iret hM_z dX10_apart_167 rfl ?_ rfl rfl
        exact z_MQ.ok (by rw [hse]; unfold z_ansApart; rw [if_pos hin, nI_clamp (by omega), if_pos c_158]) hf
    ·
      have hjs : j_z < 2 ^ z_qn (z_AT A_z 4) := (nI_ltI (by omega) (by omega)).mp c_41
      refine z_s 45 hB_z dX10_apart_44 rfl rfl ?_
      refine z_callV 48 hB_z hM_z.2.1 kX10_190 dX10_apart_45 rfl (N99 (zS := zS) hN_z) rfl (c_X10_begin (zS := z_up zS I1) (d_z := 0) hN_z (hR.scr hf)) (by omega) rfl rfl (Nat.le_of_ble_eq_true rfl) ⟨Nat.le_refl _, Nat.le_refl _⟩ ?_
      rintro _ _ ⟨rfl, I2_z, rfl, hf2, hW2, h25⟩
      refine z_s 49 hB_z dX10_apart_48 rfl rfl ?_
      refine z_s 51 hB_z dX10_apart_49 rfl rfl ?_
      refine z_callV 54 hB_z hM_z.2.1 kX10_193 dX10_apart_51 rfl (N99 (zS := zS) hN_z) rfl (c_X10_makeUp (zS := z_up (z_up zS I1) I2_z) (d_z := 0) hN_z (hR.scr (hf.tr hf2)) hT_z.2.1 hW2) (by omega) rfl rfl (Nat.le_of_ble_eq_true rfl) ⟨Nat.le_refl _, Nat.le_refl _⟩ ?_
      rintro _ _ ⟨rfl, I3, rfl, hf3, hW3⟩
      have nights := z_loop (fun i_z => ∀ I3, z_f2 z_scM (z_I zS) I3 → z_rW I3 107 0 (z_gob (z_AV A_z) i_z (z_putT (z_AT A_z) 4 (z_wo (z_AT A_z 4) (nI j_z) 30).1)) → I3 99 25 = -4 → z_W g_z zX 60 [some (.ref 99), some (.int (nI m_z)), some (.int what), some (.int (z_apM (z_AV A_z) (z_AT A_z) m_z j_z).1), some (.int (z_apM (z_AV A_z) (z_AT A_z) m_z j_z).2), some (.int (nI j_z)), some (.int (z_mu (z_AV A_z) (z_putT (z_AT A_z) 4 (z_wo (z_AT A_z 4) (nI j_z) 30).1) i_z)), some (.int (nI i_z))] [] 0 0 (z_up zS I3)) m_z (fun i_z hi_z ihi I3 hf3 hW3 h25 => by
        refine z_s 62 hB_z dX10_apart_60 rfl rfl ?_
        refine z_s 63 hB_z dX10_apart_62 rfl rfl ?_
        refine z_b 66 90 hB_z dX10_apart_63 rfl rfl (by decide) (fun c_63 => ?_) (fun c_63 => ?_)
        ·
          have hin1 : i_z = m_z := by
            have := (nI_leI (by omega) (by omega)).mp (show nI m_z ≤ nI i_z from c_63)
            omega
          subst hin1
          obtain ⟨v_z, hve⟩ : ∃ v_z, z_muV (z_AV A_z) (z_AT A_z) (nI j_z) i_z = v_z := ⟨_, rfl⟩
          obtain ⟨q_z, hqe⟩ : ∃ q_z, z_apM (z_AV A_z) (z_AT A_z) i_z j_z = q_z := ⟨_, rfl⟩
          obtain ⟨x_z, hx, hqx⟩ := z_apM_lt (z_AV A_z) (z_AT A_z) i_z j_z (by omega)
          rw [hqe] at hqx
          rw [hqe, show z_mu (z_AV A_z) (z_putT (z_AT A_z) 4 (z_wo (z_AT A_z 4) (nI j_z) 30).1) i_z = v_z from hve]
          have tl : ∀ b_z : Int32, (b_z = 0 → ¬ (q_z.2 < v_z ∨ (v_z = q_z.2 ∧ z_bc (nI j_z) < z_bc q_z.1))) → (¬ b_z = 0 → (q_z.2 < v_z ∨ (v_z = q_z.2 ∧ z_bc (nI j_z) < z_bc q_z.1))) → z_W g_z zX 121 [some (.ref 99), some (.int (nI i_z)), some (.int what), some (.int q_z.1), some (.int q_z.2), some (.int (nI j_z)), some (.int v_z), none] [.int b_z] 0 0 (z_up zS I3) := fun b_z hb0 hb1 => by
            refine z_s 123 hB_z dX10_apart_121 rfl rfl ?_
            refine z_s 125 hB_z dX10_apart_123 rfl rfl ?_
            refine z_b 128 133 hB_z dX10_apart_125 rfl rfl (by decide) (fun c_125 => ?_) (fun c_125 => ?_)
            ·
              refine z_s 134 hB_z dX10_apart_133 rfl rfl ?_
              refine z_s 135 hB_z dX10_apart_134 rfl rfl ?_
              refine z_s 137 hB_z dX10_apart_135 rfl rfl ?_
              refine z_s 139 hB_z dX10_apart_137 rfl rfl ?_
              refine z_b 142 147 hB_z dX10_apart_139 rfl rfl (by decide) (fun c_139 => ?_) (fun c_139 => ?_)
              ·
                refine z_s 149 hB_z dX10_apart_147 rfl rfl ?_
                refine z_s 151 hB_z dX10_apart_149 rfl rfl ?_
                refine z_s 154 hB_z dX10_apart_151 rfl rfl ?_
                refine z_j 29 hB_z dX10_apart_154 (by decide) ?_
                have e1_z : z_apM (z_AV A_z) (z_AT A_z) i_z (j_z + 1) = q_z := by
                  show z_off (z_apM (z_AV A_z) (z_AT A_z) i_z j_z) (nI j_z) (z_muV (z_AV A_z) (z_AT A_z) (nI j_z) i_z) = _
                  rw [hqe, hve]
                  exact z_off_n (hb0 c_125)
                have ih2 := ih_z hjs I3 hf3
                rw [e1_z] at ih2
                exact z_wkn ih2 ⟨rfl, rfl, rfl, rfl, rfl, congrArg (fun q_z => some (Value.int q_z)) (z_inc j_z), trivial⟩
              ·
                refine z_s 144 hB_z dX10_apart_142 rfl rfl ?_
                refine z_j 149 hB_z dX10_apart_144 (by decide) ?_
                refine z_s 151 hB_z dX10_apart_149 rfl rfl ?_
                refine z_s 154 hB_z dX10_apart_151 rfl rfl ?_
                refine z_j 29 hB_z dX10_apart_154 (by decide) ?_
                exact absurd (Or.inl c_139) (hb0 c_125)
            ·
              refine z_s 130 hB_z dX10_apart_128 rfl rfl ?_
              refine z_j 134 hB_z dX10_apart_130 (by decide) ?_
              refine z_s 135 hB_z dX10_apart_134 rfl rfl ?_
              refine z_s 137 hB_z dX10_apart_135 rfl rfl ?_
              refine z_s 139 hB_z dX10_apart_137 rfl rfl ?_
              refine z_b 142 147 hB_z dX10_apart_139 rfl rfl (by decide) (fun c_139 => ?_) (fun c_139 => ?_)
              ·
                refine z_s 149 hB_z dX10_apart_147 rfl rfl ?_
                refine z_s 151 hB_z dX10_apart_149 rfl rfl ?_
                refine z_s 154 hB_z dX10_apart_151 rfl rfl ?_
                refine z_j 29 hB_z dX10_apart_154 (by decide) ?_
                have e1_z : z_apM (z_AV A_z) (z_AT A_z) i_z (j_z + 1) = (nI j_z, q_z.2) := by
                  show z_off (z_apM (z_AV A_z) (z_AT A_z) i_z j_z) (nI j_z) (z_muV (z_AV A_z) (z_AT A_z) (nI j_z) i_z) = _
                  rw [hqe, hve]
                  exact (z_off_y (hb1 c_125)).trans (by rw [show v_z = q_z.2 from (hb1 c_125).elim (fun z_z => absurd z_z (z_nlt0 c_139)) (fun z_z => z_z.1)])
                have ih2 := ih_z hjs I3 hf3
                rw [e1_z] at ih2
                exact z_wkn ih2 ⟨rfl, rfl, rfl, rfl, rfl, congrArg (fun q_z => some (Value.int q_z)) (z_inc j_z), trivial⟩
              ·
                refine z_s 144 hB_z dX10_apart_142 rfl rfl ?_
                refine z_j 149 hB_z dX10_apart_144 (by decide) ?_
                refine z_s 151 hB_z dX10_apart_149 rfl rfl ?_
                refine z_s 154 hB_z dX10_apart_151 rfl rfl ?_
                refine z_j 29 hB_z dX10_apart_154 (by decide) ?_
                have e1_z : z_apM (z_AV A_z) (z_AT A_z) i_z (j_z + 1) = (nI j_z, v_z) := by
                  show z_off (z_apM (z_AV A_z) (z_AT A_z) i_z j_z) (nI j_z) (z_muV (z_AV A_z) (z_AT A_z) (nI j_z) i_z) = _
                  rw [hqe, hve]
                  exact z_off_y (hb1 c_125)
                have ih2 := ih_z hjs I3 hf3
                rw [e1_z] at ih2
                exact z_wkn ih2 ⟨rfl, rfl, rfl, rfl, rfl, congrArg (fun q_z => some (Value.int q_z)) (z_inc j_z), trivial⟩
          refine z_s 92 hB_z dX10_apart_90 rfl rfl ?_
          refine z_s 94 hB_z dX10_apart_92 rfl rfl ?_
          refine z_b 97 116 hB_z dX10_apart_94 rfl rfl (by decide) (fun c_94 => ?_) (fun c_94 => ?_)
          ·
            refine z_s 117 hB_z dX10_apart_116 rfl rfl ?_
            refine z_j 121 hB_z dX10_apart_117 (by decide) ?_
            exact z_wkn (tl 1 (fun z_z => absurd z_z (by decide)) (fun _ => Or.inl c_94)) ⟨rfl, rfl, rfl, rfl, rfl, rfl, rfl, trivial⟩
          ·
            refine z_s 99 hB_z dX10_apart_97 rfl rfl ?_
            refine z_s 101 hB_z dX10_apart_99 rfl rfl ?_
            refine z_b 104 120 hB_z dX10_apart_101 rfl rfl (by decide) (fun c_101 => ?_) (fun c_101 => ?_)
            ·
              refine z_s 121 hB_z dX10_apart_120 rfl rfl ?_
              exact z_wkn (tl 0 (fun _ z_z => z_z.elim (z_nlt0 c_94) (fun y_z => c_101 y_z.1)) (fun z_z => absurd rfl z_z)) ⟨rfl, rfl, rfl, rfl, rfl, rfl, rfl, trivial⟩
            ·
              refine z_s 106 hB_z dX10_apart_104 rfl rfl ?_
              refine z_callS 109 hB_z hM_z.2.1 kX10_75 dX10_apart_106 rfl (c_X10_bits (d_z := 0)) (by omega) rfl rfl (Nat.le_of_ble_eq_true rfl) ⟨Nat.le_refl _, Nat.le_refl _⟩ ?_
              rintro _ _ ⟨rfl, rfl⟩
              rw [z_bt_bc j_z (by omega)]
              refine z_s 110 hB_z dX10_apart_109 rfl rfl ?_
              refine z_callS 113 hB_z hM_z.2.1 kX10_75 dX10_apart_110 rfl (c_X10_bits (d_z := 0)) (by omega) rfl rfl (Nat.le_of_ble_eq_true rfl) ⟨Nat.le_refl _, Nat.le_refl _⟩ ?_
              rintro _ _ ⟨rfl, rfl⟩
              rw [hqx, z_bt_bc x_z hx, ← hqx]
              refine z_b 116 120 hB_z dX10_apart_113 rfl rfl (by decide) (fun c_113 => ?_) (fun c_113 => ?_)
              ·
                refine z_s 121 hB_z dX10_apart_120 rfl rfl ?_
                exact z_wkn (tl 0 (fun _ z_z => z_z.elim (z_nlt0 c_94) (fun y_z => z_nlt0 c_113 y_z.2)) (fun z_z => absurd rfl z_z)) ⟨rfl, rfl, rfl, rfl, rfl, rfl, rfl, trivial⟩
              ·
                refine z_s 117 hB_z dX10_apart_116 rfl rfl ?_
                refine z_j 121 hB_z dX10_apart_117 (by decide) ?_
                exact z_wkn (tl 1 (fun z_z => absurd z_z (by decide)) (fun _ => Or.inr ⟨c_101, c_113⟩)) ⟨rfl, rfl, rfl, rfl, rfl, rfl, rfl, trivial⟩
        ·
          have hin1 : i_z < m_z := (nI_ltI (by omega) (by omega)).mp (show nI i_z < nI m_z from c_63)
          refine z_s 67 hB_z dX10_apart_66 rfl rfl ?_
          refine z_s 68 hB_z dX10_apart_67 rfl rfl ?_
          refine z_getR 71 hB_z fX10_31 (N99 (zS := zS) hN_z) dX10_apart_68 rfl rfl (n99_16 (zS := zS) hN_z) ?_
          refine z_callV 74 hB_z hM_z.2.1 kX10_186 dX10_apart_71 rfl (N99 (zS := zS) hN_z) rfl (c_X10_goBy (zS := z_up zS I3) (d_z := 0) hN_z hO (hR.scr hf3).mv (db := -4) h25 (N107 hN_z) (Or.inr rfl) hW3 (((hT_z.1.put (by decide)).gob i_z).to hO.2.1) (dog := z_hasDog (z_AV A_z) (z_gob (z_AV A_z) i_z (z_putT (z_AT A_z) 4 (z_wo (z_AT A_z 4) (nI j_z) 30).1) 0)) (if_pos rfl)) (by omega) rfl rfl (Nat.le_of_ble_eq_true rfl) ⟨Nat.le_refl _, Nat.le_refl _⟩ ?_
          rintro _ _ ⟨rfl, I4, rfl, hf4, hW4, -, h27⟩
          refine z_s 75 hB_z dX10_apart_74 rfl rfl ?_
          refine z_s 77 hB_z dX10_apart_75 rfl rfl ?_
          refine z_s 78 hB_z dX10_apart_77 rfl rfl ?_
          refine z_getI 81 hB_z fX10_155 (N99 (zS := zS) hN_z) dX10_apart_78 rfl rfl ?_
          rw [show z_I (z_up (z_up zS I3) I4) 99 27 = _ from h27]
          refine z_s 82 hB_z dX10_apart_81 rfl rfl ?_
          refine z_s 84 hB_z dX10_apart_82 rfl rfl ?_
          refine z_s 87 hB_z dX10_apart_84 rfl rfl ?_
          refine z_j 60 hB_z dX10_apart_87 (by decide) ?_
          exact z_wkn (ihi hin1 I4 (hf3.tr (hf4.mono z_PGM_sc)) hW4 ((hf4 99 25 (by unfold z_PGM z_PLN; omega)).trans h25)) ⟨rfl, rfl, rfl, rfl, rfl, rfl, rfl, congrArg (fun q_z => some (Value.int q_z)) (z_inc i_z), trivial⟩) 0 (Nat.zero_le _)
      refine z_s 55 hB_z dX10_apart_54 rfl rfl ?_
      refine z_s 57 hB_z dX10_apart_55 rfl rfl ?_
      refine z_s 58 hB_z dX10_apart_57 rfl rfl ?_
      refine z_s 60 hB_z dX10_apart_58 rfl rfl ?_
      exact z_wkn (nights I3 ((hf.tr hf2).tr (hf3.mono (fun q_z k_z h_z => by unfold z_scM; omega))) hW3 ((hf3 99 25 (by omega)).trans h25)) ⟨rfl, rfl, rfl, rfl, rfl, rfl, rfl, rfl, trivial⟩) 0 (Nat.zero_le _)
  refine z_s 1 hB_z dX10_apart_0 rfl rfl ?_
  refine z_s 2 hB_z dX10_apart_1 rfl rfl ?_
  refine z_s 4 hB_z dX10_apart_2 rfl rfl ?_
  refine z_callS 7 hB_z hM_z.2.1 kX10_67 dX10_apart_4 rfl (c_X10_in (d_z := 0)) (by omega) rfl rfl (Nat.le_of_ble_eq_true rfl) ⟨Nat.le_refl _, Nat.le_refl _⟩ ?_
  rintro _ _ ⟨rfl, rfl⟩
  refine z_b 10 19 hB_z dX10_apart_7 rfl rfl (by decide) (fun c_7 => ?_) (fun c_7 => ?_)
  ·
    refine z_s 20 hB_z dX10_apart_19 rfl rfl ?_
    refine z_iret hM_z dX10_apart_20 rfl ?_ rfl rfl
    exact z_MQ.rf (if_neg (fun q_z => z_of0 c_7 q_z.1)).symm
  ·
    refine z_s 11 hB_z dX10_apart_10 rfl rfl ?_
    refine z_s 12 hB_z dX10_apart_11 rfl rfl ?_
    refine z_s 13 hB_z dX10_apart_12 rfl rfl ?_
    refine z_callS 16 hB_z hM_z.2.1 kX10_67 dX10_apart_13 rfl (c_X10_in (d_z := 0)) (by omega) rfl rfl (Nat.le_of_ble_eq_true rfl) ⟨Nat.le_refl _, Nat.le_refl _⟩ ?_
    rintro _ _ ⟨rfl, rfl⟩
    refine z_b 19 21 hB_z dX10_apart_16 rfl rfl (by decide) (fun c_16 => ?_) (fun c_16 => ?_)
    ·
      have h1 := z_of1 c_7
      have h2 := z_of1 c_16
      obtain ⟨m_z, hm_z, rfl⟩ := z_le28 (Int32.le_trans (by decide) h1.1) (m_z := 14) (by decide) h1.2
      refine z_s 22 hB_z dX10_apart_21 rfl rfl ?_
      refine z_s 23 hB_z dX10_apart_22 rfl rfl ?_
      refine z_s 24 hB_z dX10_apart_23 rfl rfl ?_
      refine z_s 26 hB_z dX10_apart_24 rfl rfl ?_
      refine z_s 27 hB_z dX10_apart_26 rfl rfl ?_
      refine z_s 29 hB_z dX10_apart_27 rfl rfl ?_
      exact z_wkn (loop m_z hm_z ⟨h1, h2⟩ hM_z (z_I zS) z_f2.rf) ⟨rfl, rfl, rfl, rfl, rfl, rfl, trivial⟩
    ·
      refine z_s 20 hB_z dX10_apart_19 rfl rfl ?_
      refine z_iret hM_z dX10_apart_20 rfl ?_ rfl rfl
      exact z_MQ.rf (if_neg (fun q_z => z_of0 c_16 q_z.2)).symm

