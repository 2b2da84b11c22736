/-! the model: an item is read -/
/-- the model's cells tell the draft -/
def z_rMD (zI : Nat → Nat → Int32) (D_z : z_Dr) : Prop := zI 99 4 = nI D_z.1.2.1 ∧ zI 99 5 = nI D_z.1.2.2.1 ∧ zI 99 6 = D_z.1.2.2.2 ∧ (∀ s_z, s_z < D_z.1.2.1 → ∀ k_z, k_z < 4 → zI 101 (4 * s_z + k_z) = D_z.1.1 k_z s_z) ∧ (∀ c_z, c_z < D_z.1.2.2.1 → ∀ k_z, k_z < 4 → zI 102 (4 * c_z + k_z) = D_z.1.1 (4 + k_z) c_z) ∧ ∀ a_z, a_z < 6 → zI 103 a_z = z_qr D_z.2 a_z 6
def z_PIt (n_z m_z : Nat) : Nat → Nat → Prop := fun a_z k_z => (a_z = 99 ∧ (k_z = 2 ∨ k_z = 3)) ∨ (a_z = 101 ∧ 4 * n_z ≤ k_z) ∨ (a_z = 102 ∧ 4 * m_z ≤ k_z)
theorem z_PIt_sc {n_z m_z : Nat} : ∀ a_z k_z, z_PIt n_z m_z a_z k_z → z_scM a_z k_z := fun a_z k_z h_z => by
  unfold z_PIt at h_z
  unfold z_scM
  omega
def z_IMP (zS : z_S) (q_z : (Nat → Int32) × Nat) (D_z : z_Dr) (p_z : Nat) : Option Value → z_S → Prop := fun r_z zS' => ∃ v_z : Int32, r_z = some (.int v_z) ∧ ∃ zI', z_up zS zI' = zS' ∧ z_f2 z_scM (z_I zS) zI' ∧ ((v_z = 0 ∧ z_item q_z D_z p_z = none) ∨ (v_z = 1 ∧ ∃ D_z' p_z', z_item q_z D_z p_z = some (D_z', p_z') ∧ z_rMD zI' D_z' ∧ zI' 99 2 = nI p_z'))
theorem z_nms_s {q_z : (Nat → Int32) × Nat} {many p_z i_z : Nat} {f_z' : Nat → Int32} {p_z' : Nat} (h_z : z_nms q_z many p_z (i_z + 1) = some (f_z', p_z')) : ∃ f_z p1_z, z_nms q_z many p_z i_z = some (f_z, p1_z) ∧ ¬ (z_num q_z p1_z).1 < 0 ∧ z_lt q_z (z_num q_z p1_z).2 = (if i_z + 1 < many then 44 else 59) ∧ f_z' = fun k_z => if k_z = i_z then (z_num q_z p1_z).1 else f_z k_z := by
  unfold z_nms at h_z
  cases e_z : z_nms q_z many p_z i_z with
  | none => rw [e_z] at h_z; cases h_z
  | some x_z =>
    obtain ⟨f_z, p1_z⟩ := x_z
    rw [e_z] at h_z
    have h2 : (if (z_num q_z p1_z).1 < 0 ∨ ¬ z_lt q_z (z_num q_z p1_z).2 = (if i_z + 1 < many then 44 else 59) then none else some (fun k_z => if k_z = i_z then (z_num q_z p1_z).1 else f_z k_z, (z_num q_z p1_z).2 + 1)) = some (f_z', p_z') := h_z
    by_cases c_z : (z_num q_z p1_z).1 < 0 ∨ ¬ z_lt q_z (z_num q_z p1_z).2 = (if i_z + 1 < many then 44 else 59)
    · rw [if_pos c_z] at h2; cases h2
    · rw [if_neg c_z] at h2
      refine ⟨f_z, p1_z, rfl, fun z_z => c_z (Or.inl z_z), ?_, ?_⟩
      · exact Classical.byContradiction (fun z_z => c_z (Or.inr z_z))
      · cases h2; rfl
theorem z_nms_ok {q_z : (Nat → Int32) × Nat} {many p_z i_z : Nat} {f_z : Nat → Int32} {p1_z : Nat} (h_z : z_nms q_z many p_z i_z = some (f_z, p1_z)) (h1 : ¬ (z_num q_z p1_z).1 < 0) (h2 : z_lt q_z (z_num q_z p1_z).2 = (if i_z + 1 < many then 44 else 59)) : z_nms q_z many p_z (i_z + 1) = some (fun k_z => if k_z = i_z then (z_num q_z p1_z).1 else f_z k_z, (z_num q_z p1_z).2 + 1) := by
  show (match z_nms q_z many p_z i_z with | none => none | some (f_z, p1_z) => _) = _
  rw [h_z]
  exact if_neg (fun z_z => z_z.elim h1 (fun y_z => y_z h2))
theorem z_nms_at {q_z : (Nat → Int32) × Nat} {many p_z i_z : Nat} {f_z : Nat → Int32} {p1_z : Nat} (h_z : z_nms q_z many p_z i_z = some (f_z, p1_z)) : ∀ j_z, i_z < j_z → ∀ f_z' p_z', z_nms q_z many p_z j_z = some (f_z', p_z') → f_z' i_z = (z_num q_z p1_z).1 ∧ ¬ (z_num q_z p1_z).1 < 0 ∧ z_lt q_z (z_num q_z p1_z).2 = (if i_z + 1 < many then 44 else 59)
  | 0, hj, _, _, _ => absurd hj (Nat.not_lt_zero i_z)
  | j_z + 1, hj, f_z', p_z', h_z' => by
    obtain ⟨g_z, p2_z, e1_z, e2_z, e3_z, e4_z⟩ := z_nms_s h_z'
    by_cases e_z : j_z = i_z
    · subst e_z
      rw [h_z] at e1_z
      cases e1_z
      exact ⟨by rw [e4_z]; exact if_pos rfl, e2_z, e3_z⟩
    · obtain ⟨i1_z, i2_z, i3_z⟩ := z_nms_at h_z j_z (by omega) g_z p2_z e1_z
      refine ⟨?_, i2_z, i3_z⟩
      rw [e4_z]
      exact (if_neg (fun z_z => e_z z_z.symm)).trans i1_z
theorem z_it_fail {q_z : (Nat → Int32) × Nat} {many p_z i_z : Nat} {tk : z_Dr → (Nat → Int32) → Option z_Dr} {D_z : z_Dr} {f_z : Nat → Int32} {p1_z : Nat} {lo_z hi_z : Int32} (h_z : z_nms q_z many (p_z + 1) i_z = some (f_z, p1_z)) (hi_z' : i_z < many) (htk : ∀ f_z' : Nat → Int32, ¬ f_z' i_z < 0 → ¬ (lo_z ≤ f_z' i_z ∧ f_z' i_z ≤ hi_z) → tk D_z f_z' = none) (hno : ¬ z_nok q_z p1_z lo_z hi_z (if i_z + 1 < many then 44 else 59)) : z_itm q_z many tk D_z p_z = none := by
  cases e_z : z_nms q_z many (p_z + 1) many with
  | none => exact z_itm_no e_z
  | some x_z =>
    obtain ⟨f_z', p_z'⟩ := x_z
    obtain ⟨e1_z, e2_z, e3_z⟩ := z_nms_at h_z many hi_z' f_z' p_z' e_z
    refine z_itm_no2 e_z (htk f_z' (by rw [e1_z]; exact e2_z) (fun z_z => hno ⟨e2_z, ?_, e3_z⟩))
    rw [← e1_z]
    exact z_z
theorem z_it_all {q_z : (Nat → Int32) × Nat} {many p_z : Nat} {tk : z_Dr → (Nat → Int32) → Option z_Dr} {D_z : z_Dr} (htk : ∀ f_z' : Nat → Int32, tk D_z f_z' = none) : z_itm q_z many tk D_z p_z = none := by
  cases e_z : z_nms q_z many (p_z + 1) many with
  | none => exact z_itm_no e_z
  | some x_z => exact z_itm_no2 e_z (htk x_z.1)
/-- what is taken -/
theorem z_tkS_at {D_z D_z' : z_Dr} {f_z : Nat → Int32} (h_z : z_tkS D_z f_z = some D_z') : D_z'.1.2 = (D_z.1.2.1 + 1, D_z.1.2.2) ∧ D_z'.2 = D_z.2 ∧ (∀ k_z, k_z < 4 → ∀ s_z, D_z'.1.1 k_z s_z = if s_z = D_z.1.2.1 then f_z k_z else D_z.1.1 k_z s_z) ∧ ∀ k_z, 4 ≤ k_z → k_z < 8 → D_z'.1.1 k_z = D_z.1.1 k_z := by
  unfold z_tkS at h_z
  split at h_z
  · cases h_z
    refine ⟨rfl, rfl, fun k_z hk s_z => ?_, fun k_z h1 h2 => ?_⟩
    · show (if k_z = 8 ∧ _ then _ else if k_z = 8 ∧ _ then _ else if k_z = 3 ∧ s_z = D_z.1.2.1 then f_z 3 else if k_z = 2 ∧ s_z = D_z.1.2.1 then f_z 2 else if k_z = 1 ∧ s_z = D_z.1.2.1 then f_z 1 else if k_z = 0 ∧ s_z = D_z.1.2.1 then f_z 0 else D_z.1.1 k_z s_z) = _
      rw [if_neg (by omega), if_neg (by omega)]
      by_cases e_z : s_z = D_z.1.2.1
      · rw [if_pos e_z]
        rcases (show k_z = 0 ∨ k_z = 1 ∨ k_z = 2 ∨ k_z = 3 by omega) with rfl | rfl | rfl | rfl
        · rw [if_neg (by omega), if_neg (by omega), if_neg (by omega), if_pos ⟨rfl, e_z⟩]
        · rw [if_neg (by omega), if_neg (by omega), if_pos ⟨rfl, e_z⟩]
        · rw [if_neg (by omega), if_pos ⟨rfl, e_z⟩]
        · rw [if_pos ⟨rfl, e_z⟩]
      · rw [if_neg e_z, if_neg (fun z_z => e_z z_z.2), if_neg (fun z_z => e_z z_z.2), if_neg (fun z_z => e_z z_z.2), if_neg (fun z_z => e_z z_z.2)]
    · funext s_z
      show (if k_z = 8 ∧ _ then _ else if k_z = 8 ∧ _ then _ else if k_z = 3 ∧ s_z = D_z.1.2.1 then f_z 3 else if k_z = 2 ∧ s_z = D_z.1.2.1 then f_z 2 else if k_z = 1 ∧ s_z = D_z.1.2.1 then f_z 1 else if k_z = 0 ∧ s_z = D_z.1.2.1 then f_z 0 else D_z.1.1 k_z s_z) = _
      rw [if_neg (by omega), if_neg (by omega), if_neg (by omega), if_neg (by omega), if_neg (by omega), if_neg (by omega)]
  · cases h_z
theorem z_tkC_at {D_z D_z' : z_Dr} {f_z : Nat → Int32} (h_z : z_tkC D_z f_z = some D_z') : D_z'.1.2 = (D_z.1.2.1, D_z.1.2.2.1 + 1, D_z.1.2.2.2) ∧ D_z'.2 = D_z.2 ∧ (∀ k_z, k_z < 4 → ∀ s_z, D_z'.1.1 (4 + k_z) s_z = if s_z = D_z.1.2.2.1 then f_z k_z else D_z.1.1 (4 + k_z) s_z) ∧ ∀ k_z, (k_z < 4 ∨ k_z = 8) → D_z'.1.1 k_z = D_z.1.1 k_z := by
  unfold z_tkC at h_z
  split at h_z
  · cases h_z
    refine ⟨rfl, rfl, fun k_z hk s_z => ?_, fun k_z h1 => ?_⟩
    · show (if 4 + k_z = 7 ∧ s_z = D_z.1.2.2.1 then f_z 3 else if 4 + k_z = 6 ∧ s_z = D_z.1.2.2.1 then f_z 2 else if 4 + k_z = 5 ∧ s_z = D_z.1.2.2.1 then f_z 1 else if 4 + k_z = 4 ∧ s_z = D_z.1.2.2.1 then f_z 0 else D_z.1.1 (4 + k_z) s_z) = _
      by_cases e_z : s_z = D_z.1.2.2.1
      · rw [if_pos e_z]
        rcases (show k_z = 0 ∨ k_z = 1 ∨ k_z = 2 ∨ k_z = 3 by omega) with rfl | rfl | rfl | rfl
        · rw [if_neg (by omega), if_neg (by omega), if_neg (by omega), if_pos ⟨rfl, e_z⟩]
        · rw [if_neg (by omega), if_neg (by omega), if_pos ⟨rfl, e_z⟩]
        · rw [if_neg (by omega), if_pos ⟨rfl, e_z⟩]
        · rw [if_pos ⟨rfl, e_z⟩]
      · rw [if_neg e_z, if_neg (fun z_z => e_z z_z.2), if_neg (fun z_z => e_z z_z.2), if_neg (fun z_z => e_z z_z.2), if_neg (fun z_z => e_z z_z.2)]
    · funext s_z
      show (if k_z = 7 ∧ s_z = D_z.1.2.2.1 then f_z 3 else if k_z = 6 ∧ s_z = D_z.1.2.2.1 then f_z 2 else if k_z = 5 ∧ s_z = D_z.1.2.2.1 then f_z 1 else if k_z = 4 ∧ s_z = D_z.1.2.2.1 then f_z 0 else D_z.1.1 k_z s_z) = _
      rw [if_neg (by omega), if_neg (by omega), if_neg (by omega), if_neg (by omega)]
  · cases h_z
theorem z_rMD.s {zI J_z : Nat → Nat → Int32} {D_z D_z' : z_Dr} {f_z : Nat → Int32} (hD : z_rMD zI D_z) (hf : z_f2 (z_PIt D_z.1.2.1 D_z.1.2.2.1) zI J_z) (hw : ∀ k_z, k_z < 4 → J_z 101 (4 * D_z.1.2.1 + k_z) = f_z k_z) (ht : z_tkS D_z f_z = some D_z') : z_rMD (z_u2 (z_u2 (z_u2 J_z 99 4 (nI (D_z.1.2.1 + 1))) 99 5 (nI D_z.1.2.2.1)) 99 6 D_z.1.2.2.2) D_z' := by
  obtain ⟨a1_z, a2, a3, a4⟩ := z_tkS_at ht
  obtain ⟨d1_z, d2_z, d3_z, d4_z, d5_z, d6_z⟩ := hD
  unfold z_rMD
  rw [a1_z, a2]
  have off_z : ∀ o k_z, o ≠ 99 → z_u2 (z_u2 (z_u2 J_z 99 4 (nI (D_z.1.2.1 + 1))) 99 5 (nI D_z.1.2.2.1)) 99 6 D_z.1.2.2.2 o k_z = J_z o k_z := fun o k_z ho => (z_u2_ne (Or.inl ho)).trans ((z_u2_ne (Or.inl ho)).trans (z_u2_ne (Or.inl ho)))
  refine ⟨(z_u2_ne (Or.inr (by decide))).trans ((z_u2_ne (Or.inr (by decide))).trans (z_u2_same _ _ _ _)), (z_u2_ne (Or.inr (by decide))).trans (z_u2_same _ _ _ _), z_u2_same _ _ _ _, fun s_z hs k_z hk => ?_, fun c_z hc_z k_z hk => ?_, fun a_z ha_z => ?_⟩
  · rw [off_z _ _ (by decide), a3 k_z hk s_z]
    by_cases e_z : s_z = D_z.1.2.1
    · rw [if_pos e_z, e_z]; exact hw k_z hk
    · rw [if_neg e_z, hf 101 _ (by unfold z_PIt; have : s_z < D_z.1.2.1 + 1 := hs; omega)]
      exact d4_z s_z (by have : s_z < D_z.1.2.1 + 1 := hs; omega) k_z hk
  · rw [off_z _ _ (by decide), a4 (4 + k_z) (by omega) (by omega), hf 102 _ (by unfold z_PIt; have : c_z < D_z.1.2.2.1 := hc_z; omega)]
    exact d5_z c_z hc_z k_z hk
  · rw [off_z _ _ (by decide), hf 103 _ (by unfold z_PIt; omega)]
    exact d6_z a_z ha_z
theorem z_rMD.c {zI J_z : Nat → Nat → Int32} {D_z D_z' : z_Dr} {f_z : Nat → Int32} (hD : z_rMD zI D_z) (hf : z_f2 (z_PIt D_z.1.2.1 D_z.1.2.2.1) zI J_z) (hw : ∀ k_z, k_z < 4 → J_z 102 (4 * D_z.1.2.2.1 + k_z) = f_z k_z) (ht : z_tkC D_z f_z = some D_z') : z_rMD (z_u2 (z_u2 (z_u2 J_z 99 4 (nI D_z.1.2.1)) 99 5 (nI (D_z.1.2.2.1 + 1))) 99 6 D_z.1.2.2.2) D_z' := by
  obtain ⟨a1_z, a2, a3, a4⟩ := z_tkC_at ht
  obtain ⟨d1_z, d2_z, d3_z, d4_z, d5_z, d6_z⟩ := hD
  unfold z_rMD
  rw [a1_z, a2]
  have off_z : ∀ o k_z, o ≠ 99 → z_u2 (z_u2 (z_u2 J_z 99 4 (nI D_z.1.2.1)) 99 5 (nI (D_z.1.2.2.1 + 1))) 99 6 D_z.1.2.2.2 o k_z = J_z o k_z := fun o k_z ho => (z_u2_ne (Or.inl ho)).trans ((z_u2_ne (Or.inl ho)).trans (z_u2_ne (Or.inl ho)))
  refine ⟨(z_u2_ne (Or.inr (by decide))).trans ((z_u2_ne (Or.inr (by decide))).trans (z_u2_same _ _ _ _)), (z_u2_ne (Or.inr (by decide))).trans (z_u2_same _ _ _ _), z_u2_same _ _ _ _, fun s_z hs k_z hk => ?_, fun c_z hc_z k_z hk => ?_, fun a_z ha_z => ?_⟩
  · rw [off_z _ _ (by decide), a4 k_z (by omega), hf 101 _ (by unfold z_PIt; have : s_z < D_z.1.2.1 := hs; omega)]
    exact d4_z s_z hs k_z hk
  · rw [off_z _ _ (by decide), a3 k_z hk c_z]
    by_cases e_z : c_z = D_z.1.2.2.1
    · rw [if_pos e_z, e_z]; exact hw k_z hk
    · rw [if_neg e_z, hf 102 _ (by unfold z_PIt; have : c_z < D_z.1.2.2.1 + 1 := hc_z; omega)]
      exact d5_z c_z (by have : c_z < D_z.1.2.2.1 + 1 := hc_z; omega) k_z hk
  · rw [off_z _ _ (by decide), hf 103 _ (by unfold z_PIt; omega)]
    exact d6_z a_z ha_z
theorem z_rMD.h {zI J_z : Nat → Nat → Int32} {D_z : z_Dr} {x_z : Int32} (hD : z_rMD zI D_z) (hf : z_f2 (z_PIt D_z.1.2.1 D_z.1.2.2.1) zI J_z) : z_rMD (z_u2 (z_u2 (z_u2 J_z 99 4 (nI D_z.1.2.1)) 99 5 (nI D_z.1.2.2.1)) 99 6 x_z) ((D_z.1.1, D_z.1.2.1, D_z.1.2.2.1, x_z), D_z.2) := by
  obtain ⟨d1_z, d2_z, d3_z, d4_z, d5_z, d6_z⟩ := hD
  have off_z : ∀ o k_z, o ≠ 99 → z_u2 (z_u2 (z_u2 J_z 99 4 (nI D_z.1.2.1)) 99 5 (nI D_z.1.2.2.1)) 99 6 x_z o k_z = J_z o k_z := fun o k_z ho => (z_u2_ne (Or.inl ho)).trans ((z_u2_ne (Or.inl ho)).trans (z_u2_ne (Or.inl ho)))
  refine ⟨(z_u2_ne (Or.inr (by decide))).trans ((z_u2_ne (Or.inr (by decide))).trans (z_u2_same _ _ _ _)), (z_u2_ne (Or.inr (by decide))).trans (z_u2_same _ _ _ _), z_u2_same _ _ _ _, fun s_z hs k_z hk => ?_, fun c_z hc_z k_z hk => ?_, fun a_z ha_z => ?_⟩
  · rw [off_z _ _ (by decide), hf 101 _ (by unfold z_PIt; have : s_z < D_z.1.2.1 := hs; omega)]
    exact d4_z s_z hs k_z hk
  · rw [off_z _ _ (by decide), hf 102 _ (by unfold z_PIt; have : c_z < D_z.1.2.2.1 := hc_z; omega)]
    exact d5_z c_z hc_z k_z hk
  · rw [off_z _ _ (by decide), hf 103 _ (by unfold z_PIt; omega)]
    exact d6_z a_z ha_z
theorem z_trn_rows {zI : Nat → Nat → Int32} {o f_z a_z b_z : Nat} {Q_z : Int32} (h_z : ∀ c_z, c_z < 6 → zI o (f_z + c_z) = z_qr Q_z c_z 6) (ha_z : a_z < 6) (hb_z : b_z < 6) (hab : a_z ≠ b_z) : ∀ c_z, c_z < 6 → z_trn zI o f_z a_z b_z o (f_z + c_z) = z_qr (Q_z ^^^ (1 <<< (nI (z_pr a_z b_z) &&& 31))) c_z 6 := by
  intro c_z hc_z
  have off_z : ∀ m_z, m_z ≠ f_z + a_z → m_z ≠ f_z + b_z → z_trn zI o f_z a_z b_z o m_z = zI o m_z := fun m_z h1 h2 => (z_u2_ne (Or.inr h2)).trans (z_u2_ne (Or.inr h1))
  by_cases e1_z : c_z = b_z
  · rw [e1_z, z_pr_sym a_z b_z, z_qr_tg hb_z ha_z (fun q_z => hab q_z.symm)]
    refine (z_u2_same _ _ _ _).trans ?_
    rw [z_u2_ne (Or.inr (by omega)), h_z b_z hb_z]
  · by_cases e2_z : c_z = a_z
    · rw [e2_z, z_qr_tg ha_z hb_z hab]
      refine (z_u2_ne (Or.inr (by omega))).trans ((z_u2_same _ _ _ _).trans ?_)
      rw [h_z a_z ha_z]
    · rw [off_z _ (by omega) (by omega), z_qr_ot ha_z hb_z hc_z hab e2_z e1_z]
      exact h_z c_z hc_z
theorem z_rMD.q {zI J_z : Nat → Nat → Int32} {D_z : z_Dr} {a_z b_z : Nat} (hD : z_rMD zI D_z) (hf : z_f2 (z_PIt D_z.1.2.1 D_z.1.2.2.1) zI J_z) (ha_z : a_z < 6) (hb_z : b_z < 6) (hab : a_z ≠ b_z) : z_rMD (z_u2 (z_u2 (z_u2 (z_trn J_z 103 0 a_z b_z) 99 4 (nI D_z.1.2.1)) 99 5 (nI D_z.1.2.2.1)) 99 6 D_z.1.2.2.2) (D_z.1, D_z.2 ^^^ (1 <<< (nI (z_pr a_z b_z) &&& 31))) := by
  obtain ⟨d1_z, d2_z, d3_z, d4_z, d5_z, d6_z⟩ := hD
  have off_z : ∀ o k_z, o ≠ 99 → z_u2 (z_u2 (z_u2 (z_trn J_z 103 0 a_z b_z) 99 4 (nI D_z.1.2.1)) 99 5 (nI D_z.1.2.2.1)) 99 6 D_z.1.2.2.2 o k_z = z_trn J_z 103 0 a_z b_z o k_z := fun o k_z ho => (z_u2_ne (Or.inl ho)).trans ((z_u2_ne (Or.inl ho)).trans (z_u2_ne (Or.inl ho)))
  have off2 : ∀ o k_z, o ≠ 103 → z_trn J_z 103 0 a_z b_z o k_z = J_z o k_z := fun o k_z ho => (z_u2_ne (Or.inl ho)).trans (z_u2_ne (Or.inl ho))
  refine ⟨(z_u2_ne (Or.inr (by decide))).trans ((z_u2_ne (Or.inr (by decide))).trans (z_u2_same _ _ _ _)), (z_u2_ne (Or.inr (by decide))).trans (z_u2_same _ _ _ _), z_u2_same _ _ _ _, fun s_z hs k_z hk => ?_, fun c_z hc_z k_z hk => ?_, fun c_z hc_z => ?_⟩
  · rw [off_z _ _ (by decide), off2 _ _ (by decide), hf 101 _ (by unfold z_PIt; have : s_z < D_z.1.2.1 := hs; omega)]
    exact d4_z s_z hs k_z hk
  · rw [off_z _ _ (by decide), off2 _ _ (by decide), hf 102 _ (by unfold z_PIt; have : c_z < D_z.1.2.2.1 := hc_z; omega)]
    exact d5_z c_z hc_z k_z hk
  · rw [off_z _ _ (by decide)]
    have h1 := z_trn_rows (zI := J_z) (o := 103) (f_z := 0) (Q_z := D_z.2) (fun c_z hc_z => by rw [Nat.zero_add]; exact (hf 103 _ (by unfold z_PIt; omega)).trans (d6_z c_z hc_z)) ha_z hb_z hab c_z hc_z
    rw [Nat.zero_add] at h1
    exact h1
theorem z_tkQ_ge {D_z : z_Dr} {f_z : Nat → Int32} (h_z : ¬ f_z 0 < nI D_z.1.2.1 ∨ ¬ f_z 1 < nI D_z.1.2.1) : z_tkQ D_z f_z = none := by
  unfold z_tkQ
  refine if_neg (fun z_z => ?_)
  by_cases e_z : f_z 0 < f_z 1
  · rw [if_pos e_z] at z_z
    exact h_z.elim (fun y_z => y_z (Int32.lt_trans e_z z_z.2)) (fun y_z => y_z z_z.2)
  · rw [if_neg e_z] at z_z
    exact h_z.elim (fun y_z => y_z z_z.2) (fun y_z => y_z (Int32.lt_of_le_of_lt (Int32.not_lt.mp e_z) z_z.2))
theorem z_tkQ_val {D_z : z_Dr} {f_z : Nat → Int32} {a_z b_z : Nat} (h0 : f_z 0 = nI a_z) (h1 : f_z 1 = nI b_z) (ha_z : a_z < D_z.1.2.1) (hb_z : b_z < D_z.1.2.1) (hn : D_z.1.2.1 ≤ 6) (hab : a_z ≠ b_z) : z_tkQ D_z f_z = if z_bc (D_z.2 ^^^ (1 <<< (nI (z_pr a_z b_z) &&& 31))) ≤ 6 then some (D_z.1, D_z.2 ^^^ (1 <<< (nI (z_pr a_z b_z) &&& 31))) else none := by
  unfold z_tkQ
  rw [h0, h1]
  have e_z : (if nI a_z < nI b_z then 6 * nI a_z + nI b_z else 6 * nI b_z + nI a_z) = nI (z_pr a_z b_z) := by
    unfold z_pr
    have m_z : ∀ u_z v_z : Nat, (6 : Int32) * nI u_z + nI v_z = nI (6 * u_z + v_z) := fun u_z v_z => by
      rw [show (6 : Int32) * nI u_z = nI (6 * u_z) from pk_mul 6 u_z]; exact nI_add _ _
    by_cases y_z : a_z < b_z
    · rw [if_pos ((nI_ltI (by omega) (by omega)).mpr y_z), if_pos y_z]; exact m_z a_z b_z
    · rw [if_neg (fun z_z => y_z ((nI_ltI (by omega) (by omega)).mp z_z)), if_neg y_z]; exact m_z b_z a_z
  rw [e_z]
  refine if_pos ⟨fun z_z => hab (z_nI_inj (by omega) (by omega) z_z), ?_⟩
  by_cases y_z : nI a_z < nI b_z
  · rw [if_pos y_z]; exact (nI_ltI (by omega) (by omega)).mpr hb_z
  · rw [if_neg y_z]; exact (nI_ltI (by omega) (by omega)).mpr ha_z
theorem z_tkQ_ok {D_z : z_Dr} {f_z : Nat → Int32} {a_z b_z : Nat} (h0 : f_z 0 = nI a_z) (h1 : f_z 1 = nI b_z) (ha_z : a_z < D_z.1.2.1) (hb_z : b_z < D_z.1.2.1) (hn : D_z.1.2.1 ≤ 6) (hab : a_z ≠ b_z) (hQ : z_OQ D_z.2) (hq6 : z_qn D_z.2 ≤ 6) (hc_z : z_hb D_z.2 (z_pr a_z b_z) = true ∨ ¬ z_qn D_z.2 = 6) : z_tkQ D_z f_z = some (D_z.1, D_z.2 ^^^ (1 <<< (nI (z_pr a_z b_z) &&& 31))) := by
  rw [z_tkQ_val h0 h1 ha_z hb_z hn hab, (hQ.tg (a_z := a_z) (b_z := b_z) (by omega) (by omega) hab).bc]
  have h_z := z_qn_tg (Q_z := D_z.2) (a_z := a_z) (b_z := b_z) (by omega) (by omega) hab
  refine if_pos ((nI_leI (by have := z_qn15 (D_z.2 ^^^ (1 <<< (nI (z_pr a_z b_z) &&& 31))); omega) (show 6 < 2 ^ 31 by decide)).mpr ?_)
  rcases hc_z with z_z | z_z
  · rw [if_pos z_z, if_pos z_z] at h_z; omega
  · split at h_z <;> omega
theorem z_tkQ_no {D_z : z_Dr} {f_z : Nat → Int32} {a_z b_z : Nat} (h0 : f_z 0 = nI a_z) (h1 : f_z 1 = nI b_z) (ha_z : a_z < D_z.1.2.1) (hb_z : b_z < D_z.1.2.1) (hn : D_z.1.2.1 ≤ 6) (hab : a_z ≠ b_z) (hQ : z_OQ D_z.2) (hc_z : z_hb D_z.2 (z_pr a_z b_z) = false) (hq6 : z_qn D_z.2 = 6) : z_tkQ D_z f_z = none := by
  rw [z_tkQ_val h0 h1 ha_z hb_z hn hab, (hQ.tg (a_z := a_z) (b_z := b_z) (by omega) (by omega) hab).bc]
  have h_z := z_qn_tg (Q_z := D_z.2) (a_z := a_z) (b_z := b_z) (by omega) (by omega) hab
  rw [hc_z, if_neg Bool.false_ne_true, if_neg Bool.false_ne_true] at h_z
  refine if_neg (fun z_z => ?_)
  have := (nI_leI (by have := z_qn15 (D_z.2 ^^^ (1 <<< (nI (z_pr a_z b_z) &&& 31))); omega) (show 6 < 2 ^ 31 by decide)).mp z_z
  omega
