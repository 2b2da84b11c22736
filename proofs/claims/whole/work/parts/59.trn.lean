/-! a state with one quarrel turned about -/
theorem z_pr_lt : ∀ a_z, a_z < 6 → ∀ b_z, b_z < 6 → a_z = b_z ∨ z_pr a_z b_z < 32 := by decide +kernel
theorem z_pr_oth : ∀ a_z, a_z < 6 → ∀ b_z, b_z < 6 → ∀ c_z, c_z < 6 → ∀ k_z, k_z < 6 → (decide (a_z = b_z) || decide (c_z = a_z) || decide (c_z = b_z) || decide (c_z = k_z) || !decide (z_pr c_z k_z = z_pr a_z b_z)) = true := by decide +kernel
theorem z_pr_sym (a_z b_z : Nat) : z_pr a_z b_z = z_pr b_z a_z := by
  unfold z_pr
  by_cases h_z : a_z < b_z
  · rw [if_pos h_z, if_neg (by omega)]
  · by_cases h2 : b_z < a_z
    · rw [if_neg h_z, if_pos h2]
    · rw [if_neg h_z, if_neg h2, show a_z = b_z by omega]
theorem z_qr_ot {w_z : Int32} {a_z b_z c_z : Nat} (ha_z : a_z < 6) (hb_z : b_z < 6) (hc_z : c_z < 6) (hab : a_z ≠ b_z) (hca : c_z ≠ a_z) (hcb : c_z ≠ b_z) : z_qr (w_z ^^^ (1 <<< (nI (z_pr a_z b_z) &&& 31))) c_z 6 = z_qr w_z c_z 6 := by
  rw [z_qr_g6, z_qr_g6]
  refine z_g6_cg 6 (fun k_z hk => ?_)
  by_cases e_z : c_z = k_z
  · unfold z_qb
    rw [if_pos e_z, if_pos e_z]
  · have h1 := z_pr_oth a_z ha_z b_z hb_z c_z hc_z k_z hk
    rw [decide_eq_false hab, decide_eq_false hca, decide_eq_false hcb, decide_eq_false e_z] at h1
    have h2 : decide (z_pr c_z k_z = z_pr a_z b_z) = false := by
      cases q_z : decide (z_pr c_z k_z = z_pr a_z b_z) with
      | false => rfl
      | true => rw [q_z] at h1; cases h1
    rw [z_qb_pr e_z, z_qb_pr e_z, z_hb_xor _ _ _ (Or.resolve_left (z_pr_lt a_z ha_z b_z hb_z) hab) (Or.resolve_left (z_pr_lt c_z hc_z k_z hk) e_z), h2]
    exact Bool.xor_false _
theorem z_rW.trn {zI : Nat → Nat → Int32} {o a_z b_z : Nat} {zT : Nat → Int32} (h_z : z_rW zI o 0 zT) (ha_z : a_z < 6) (hb_z : b_z < 6) (hab : a_z ≠ b_z) : z_rW (z_trn zI o 5 a_z b_z) o 0 (z_putT zT 4 (zT 4 ^^^ (1 <<< (nI (z_pr a_z b_z) &&& 31)))) := by
  have n_z : ∀ m_z, m_z ≠ 4 → z_putT zT 4 (zT 4 ^^^ (1 <<< (nI (z_pr a_z b_z) &&& 31))) m_z = zT m_z := fun m_z hm_z => if_neg hm_z
  have n4_z : z_putT zT 4 (zT 4 ^^^ (1 <<< (nI (z_pr a_z b_z) &&& 31))) 4 = zT 4 ^^^ (1 <<< (nI (z_pr a_z b_z) &&& 31)) := if_pos rfl
  have off_z : ∀ m_z, m_z ≠ 5 + a_z → m_z ≠ 5 + b_z → z_trn zI o 5 a_z b_z o m_z = zI o m_z := fun m_z h1 h2 => (z_u2_ne (Or.inr h2)).trans (z_u2_ne (Or.inr h1))
  have ea : zI o (5 + a_z) = z_qr (zT 4) a_z 6 := (congrArg (zI o) (show 5 + a_z = 0 + 5 + a_z by omega)).trans (h_z.aq a_z ha_z)
  have eb : zI o (5 + b_z) = z_qr (zT 4) b_z 6 := (congrArg (zI o) (show 5 + b_z = 0 + 5 + b_z by omega)).trans (h_z.aq b_z hb_z)
  refine ⟨?_, ?_, ?_, ?_, ?_, fun c_z hc_z => ?_, fun c_z hc_z => ?_⟩
  · rw [off_z _ (by omega) (by omega), n_z 0 (by omega)]; exact h_z.a0
  · rw [off_z _ (by omega) (by omega), n_z 1 (by omega)]; exact h_z.a1
  · rw [off_z _ (by omega) (by omega), n_z 2 (by omega)]; exact h_z.a2
  · rw [off_z _ (by omega) (by omega), n_z 3 (by omega)]; exact h_z.a3
  · rw [off_z _ (by omega) (by omega), n_z 5 (by omega)]; exact h_z.a4
  · rw [n4_z]
    by_cases e1_z : c_z = b_z
    · rw [e1_z, show 0 + 5 + b_z = 5 + b_z by omega, z_pr_sym a_z b_z, z_qr_tg hb_z ha_z (fun q_z => hab q_z.symm)]
      refine (z_u2_same _ _ _ _).trans ?_
      rw [z_u2_ne (Or.inr (by omega)), eb]
    · by_cases e2_z : c_z = a_z
      · rw [e2_z, show 0 + 5 + a_z = 5 + a_z by omega, z_qr_tg ha_z hb_z hab]
        refine (z_u2_ne (Or.inr (by omega))).trans ((z_u2_same _ _ _ _).trans ?_)
        rw [ea]
      · rw [off_z _ (by omega) (by omega), z_qr_ot ha_z hb_z hc_z hab e2_z e1_z]
        exact h_z.aq c_z hc_z
  · rw [off_z _ (by omega) (by omega), n_z (6 + c_z) (by omega)]; exact h_z.aw c_z hc_z
