/-! the quarrels word with one pair turned, and its rows -/
theorem z_hb_one : ∀ p_z, p_z < 32 → ∀ i_z, i_z < 32 → z_hb (1 <<< (nI p_z &&& 31)) i_z = decide (i_z = p_z) := by decide +kernel
theorem z_hb_xor (w_z : Int32) (p_z i_z : Nat) (hp : p_z < 32) (hi_z : i_z < 32) : z_hb (w_z ^^^ (1 <<< (nI p_z &&& 31))) i_z = (z_hb w_z i_z ^^ decide (i_z = p_z)) := by
  rw [← z_hb_one p_z hp i_z hi_z, z_hb_bit _ i_z hi_z, z_hb_bit _ i_z hi_z, z_hb_bit _ i_z hi_z]
  exact BitVec.getLsbD_xor
theorem z_g6_cg {c_z c_z' : Nat → Bool} : ∀ n_z, (∀ k_z, k_z < n_z → c_z k_z = c_z' k_z) → z_g6 c_z n_z = z_g6 c_z' n_z
  | 0, _ => rfl
  | n_z + 1, h_z => by
    show z_g6 c_z n_z ||| _ = z_g6 c_z' n_z ||| _
    rw [z_g6_cg n_z (fun k_z hk => h_z k_z (by omega)), h_z n_z (by omega)]
theorem z_g6_tg : ∀ a_z b_z c_z e_z f_z h_z : Bool, ∀ k_z, k_z < 6 → z_g6 (fun i_z => z_l6 a_z b_z c_z e_z f_z h_z i_z ^^ decide (i_z = k_z)) 6 = z_g6 (z_l6 a_z b_z c_z e_z f_z h_z) 6 ^^^ (1 <<< (nI k_z &&& 31)) := by decide +kernel
theorem z_pr_inj : ∀ a_z, a_z < 6 → ∀ b_z, b_z < 6 → ∀ k_z, k_z < 6 → a_z = b_z ∨ a_z = k_z ∨ (decide (z_pr a_z k_z = z_pr a_z b_z) = decide (k_z = b_z) ∧ z_pr a_z b_z < 32 ∧ z_pr a_z b_z = z_pr b_z a_z) := by decide +kernel
theorem z_qb_tg {w_z : Int32} {a_z b_z k_z : Nat} (ha_z : a_z < 6) (hb_z : b_z < 6) (hk : k_z < 6) (hab : a_z ≠ b_z) : z_qb (w_z ^^^ (1 <<< (nI (z_pr a_z b_z) &&& 31))) a_z k_z = (z_qb w_z a_z k_z ^^ decide (k_z = b_z)) := by
  by_cases e_z : a_z = k_z
  · unfold z_qb
    rw [if_pos e_z, if_pos e_z, decide_eq_false (by omega)]
    rfl
  · have h1 := Or.resolve_left (Or.resolve_left (z_pr_inj a_z ha_z b_z hb_z k_z hk) hab) e_z
    have h2 := Or.resolve_left (Or.resolve_left (z_pr_inj a_z ha_z k_z hk b_z hb_z) e_z) hab
    rw [z_qb_pr e_z, z_qb_pr e_z, z_hb_xor _ _ _ h1.2.1 h2.2.1]
    rw [h1.1]
theorem z_qr_tg {w_z : Int32} {a_z b_z : Nat} (ha_z : a_z < 6) (hb_z : b_z < 6) (hab : a_z ≠ b_z) : z_qr (w_z ^^^ (1 <<< (nI (z_pr a_z b_z) &&& 31))) a_z 6 = z_qr w_z a_z 6 ^^^ (1 <<< (nI b_z &&& 31)) := by
  rw [z_qr_g6, z_qr_g6, z_g6_cg 6 (fun k_z hk => z_qb_tg ha_z hb_z hk hab), z_g6_l6 (z_qb w_z a_z), ← z_g6_tg _ _ _ _ _ _ b_z hb_z]
  exact z_g6_cg 6 (fun k_z hk => by rw [z_l6_at _ k_z hk])
