/-! the quarrels word: where its bits lie, how many they are -/
theorem z_ext {x_z y_z : Int32} (h_z : ∀ i_z, i_z < 32 → z_hb x_z i_z = z_hb y_z i_z) : x_z = y_z := by
  apply Int32.toBitVec_inj.mp
  apply BitVec.eq_of_getLsbD_eq
  intro i_z hi_z
  rw [← z_hb_bit x_z i_z hi_z, ← z_hb_bit y_z i_z hi_z]
  exact h_z i_z hi_z
theorem z_hb_or (x_z y_z : Int32) (i_z : Nat) (hi_z : i_z < 32) : z_hb (x_z ||| y_z) i_z = (z_hb x_z i_z || z_hb y_z i_z) := by
  rw [z_hb_bit _ i_z hi_z, z_hb_bit _ i_z hi_z, z_hb_bit _ i_z hi_z]
  exact BitVec.getLsbD_or
def z_pl : List Nat := [1, 2, 3, 4, 5, 8, 9, 10, 11, 15, 16, 17, 22, 23, 29]
def z_tr : List Nat → Int32 → Nat → Bool
  | [], w_z, n_z => decide (z_bc w_z = nI n_z)
  | p_z :: l, w_z, n_z => z_tr l w_z n_z && z_tr l (w_z ||| (1 <<< (nI p_z &&& 31))) (n_z + 1)
theorem z_tr_all : z_tr z_pl 0 0 = true := by decide +kernel
def z_bld (c_z : Nat → Bool) : List Nat → Int32 → Int32
  | [], w_z => w_z
  | p_z :: l, w_z => z_bld c_z l (if c_z p_z then w_z ||| (1 <<< (nI p_z &&& 31)) else w_z)
def z_tn (b_z : Bool) : Nat := if b_z then 1 else 0
def z_sm (c_z : Nat → Bool) : List Nat → Nat
  | [] => 0
  | p_z :: l => z_tn (c_z p_z) + z_sm c_z l
theorem z_tr_ex (c_z : Nat → Bool) : ∀ (l : List Nat) (w_z : Int32) (n_z : Nat), z_tr l w_z n_z = true → z_bc (z_bld c_z l w_z) = nI (n_z + z_sm c_z l)
  | [], w_z, n_z, h_z => of_decide_eq_true h_z
  | p_z :: l, w_z, n_z, h_z => by
    have h2 := Bool.and_eq_true_iff.mp h_z
    unfold z_bld z_sm
    cases q_z : c_z p_z with
    | false =>
      rw [if_neg Bool.false_ne_true, show z_tn false = 0 from rfl, Nat.zero_add]
      exact z_tr_ex c_z l w_z n_z h2.1
    | true =>
      rw [if_pos rfl, show z_tn true = 1 from rfl, ← Nat.add_assoc]
      exact z_tr_ex c_z l _ (n_z + 1) h2.2
theorem z_hb_bld (c_z : Nat → Bool) (i_z : Nat) (hi_z : i_z < 32) : ∀ (l : List Nat) (w_z : Int32), (∀ p_z ∈ l, p_z < 32) → z_hb (z_bld c_z l w_z) i_z = (z_hb w_z i_z || (decide (i_z ∈ l) && c_z i_z))
  | [], w_z, _ => by
    rw [decide_eq_false (List.not_mem_nil)]
    show z_hb w_z i_z = _
    rw [Bool.false_and, Bool.or_false]
  | p_z :: l, w_z, h_z => by
    have hp := h_z p_z List.mem_cons_self
    unfold z_bld
    rw [z_hb_bld c_z i_z hi_z l _ (fun q_z hq => h_z q_z (List.mem_cons_of_mem _ hq))]
    have e1_z : z_hb (if c_z p_z then w_z ||| (1 <<< (nI p_z &&& 31)) else w_z) i_z = (z_hb w_z i_z || (c_z p_z && decide (i_z = p_z))) := by
      cases q_z : c_z p_z with
      | false => rw [if_neg Bool.false_ne_true, Bool.false_and, Bool.or_false]
      | true => rw [if_pos rfl, z_hb_or _ _ i_z hi_z, z_hb_one p_z hp i_z hi_z, Bool.true_and]
    rw [e1_z]
    by_cases e_z : i_z = p_z
    · subst e_z
      rw [decide_eq_true (show i_z = i_z from rfl), decide_eq_true (show i_z ∈ i_z :: l from List.mem_cons_self)]
      cases z_hb w_z i_z <;> cases c_z i_z <;> cases decide (i_z ∈ l) <;> rfl
    · have e3_z : decide (i_z ∈ p_z :: l) = decide (i_z ∈ l) := by
        apply decide_eq_decide.mpr
        rw [List.mem_cons]
        exact ⟨fun q_z => q_z.resolve_left e_z, Or.inr⟩
      rw [e3_z, decide_eq_false e_z]
      cases z_hb w_z i_z <;> cases c_z i_z <;> cases c_z p_z <;> cases decide (i_z ∈ l) <;> rfl
/-- only pairs' places -/
def z_OQ (Q_z : Int32) : Prop := ∀ i_z, i_z < 32 → z_hb Q_z i_z = true → i_z ∈ z_pl
def z_qn (Q_z : Int32) : Nat := z_sm (z_hb Q_z) z_pl
theorem z_pl32 : ∀ p_z ∈ z_pl, p_z < 32 := by decide
theorem z_hb0 : ∀ i_z, i_z < 32 → z_hb 0 i_z = false := by decide +kernel
theorem z_OQ.bld {Q_z : Int32} (h_z : z_OQ Q_z) : z_bld (z_hb Q_z) z_pl 0 = Q_z := by
  apply z_ext
  intro i_z hi_z
  rw [z_hb_bld _ i_z hi_z _ _ z_pl32, z_hb0 i_z hi_z, Bool.false_or]
  cases q_z : z_hb Q_z i_z with
  | false => rw [Bool.and_false]
  | true => rw [Bool.and_true]; exact decide_eq_true (h_z i_z hi_z q_z)
theorem z_OQ.bc {Q_z : Int32} (h_z : z_OQ Q_z) : z_bc Q_z = nI (z_qn Q_z) := by
  have h1 := z_tr_ex (z_hb Q_z) z_pl 0 0 z_tr_all
  rw [h_z.bld, Nat.zero_add] at h1
  exact h1
theorem z_tn1 (b_z : Bool) : z_tn b_z ≤ 1 := by cases b_z <;> decide
theorem z_sm_le (c_z : Nat → Bool) : ∀ l, z_sm c_z l ≤ l.length
  | [] => Nat.le_refl 0
  | p_z :: l => by
    have := z_sm_le c_z l
    have := z_tn1 (c_z p_z)
    unfold z_sm
    rw [List.length_cons]
    omega
theorem z_qn15 (Q_z : Int32) : z_qn Q_z ≤ 15 := z_sm_le _ _
/-- how often p stands there -/
def z_ct (p_z : Nat) : List Nat → Nat
  | [] => 0
  | q_z :: l => z_tn (decide (q_z = p_z)) + z_ct p_z l
theorem z_sm_no {c_z : Nat → Bool} {p_z : Nat} (h_z : c_z p_z = false) : ∀ l, z_sm (fun i_z => c_z i_z ^^ decide (i_z = p_z)) l = z_sm c_z l + z_ct p_z l
  | [] => rfl
  | q_z :: l => by
    have ih_z := z_sm_no h_z l
    show z_tn (c_z q_z ^^ decide (q_z = p_z)) + z_sm (fun i_z => c_z i_z ^^ decide (i_z = p_z)) l = z_tn (c_z q_z) + z_sm c_z l + (z_tn (decide (q_z = p_z)) + z_ct p_z l)
    rw [ih_z]
    by_cases e_z : q_z = p_z
    · rw [e_z, h_z, decide_eq_true (show p_z = p_z from rfl)]
      show 1 + _ = 0 + _ + (1 + _)
      omega
    · rw [decide_eq_false e_z, Bool.xor_false]
      show _ = _ + (0 + _)
      omega
theorem z_sm_yes {c_z : Nat → Bool} {p_z : Nat} (h_z : c_z p_z = true) : ∀ l, z_sm (fun i_z => c_z i_z ^^ decide (i_z = p_z)) l + z_ct p_z l = z_sm c_z l
  | [] => rfl
  | q_z :: l => by
    have ih_z := z_sm_yes h_z l
    show z_tn (c_z q_z ^^ decide (q_z = p_z)) + z_sm (fun i_z => c_z i_z ^^ decide (i_z = p_z)) l + (z_tn (decide (q_z = p_z)) + z_ct p_z l) = z_tn (c_z q_z) + z_sm c_z l
    by_cases e_z : q_z = p_z
    · rw [e_z, h_z, decide_eq_true (show p_z = p_z from rfl)]
      show 0 + _ + (1 + _) = 1 + _
      omega
    · rw [decide_eq_false e_z, Bool.xor_false]
      show _ + (0 + _) = _
      omega
theorem z_sm_cg {c_z c_z' : Nat → Bool} : ∀ l, (∀ p_z ∈ l, c_z p_z = c_z' p_z) → z_sm c_z l = z_sm c_z' l
  | [], _ => rfl
  | p_z :: l, h_z => by
    unfold z_sm
    rw [h_z p_z List.mem_cons_self, z_sm_cg l (fun q_z hq => h_z q_z (List.mem_cons_of_mem _ hq))]
theorem z_pr_pl : ∀ a_z, a_z < 6 → ∀ b_z, b_z < 6 → a_z = b_z ∨ (z_pr a_z b_z ∈ z_pl ∧ z_ct (z_pr a_z b_z) z_pl = 1) := by decide
theorem z_qn_tg {Q_z : Int32} {a_z b_z : Nat} (ha_z : a_z < 6) (hb_z : b_z < 6) (hab : a_z ≠ b_z) : z_qn (Q_z ^^^ (1 <<< (nI (z_pr a_z b_z) &&& 31))) + (if z_hb Q_z (z_pr a_z b_z) = true then 1 else 0) = z_qn Q_z + (if z_hb Q_z (z_pr a_z b_z) = true then 0 else 1) := by
  have h1 := Or.resolve_left (z_pr_pl a_z ha_z b_z hb_z) hab
  have hp := z_pl32 _ h1.1
  have e_z : z_qn (Q_z ^^^ (1 <<< (nI (z_pr a_z b_z) &&& 31))) = z_sm (fun i_z => z_hb Q_z i_z ^^ decide (i_z = z_pr a_z b_z)) z_pl := z_sm_cg _ (fun p_z hq => z_hb_xor _ _ _ hp (z_pl32 p_z hq))
  rw [e_z]
  cases q_z : z_hb Q_z (z_pr a_z b_z) with
  | false =>
    rw [z_sm_no q_z, h1.2]
    rfl
  | true =>
    have h2 := z_sm_yes q_z z_pl
    rw [h1.2] at h2
    rw [if_pos rfl, if_pos rfl]
    exact h2
theorem z_OQ.tg {Q_z : Int32} (h_z : z_OQ Q_z) {a_z b_z : Nat} (ha_z : a_z < 6) (hb_z : b_z < 6) (hab : a_z ≠ b_z) : z_OQ (Q_z ^^^ (1 <<< (nI (z_pr a_z b_z) &&& 31))) := by
  have h1 := Or.resolve_left (z_pr_pl a_z ha_z b_z hb_z) hab
  intro i_z hi_z q_z
  rw [z_hb_xor _ _ _ (z_pl32 _ h1.1) hi_z] at q_z
  by_cases e_z : i_z = z_pr a_z b_z
  · rw [e_z]; exact h1.1
  · rw [decide_eq_false e_z, Bool.xor_false] at q_z
    exact h_z i_z hi_z q_z
theorem z_OQ0 : z_OQ 0 := fun i_z hi_z q_z => by
  rw [z_hb0 i_z hi_z] at q_z
  cases q_z
/-- rows of the word, counted -/
theorem z_bt_g6 : ∀ a_z b_z c_z e_z f_z h_z : Bool, z_bt (z_g6 (z_l6 a_z b_z c_z e_z f_z h_z) 6) 15 = nI (z_tn a_z + z_tn b_z + z_tn c_z + z_tn e_z + z_tn f_z + z_tn h_z) := by decide +kernel
def z_rn (Q_z : Int32) (a_z : Nat) : Nat := z_tn (z_qb Q_z a_z 0) + z_tn (z_qb Q_z a_z 1) + z_tn (z_qb Q_z a_z 2) + z_tn (z_qb Q_z a_z 3) + z_tn (z_qb Q_z a_z 4) + z_tn (z_qb Q_z a_z 5)
theorem z_bt_qr (Q_z : Int32) (a_z : Nat) : z_bt (z_qr Q_z a_z 6) 15 = nI (z_rn Q_z a_z) := by
  rw [z_qr_g6, z_g6_l6]
  exact z_bt_g6 _ _ _ _ _ _
theorem z_rn_sum (Q_z : Int32) : z_rn Q_z 0 + z_rn Q_z 1 + z_rn Q_z 2 + z_rn Q_z 3 + z_rn Q_z 4 + z_rn Q_z 5 = 2 * z_qn Q_z := by

  have e_z : z_qn Q_z = z_tn (z_hb Q_z 1) + (z_tn (z_hb Q_z 2) + (z_tn (z_hb Q_z 3) + (z_tn (z_hb Q_z 4) + (z_tn (z_hb Q_z 5) + (z_tn (z_hb Q_z 8) + (z_tn (z_hb Q_z 9) + (z_tn (z_hb Q_z 10) + (z_tn (z_hb Q_z 11) + (z_tn (z_hb Q_z 15) + (z_tn (z_hb Q_z 16) + (z_tn (z_hb Q_z 17) + (z_tn (z_hb Q_z 22) + (z_tn (z_hb Q_z 23) + (z_tn (z_hb Q_z 29) + 0)))))))))))))) := rfl
  rw [e_z]
  unfold z_rn
  rw [show z_qb Q_z 0 0 = false from rfl, show z_qb Q_z 0 1 = z_hb Q_z 1 from rfl, show z_qb Q_z 0 2 = z_hb Q_z 2 from rfl, show z_qb Q_z 0 3 = z_hb Q_z 3 from rfl, show z_qb Q_z 0 4 = z_hb Q_z 4 from rfl, show z_qb Q_z 0 5 = z_hb Q_z 5 from rfl, show z_qb Q_z 1 0 = z_hb Q_z 1 from rfl, show z_qb Q_z 1 1 = false from rfl, show z_qb Q_z 1 2 = z_hb Q_z 8 from rfl, show z_qb Q_z 1 3 = z_hb Q_z 9 from rfl, show z_qb Q_z 1 4 = z_hb Q_z 10 from rfl, show z_qb Q_z 1 5 = z_hb Q_z 11 from rfl, show z_qb Q_z 2 0 = z_hb Q_z 2 from rfl, show z_qb Q_z 2 1 = z_hb Q_z 8 from rfl, show z_qb Q_z 2 2 = false from rfl, show z_qb Q_z 2 3 = z_hb Q_z 15 from rfl, show z_qb Q_z 2 4 = z_hb Q_z 16 from rfl, show z_qb Q_z 2 5 = z_hb Q_z 17 from rfl, show z_qb Q_z 3 0 = z_hb Q_z 3 from rfl, show z_qb Q_z 3 1 = z_hb Q_z 9 from rfl, show z_qb Q_z 3 2 = z_hb Q_z 15 from rfl, show z_qb Q_z 3 3 = false from rfl, show z_qb Q_z 3 4 = z_hb Q_z 22 from rfl, show z_qb Q_z 3 5 = z_hb Q_z 23 from rfl, show z_qb Q_z 4 0 = z_hb Q_z 4 from rfl, show z_qb Q_z 4 1 = z_hb Q_z 10 from rfl, show z_qb Q_z 4 2 = z_hb Q_z 16 from rfl, show z_qb Q_z 4 3 = z_hb Q_z 22 from rfl, show z_qb Q_z 4 4 = false from rfl, show z_qb Q_z 4 5 = z_hb Q_z 29 from rfl, show z_qb Q_z 5 0 = z_hb Q_z 5 from rfl, show z_qb Q_z 5 1 = z_hb Q_z 11 from rfl, show z_qb Q_z 5 2 = z_hb Q_z 17 from rfl, show z_qb Q_z 5 3 = z_hb Q_z 23 from rfl, show z_qb Q_z 5 4 = z_hb Q_z 29 from rfl, show z_qb Q_z 5 5 = false from rfl, show z_tn false = 0 from rfl]
  omega
theorem z_half : ∀ q_z, q_z < 16 → nI (2 * q_z) / 2 = nI q_z := by decide +kernel
theorem z_sb_qr {zI : Nat → Nat → Int32} {o f_z : Nat} {Q_z : Int32} (h_z : ∀ a_z, a_z < 6 → zI o (f_z + a_z) = z_qr Q_z a_z 6) : z_sb zI o f_z 6 / 2 = nI (z_qn Q_z) := by
  have e_z : z_sb zI o f_z 6 = 0 + z_bt (zI o (f_z + 0)) 15 + z_bt (zI o (f_z + 1)) 15 + z_bt (zI o (f_z + 2)) 15 + z_bt (zI o (f_z + 3)) 15 + z_bt (zI o (f_z + 4)) 15 + z_bt (zI o (f_z + 5)) 15 := rfl
  rw [e_z, h_z 0 (by decide), h_z 1 (by decide), h_z 2 (by decide), h_z 3 (by decide), h_z 4 (by decide), h_z 5 (by decide), z_bt_qr, z_bt_qr, z_bt_qr, z_bt_qr, z_bt_qr, z_bt_qr, show (0 : Int32) = nI 0 from rfl, z_nIa, z_nIa, z_nIa, z_nIa, z_nIa, z_nIa, Nat.zero_add, z_rn_sum]
  exact z_half _ (by have := z_qn15 Q_z; omega)
