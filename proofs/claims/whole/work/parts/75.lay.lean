/-! the model: the text is read; the shop is laid -/
/-- a draft as it can be -/
def z_ODr (D_z : z_Dr) : Prop := D_z.1.2.1 ≤ 6 ∧ D_z.1.2.2.1 ≤ 10 ∧ z_OQ D_z.2 ∧ z_qn D_z.2 ≤ 6 ∧ (∀ s_z, s_z < D_z.1.2.1 → 1 ≤ D_z.1.1 2 s_z ∧ D_z.1.1 2 s_z ≤ 10) ∧ (∀ s_z, s_z < D_z.1.2.1 → 0 ≤ D_z.1.1 1 s_z ∧ D_z.1.1 1 s_z ≤ 5) ∧ (∀ c_z, c_z < D_z.1.2.2.1 → 0 ≤ D_z.1.1 5 c_z ∧ D_z.1.1 5 c_z ≤ 5) ∧ ∀ th, th < 6 → ∀ s_z, s_z < 6 → z_hb (D_z.1.1 8 th) s_z = (decide (s_z < D_z.1.2.1) && decide (nI th = D_z.1.1 1 s_z ∨ nI th = (D_z.1.1 1 s_z + 1) - (D_z.1.1 1 s_z + 1) / 6 * 6))
theorem z_ODr.ov {D_z : z_Dr} (h_z : z_ODr D_z) (h0 : ¬ D_z.1.2.1 = 0) : z_OV D_z.1 := by
  obtain ⟨a1_z, a2, -, -, a5, a6, a7, a8⟩ := h_z
  refine ⟨by omega, a1_z, a2, a5, a6, a7, fun s_z hs th ht => ?_⟩
  rw [a8 th ht s_z (by omega), decide_eq_true hs, Bool.true_and]
theorem z_ODr0 (J_z : Nat → Nat → Int32) : z_ODr (z_D0 J_z) := by
  refine ⟨Nat.zero_le _, Nat.zero_le _, z_OQ0, ?_, fun s_z hs => absurd hs (Nat.not_lt_zero s_z), fun s_z hs => absurd hs (Nat.not_lt_zero s_z), fun s_z hs => absurd hs (Nat.not_lt_zero s_z), fun th ht s_z hs => ?_⟩
  · show z_qn 0 ≤ 6
    decide +kernel
  · show z_hb (if 8 = 8 then 0 else J_z 8 th) s_z = (decide (s_z < 0) && _)
    rw [if_pos rfl, z_hb0 s_z (by omega), decide_eq_false (Nat.not_lt_zero s_z), Bool.false_and]
theorem z_md6b : ∀ j_z, j_z < 6 → (nI j_z + 1) - (nI j_z + 1) / 6 * 6 = nI ((j_z + 1) % 6) := by decide +kernel
theorem z_ODr.s {D_z D_z' : z_Dr} {f_z : Nat → Int32} (h_z : z_ODr D_z) (ht : z_tkS D_z f_z = some D_z') : z_ODr D_z' := by
  obtain ⟨b1, b2, b3, b4⟩ := z_tkS_at ht
  obtain ⟨a1_z, a2, a3, a4, a5, a6, a7, a8⟩ := h_z
  unfold z_tkS at ht
  split at ht
  · next hc_z =>
    obtain ⟨c0_z, c1_z, c2_z, c3_z, c4_z, c5_z⟩ := hc_z
    obtain ⟨j_z, hj, ej⟩ := z_le28 c2_z.1 (m_z := 5) (by decide) c2_z.2
    have e8 : ∀ th, D_z'.1.1 8 th = if th = (j_z + 1) % 6 then D_z.1.1 8 th ||| (1 <<< (nI D_z.1.2.1 &&& 31)) else if th = j_z then D_z.1.1 8 th ||| (1 <<< (nI D_z.1.2.1 &&& 31)) else D_z.1.1 8 th := by
      intro th
      cases ht
      have hjn : (f_z 1).toNatClampNeg = j_z := by rw [ej]; exact nI_clamp (by omega)
      show (if 8 = 8 ∧ th = (((f_z 1).toNatClampNeg + 1) % 6) then (if 8 = 8 ∧ (((f_z 1).toNatClampNeg + 1) % 6) = (f_z 1).toNatClampNeg then (if 8 = 3 ∧ (f_z 1).toNatClampNeg = D_z.1.2.1 then f_z 3 else if 8 = 2 ∧ (f_z 1).toNatClampNeg = D_z.1.2.1 then f_z 2 else if 8 = 1 ∧ (f_z 1).toNatClampNeg = D_z.1.2.1 then f_z 1 else if 8 = 0 ∧ (f_z 1).toNatClampNeg = D_z.1.2.1 then f_z 0 else D_z.1.1 8 (f_z 1).toNatClampNeg) ||| (1 <<< (nI D_z.1.2.1 &&& 31)) else (if 8 = 3 ∧ (((f_z 1).toNatClampNeg + 1) % 6) = D_z.1.2.1 then f_z 3 else if 8 = 2 ∧ (((f_z 1).toNatClampNeg + 1) % 6) = D_z.1.2.1 then f_z 2 else if 8 = 1 ∧ (((f_z 1).toNatClampNeg + 1) % 6) = D_z.1.2.1 then f_z 1 else if 8 = 0 ∧ (((f_z 1).toNatClampNeg + 1) % 6) = D_z.1.2.1 then f_z 0 else D_z.1.1 8 (((f_z 1).toNatClampNeg + 1) % 6))) ||| (1 <<< (nI D_z.1.2.1 &&& 31)) else if 8 = 8 ∧ th = (f_z 1).toNatClampNeg then (if 8 = 3 ∧ (f_z 1).toNatClampNeg = D_z.1.2.1 then f_z 3 else if 8 = 2 ∧ (f_z 1).toNatClampNeg = D_z.1.2.1 then f_z 2 else if 8 = 1 ∧ (f_z 1).toNatClampNeg = D_z.1.2.1 then f_z 1 else if 8 = 0 ∧ (f_z 1).toNatClampNeg = D_z.1.2.1 then f_z 0 else D_z.1.1 8 (f_z 1).toNatClampNeg) ||| (1 <<< (nI D_z.1.2.1 &&& 31)) else (if 8 = 3 ∧ th = D_z.1.2.1 then f_z 3 else if 8 = 2 ∧ th = D_z.1.2.1 then f_z 2 else if 8 = 1 ∧ th = D_z.1.2.1 then f_z 1 else if 8 = 0 ∧ th = D_z.1.2.1 then f_z 0 else D_z.1.1 8 th)) = _
      rw [hjn]
      by_cases q1_z : th = (j_z + 1) % 6
      · rw [if_pos ⟨rfl, q1_z⟩, if_pos q1_z, if_neg (by omega), if_neg (by omega), if_neg (by omega), if_neg (by omega), if_neg (by omega), q1_z]
      · rw [if_neg (fun z_z => q1_z z_z.2), if_neg q1_z]
        by_cases q2_z : th = j_z
        · rw [if_pos ⟨rfl, q2_z⟩, if_pos q2_z, if_neg (by omega), if_neg (by omega), if_neg (by omega), if_neg (by omega), q2_z]
        · rw [if_neg (fun z_z => q2_z z_z.2), if_neg q2_z, if_neg (by omega), if_neg (by omega), if_neg (by omega), if_neg (by omega)]
    have en : D_z'.1.2.1 = D_z.1.2.1 + 1 := congrArg (fun x_z => x_z.1) b1
    have em : D_z'.1.2.2.1 = D_z.1.2.2.1 := congrArg (fun x_z => x_z.2.1) b1
    unfold z_ODr
    rw [en, em, b2]
    refine ⟨by omega, a2, a3, a4, fun s_z hs => ?_, fun s_z hs => ?_, fun c_z hc_z => ?_, fun th hth s_z hs => ?_⟩
    · rw [b3 2 (by decide) s_z]
      by_cases e_z : s_z = D_z.1.2.1
      · rw [if_pos e_z]; exact c3_z
      · rw [if_neg e_z]; exact a5 s_z (by omega)
    · rw [b3 1 (by decide) s_z]
      by_cases e_z : s_z = D_z.1.2.1
      · rw [if_pos e_z]; exact c2_z
      · rw [if_neg e_z]; exact a6 s_z (by omega)
    · rw [b4 5 (by decide) (by decide)]; exact a7 c_z hc_z
    · rw [e8 th, b3 1 (by decide) s_z]
      have hor : ∀ w_z : Int32, z_hb (w_z ||| (1 <<< (nI D_z.1.2.1 &&& 31))) s_z = (z_hb w_z s_z || decide (s_z = D_z.1.2.1)) := fun w_z => by
        rw [z_hb_or _ _ s_z (by omega), z_hb_one D_z.1.2.1 (by omega) s_z (by omega)]
      have hbs : z_hb (if th = (j_z + 1) % 6 then D_z.1.1 8 th ||| (1 <<< (nI D_z.1.2.1 &&& 31)) else if th = j_z then D_z.1.1 8 th ||| (1 <<< (nI D_z.1.2.1 &&& 31)) else D_z.1.1 8 th) s_z = (z_hb (D_z.1.1 8 th) s_z || (decide (th = j_z ∨ th = (j_z + 1) % 6) && decide (s_z = D_z.1.2.1))) := by
        by_cases q1_z : th = (j_z + 1) % 6
        · rw [if_pos q1_z, hor, decide_eq_true (Or.inr q1_z), Bool.true_and]
        · rw [if_neg q1_z]
          by_cases q2_z : th = j_z
          · rw [if_pos q2_z, hor, decide_eq_true (Or.inl q2_z), Bool.true_and]
          · rw [if_neg q2_z, decide_eq_false (fun z_z => z_z.elim q2_z q1_z), Bool.false_and, Bool.or_false]
      rw [hbs, a8 th hth s_z hs]
      by_cases e_z : s_z = D_z.1.2.1
      · rw [if_pos e_z, ej, z_md6b j_z (by omega), e_z, decide_eq_false (Nat.lt_irrefl _), Bool.false_and, Bool.false_or, decide_eq_true (show D_z.1.2.1 = D_z.1.2.1 from rfl), Bool.and_true, decide_eq_true (Nat.lt_succ_self _), Bool.true_and]
        apply decide_eq_decide.mpr
        exact ⟨fun z_z => z_z.imp (fun y_z => by rw [y_z]) (fun y_z => by rw [y_z]), fun z_z => z_z.imp (fun y_z => z_nI_inj (by omega) (by omega) y_z) (fun y_z => z_nI_inj (by omega) (by omega) y_z)⟩
      · rw [if_neg e_z, decide_eq_false e_z, Bool.and_false, Bool.or_false]
        congr 1
        apply decide_eq_decide.mpr
        omega
  · cases ht
theorem z_ODr.c {D_z D_z' : z_Dr} {f_z : Nat → Int32} (h_z : z_ODr D_z) (ht : z_tkC D_z f_z = some D_z') : z_ODr D_z' := by
  obtain ⟨b1, b2, b3, b4⟩ := z_tkC_at ht
  obtain ⟨a1_z, a2, a3, a4, a5, a6, a7, a8⟩ := h_z
  unfold z_tkC at ht
  split at ht
  · next hc_z =>
    obtain ⟨c0_z, c1_z, c2_z, c3_z, c4_z, c5_z⟩ := hc_z
    have en : D_z'.1.2.1 = D_z.1.2.1 := congrArg (fun x_z => x_z.1) b1
    have em : D_z'.1.2.2.1 = D_z.1.2.2.1 + 1 := congrArg (fun x_z => x_z.2.1) b1
    unfold z_ODr
    rw [en, em, b2, b4 2 (by omega), b4 1 (by omega), b4 8 (by omega)]
    refine ⟨a1_z, by omega, a3, a4, a5, a6, fun c_z hc_z => ?_, a8⟩
    rw [b3 1 (by decide) c_z]
    by_cases e_z : c_z = D_z.1.2.2.1
    · rw [if_pos e_z]; exact c2_z
    · rw [if_neg e_z]; exact a7 c_z (by omega)
  · cases ht
theorem z_itm_ex {q_z : (Nat → Int32) × Nat} {many p_z : Nat} {tk : z_Dr → (Nat → Int32) → Option z_Dr} {D_z D_z' : z_Dr} {p_z' : Nat} (h_z : z_itm q_z many tk D_z p_z = some (D_z', p_z')) : ∃ f_z, z_nms q_z many (p_z + 1) many = some (f_z, p_z') ∧ tk D_z f_z = some D_z' := by
  cases e_z : z_nms q_z many (p_z + 1) many with
  | none => rw [z_itm_no e_z] at h_z; cases h_z
  | some x_z =>
    obtain ⟨f_z, p1_z⟩ := x_z
    cases e2_z : tk D_z f_z with
    | none => rw [z_itm_no2 e_z e2_z] at h_z; cases h_z
    | some D1 =>
      rw [z_itm_so e_z e2_z] at h_z
      cases h_z
      exact ⟨f_z, rfl, e2_z⟩
theorem z_ODr.q {q_z : (Nat → Int32) × Nat} {p_z p_z' : Nat} {D_z D_z' : z_Dr} {f_z : Nat → Int32} (h_z : z_ODr D_z) (hn : z_nms q_z 2 p_z 2 = some (f_z, p_z')) (ht : z_tkQ D_z f_z = some D_z') : z_ODr D_z' := by
  obtain ⟨a1_z, a2, a3, a4, a5, a6, a7, a8⟩ := h_z
  obtain ⟨f1_z, p1_z, e1_z, n1_z, -, e2_z⟩ := z_nms_s (i_z := 1) hn
  obtain ⟨f0_z, p0_z, e3_z, n0_z, -, e4_z⟩ := z_nms_s (i_z := 0) e1_z
  have g1 : ¬ f_z 1 < 0 := by rw [e2_z]; exact n1_z
  have g0 : ¬ f_z 0 < 0 := by rw [e2_z, e4_z]; exact n0_z
  have lt0 : f_z 0 < nI D_z.1.2.1 := Classical.byContradiction (fun z_z => by rw [z_tkQ_ge (Or.inl z_z)] at ht; cases ht)
  have lt1 : f_z 1 < nI D_z.1.2.1 := Classical.byContradiction (fun z_z => by rw [z_tkQ_ge (Or.inr z_z)] at ht; cases ht)
  obtain ⟨a_z, ha_z, ea⟩ := z_in.of ⟨z_ge0 g0, lt0⟩ (by omega)
  obtain ⟨b_z, hb_z, eb⟩ := z_in.of ⟨z_ge0 g1, lt1⟩ (by omega)
  have hab : a_z ≠ b_z := fun z_z => by
    have : z_tkQ D_z f_z = none := if_neg (fun y_z => y_z.1 (by rw [ea, eb, z_z]))
    rw [this] at ht
    cases ht
  rw [z_tkQ_val ea eb ha_z hb_z a1_z hab] at ht
  have hQ := a3.tg (a_z := a_z) (b_z := b_z) (by omega) (by omega) hab
  split at ht
  · next hc_z =>
    cases ht
    rw [hQ.bc] at hc_z
    exact ⟨a1_z, a2, hQ, (nI_leI (Nat.lt_of_le_of_lt (z_qn15 _) (by decide)) (show 6 < 2 ^ 31 by decide)).mp hc_z, a5, a6, a7, a8⟩
  · cases ht
theorem z_ODr.item {q_z : (Nat → Int32) × Nat} {D_z D_z' : z_Dr} {p_z p_z' : Nat} (h_z : z_ODr D_z) (hi_z : z_item q_z D_z p_z = some (D_z', p_z')) : z_ODr D_z' := by
  unfold z_item at hi_z
  split at hi_z
  · obtain ⟨f_z, h1, h2⟩ := z_itm_ex hi_z; exact h_z.s h2
  · split at hi_z
    · obtain ⟨f_z, h1, h2⟩ := z_itm_ex hi_z; exact h_z.q h1 h2
    · split at hi_z
      · obtain ⟨f_z, h1, h2⟩ := z_itm_ex hi_z; exact h_z.c h2
      · split at hi_z
        · obtain ⟨f_z, h1, h2⟩ := z_itm_ex hi_z
          unfold z_tkH at h2
          split at h2
          · cases h2; exact h_z
          · cases h2
        · cases hi_z
theorem z_item_pr {q_z : (Nat → Int32) × Nat} {D_z D_z' : z_Dr} {p_z p_z' : Nat} (hp : p_z < q_z.2) (hi_z : z_item q_z D_z p_z = some (D_z', p_z')) : p_z < p_z' ∧ p_z' ≤ q_z.2 := by
  have key_z : ∀ many tk, z_itm q_z many tk D_z p_z = some (D_z', p_z') → p_z < p_z' ∧ p_z' ≤ q_z.2 := fun many tk h_z => by
    obtain ⟨f_z, h1, h2⟩ := z_itm_ex h_z
    have := z_nms_le (by omega) _ _ _ h1
    omega
  unfold z_item at hi_z
  split at hi_z
  · exact key_z _ _ hi_z
  · split at hi_z
    · exact key_z _ _ hi_z
    · split at hi_z
      · exact key_z _ _ hi_z
      · split at hi_z
        · exact key_z _ _ hi_z
        · cases hi_z
theorem z_read_ok {q_z : (Nat → Int32) × Nat} : ∀ (k_z : Nat) (D_z : z_Dr) (p_z : Nat), z_ODr D_z → z_ODr (z_read q_z k_z D_z p_z).2 ∧ ∀ r_z, (z_read q_z k_z D_z p_z).1 = some r_z → r_z < q_z.2
  | 0, D_z, p_z, h_z => ⟨h_z, fun r_z z_z => by cases z_z⟩
  | k_z + 1, D_z, p_z, h_z => by
    by_cases hp : p_z < q_z.2
    · cases e_z : z_item q_z D_z p_z with
      | none =>
        rw [z_read_no hp e_z]
        exact ⟨h_z, fun r_z z_z => by cases z_z; exact hp⟩
      | some x_z =>
        obtain ⟨D_z', p_z'⟩ := x_z
        rw [z_read_so hp e_z]
        exact z_read_ok k_z D_z' p_z' (h_z.item e_z)
    · rw [z_read_end hp]
      exact ⟨h_z, fun r_z z_z => by cases z_z⟩
/-- what the model's reading leaves -/
def z_FLT (zS : z_S) (q_z : (Nat → Int32) × Nat) (J_z : Nat → Nat → Int32) : Option Value → z_S → Prop := fun r_z zS' => r_z = some (.int (z_fault q_z J_z)) ∧ ∃ zI', z_up zS zI' = zS' ∧ z_f2 z_scM (z_I zS) zI' ∧ ((z_read q_z 200 (z_D0 J_z) 0).1 = none → z_rMD zI' (z_read q_z 200 (z_D0 J_z) 0).2)
theorem z_qr0 : ∀ a_z, a_z < 6 → (0 : Int32) = z_qr 0 a_z 6 := by decide +kernel
set_option maxHeartbeats 2000000 in
theorem c_X10_fault {g_z : z_U} {d_z : Nat} {zS : z_S} {A_z : z_Ab} (hN_z : z_LM zS) (hR : z_RM (z_I zS) A_z) (h200 : (z_AX A_z).2 ≤ 200) {J_z : Nat → Nat → Int32} : z_C g_z (d_z + 4) 0 0 mX10_fault [.ref 99] zS (z_FLT zS (z_AX A_z) J_z) := by
  refine z_enter [some (.ref 99), none] rfl rfl (Nat.le_of_ble_eq_true rfl) rfl (fun zX hM_z => ?_)
  have hB_z : z_B g_z zX RX10 cX10_fault 2 := hM_z.1
  have loop : ∀ (f_z : Nat) (D_z : z_Dr) (p_z : Nat) (I1 : Nat → Nat → Int32), z_f2 z_scM (z_I zS) I1 → (z_AX A_z).2 ≤ p_z + f_z → p_z ≤ (z_AX A_z).2 → z_ODr D_z → z_rMD I1 D_z → I1 99 2 = nI p_z → z_read (z_AX A_z) 200 (z_D0 J_z) 0 = z_read (z_AX A_z) f_z D_z p_z → z_W g_z zX 41 [some (.ref 99), none] [] 0 0 (z_up zS I1) := by
    intro f_z
    induction f_z using Nat.strongRecOn with
    | _ f_z ih_z =>
    intro D_z p_z I1 hf hfu hp hO hD hpos he
    refine z_s 42 hB_z dX10_fault_41 rfl rfl ?_
    refine z_getI 45 hB_z fX10_85 (N99 (zS := zS) hN_z) dX10_fault_42 rfl rfl ?_
    rw [show z_I (z_up zS I1) 99 2 = nI p_z from hpos]
    refine z_s 46 hB_z dX10_fault_45 rfl rfl ?_
    refine z_getI 49 hB_z fX10_79 (N99 (zS := zS) hN_z) dX10_fault_46 rfl rfl ?_
    rw [show z_I (z_up zS I1) 99 0 = nI (z_AX A_z).2 from (hR.scr hf).xl]
    refine z_b 52 69 hB_z dX10_fault_49 rfl rfl (by decide) (fun c_49 => ?_) (fun c_49 => ?_)
    ·
      have hge : ¬ p_z < (z_AX A_z).2 := by
        have := (nI_leI (by omega) (by omega)).mp (show nI (z_AX A_z).2 ≤ nI p_z from c_49)
        omega
      rw [z_read_end hge] at he
      refine z_s 71 hB_z dX10_fault_69 rfl rfl ?_
      refine z_iret hM_z dX10_fault_71 rfl ?_ rfl rfl
      exact ⟨congrArg (fun q_z => some (Value.int q_z)) (z_fault_no (by rw [he])).symm, I1, rfl, hf, fun z_z => by rw [he]; exact hD⟩
    ·
      have hlt : p_z < (z_AX A_z).2 := (nI_ltI (by omega) (by omega)).mp (show nI p_z < nI (z_AX A_z).2 from c_49)
      obtain ⟨k_z, rfl⟩ : ∃ k_z, f_z = k_z + 1 := ⟨f_z - 1, by omega⟩
      refine z_s 53 hB_z dX10_fault_52 rfl rfl ?_
      refine z_getI 56 hB_z fX10_85 (N99 (zS := zS) hN_z) dX10_fault_53 rfl rfl ?_
      rw [show z_I (z_up zS I1) 99 2 = nI p_z from hpos]
      refine z_s 57 hB_z dX10_fault_56 rfl rfl ?_
      refine z_s 58 hB_z dX10_fault_57 rfl rfl ?_
      refine z_callV 61 hB_z hM_z.2.1 kX10_118 dX10_fault_58 rfl (N99 (zS := zS) hN_z) rfl (c_X10_isItem (zS := z_up zS I1) (d_z := 0) (q_z := (z_AX A_z)) (D_z := D_z) hN_z (hR.scr hf).xl h200 (hR.scr hf).xs hlt hpos hD hO.1 hO.2.1 hO.2.2.1 hO.2.2.2.1) (by omega) rfl rfl (Nat.le_of_ble_eq_true rfl) ⟨Nat.le_refl _, Nat.le_refl _⟩ ?_
      rintro _ _ ⟨v_z, rfl, I2_z, rfl, hf2, hv⟩
      refine z_b 64 66 hB_z dX10_fault_61 rfl rfl (by decide) (fun c_61 => ?_) (fun c_61 => ?_)
      ·
        obtain ⟨-, D_z', p_z', hi_z, hD', hp'⟩ := hv.resolve_left (fun z_z => c_61 z_z.1)
        rw [z_read_so hlt hi_z] at he
        have hpr := z_item_pr hlt hi_z
        refine z_j 41 hB_z dX10_fault_66 (by decide) ?_
        exact z_wkn (ih_z k_z (by omega) D_z' p_z' I2_z (hf.tr hf2) (by omega) hpr.2 (hO.item hi_z) hD' hp' he) ⟨rfl, trivial⟩
      ·
        have hi_z := (hv.resolve_right (fun z_z => absurd (z_z.1.symm.trans c_61) (by decide))).2
        rw [z_read_no hlt hi_z] at he
        refine z_s 65 hB_z dX10_fault_64 rfl rfl ?_
        refine z_iret hM_z dX10_fault_65 rfl ?_ rfl rfl
        refine ⟨congrArg (fun q_z => some (Value.int q_z)) (z_fault_so (by rw [he])).symm, I2_z, rfl, hf.tr hf2, fun z_z => ?_⟩
        rw [he] at z_z
        cases z_z
  have loop0 := z_loop (fun k_z => z_W g_z zX 22 [some (.ref 99), some (.int (nI k_z))] [] 0 0 (z_up zS (z_sa (z_u2 (z_u2 (z_u2 (z_u2 (z_I zS) 99 2 0) 99 4 0) 99 5 0) 99 6 0) 103 k_z (fun _ => 0)))) 6 (fun k_z hk ih_z => by
    refine z_s 23 hB_z dX10_fault_22 rfl rfl ?_
    refine z_s 25 hB_z dX10_fault_23 rfl rfl ?_
    refine z_b 28 41 hB_z dX10_fault_25 rfl rfl (by decide) (fun c_25 => ?_) (fun c_25 => ?_)
    ·
      have hk6 : k_z = 6 := by
        have := (nI_leI (by omega) (by omega)).mp (show nI 6 ≤ nI k_z from c_25)
        omega
      subst hk6
      refine z_wkn (loop 200 (z_D0 J_z) 0 (z_sa (z_u2 (z_u2 (z_u2 (z_u2 (z_I zS) 99 2 0) 99 4 0) 99 5 0) 99 6 0) 103 6 (fun _ => 0)) ?_ (by omega) (Nat.zero_le _) (z_ODr0 J_z) ?_ ?_ rfl) ⟨rfl, trivial⟩
      · intro q_z k_z hq
        rw [z_sa_off (fun z_z => hq (by unfold z_scM; omega))]
        exact ((((z_f2.rf.u2 (by unfold z_scM; omega)).u2 (by unfold z_scM; omega)).u2 (by unfold z_scM; omega)).u2 (by unfold z_scM; omega) : z_f2 z_scM (z_I zS) _) q_z k_z hq
      · refine ⟨?_, ?_, ?_, fun s_z hs => absurd hs (Nat.not_lt_zero s_z), fun s_z hs => absurd hs (Nat.not_lt_zero s_z), fun a_z ha_z => ?_⟩
        · rw [z_sa_off (by decide), z_u2_ne (Or.inr (by decide)), z_u2_ne (Or.inr (by decide)), z_u2_same]; rfl
        · rw [z_sa_off (by decide), z_u2_ne (Or.inr (by decide)), z_u2_same]; rfl
        · rw [z_sa_off (by decide), z_u2_same]; rfl
        · show (if 103 = 103 ∧ a_z < 6 then (0 : Int32) else _) = z_qr 0 a_z 6
          rw [if_pos ⟨rfl, ha_z⟩]
          exact z_qr0 a_z ha_z
      · rw [z_sa_off (by decide), z_u2_ne (Or.inr (by decide)), z_u2_ne (Or.inr (by decide)), z_u2_ne (Or.inr (by decide)), z_u2_same]; rfl
    ·
      have hk6 : k_z < 6 := (nI_ltI (by omega) (by omega)).mp (show nI k_z < nI 6 from c_25)
      refine z_s 29 hB_z dX10_fault_28 rfl rfl ?_
      refine z_getR 32 hB_z fX10_19 (N99 (zS := zS) hN_z) dX10_fault_29 rfl rfl (n99_9 (zS := zS) hN_z) ?_
      refine z_s 33 hB_z dX10_fault_32 rfl rfl ?_
      refine z_s 34 hB_z dX10_fault_33 rfl rfl ?_
      refine z_ast 35 hB_z (N103 (zS := zS) hN_z) dX10_fault_34 rfl (vp_in_nI (show k_z < 6 by omega) (by decide)) ?_
      rw [nI_clamp (by omega)]
      refine z_s 38 hB_z dX10_fault_35 rfl rfl ?_
      refine z_j 22 hB_z dX10_fault_38 (by decide) ?_
      exact z_eqS (z_wkn (ih_z hk6) ⟨rfl, congrArg (fun q_z => some (Value.int q_z)) (z_inc k_z), trivial⟩) (congrArg (z_up zS) (z_sa_succ _ _ _ (fun _ => 0)))) 0 (Nat.zero_le _)
  rw [z_sa_0] at loop0
  refine z_s 1 hB_z dX10_fault_0 rfl rfl ?_
  refine z_s 2 hB_z dX10_fault_1 rfl rfl ?_
  refine z_putI 5 hB_z fX10_85 (N99 (zS := zS) hN_z) dX10_fault_2 rfl rfl rfl ?_
  refine z_s 6 hB_z dX10_fault_5 rfl rfl ?_
  refine z_s 7 hB_z dX10_fault_6 rfl rfl ?_
  refine z_putI 10 hB_z fX10_91 (N99 (zS := zS) hN_z) dX10_fault_7 rfl rfl rfl ?_
  refine z_s 11 hB_z dX10_fault_10 rfl rfl ?_
  refine z_s 12 hB_z dX10_fault_11 rfl rfl ?_
  refine z_putI 15 hB_z fX10_94 (N99 (zS := zS) hN_z) dX10_fault_12 rfl rfl rfl ?_
  refine z_s 16 hB_z dX10_fault_15 rfl rfl ?_
  refine z_s 17 hB_z dX10_fault_16 rfl rfl ?_
  refine z_putI 20 hB_z fX10_115 (N99 (zS := zS) hN_z) dX10_fault_17 rfl rfl rfl ?_
  refine z_s 21 hB_z dX10_fault_20 rfl rfl ?_
  refine z_s 22 hB_z dX10_fault_21 rfl rfl ?_
  exact z_eqS (z_wkn loop0 ⟨rfl, rfl, trivial⟩) rfl

/-- the model's cells behind laying -/
def z_LY (J_z : Nat → Nat → Int32) (D_z : z_Dr) : Nat → Nat → Int32 := z_u2 (z_u2 (z_u2 (z_cpy (z_sa (z_cpy (z_cpy (z_u2 (z_u2 (z_u2 J_z 99 10 (nI D_z.1.2.1)) 99 11 (nI D_z.1.2.2.1)) 99 12 D_z.1.2.2.2) 101 0 104 0 24) 102 0 105 0 40) 106 17 (fun _ => 0)) 103 0 106 5 6) 99 21 0) 99 18 0) 99 20 0
theorem z_RM.lay {J_z : Nat → Nat → Int32} {A_z : z_Ab} {D_z : z_Dr} (h_z : z_RM J_z A_z) (hD : z_rMD J_z D_z) (hn : D_z.1.2.1 ≤ 6) (hm_z : D_z.1.2.2.1 ≤ 10) : z_RM (z_LY J_z D_z) (z_layA A_z D_z) := by
  obtain ⟨d1_z, d2_z, d3_z, d4_z, d5_z, d6_z⟩ := hD
  have o9 : ∀ k_z, k_z ≠ 10 → k_z ≠ 11 → k_z ≠ 12 → k_z ≠ 21 → k_z ≠ 18 → k_z ≠ 20 → z_LY J_z D_z 99 k_z = J_z 99 k_z := fun k_z h1 h2 h3 h4 h5 h6 => by
    unfold z_LY
    rw [z_u2_ne (Or.inr h6), z_u2_ne (Or.inr h5), z_u2_ne (Or.inr h4), z_cpy_out (by omega), z_sa_off (by decide), z_cpy_out (by omega), z_cpy_out (by omega), z_u2_ne (Or.inr h3), z_u2_ne (Or.inr h2), z_u2_ne (Or.inr h1)]
  have of : ∀ o k_z, o ≠ 99 → z_LY J_z D_z o k_z = z_cpy (z_sa (z_cpy (z_cpy (z_u2 (z_u2 (z_u2 J_z 99 10 (nI D_z.1.2.1)) 99 11 (nI D_z.1.2.2.1)) 99 12 D_z.1.2.2.2) 101 0 104 0 24) 102 0 105 0 40) 106 17 (fun _ => 0)) 103 0 106 5 6 o k_z := fun o k_z ho => by
    unfold z_LY
    rw [z_u2_ne (Or.inl ho), z_u2_ne (Or.inl ho), z_u2_ne (Or.inl ho)]
  have ob_z : ∀ o k_z, o ≠ 99 → z_u2 (z_u2 (z_u2 J_z 99 10 (nI D_z.1.2.1)) 99 11 (nI D_z.1.2.2.1)) 99 12 D_z.1.2.2.2 o k_z = J_z o k_z := fun o k_z ho => by
    rw [z_u2_ne (Or.inl ho), z_u2_ne (Or.inl ho), z_u2_ne (Or.inl ho)]
  have n6_z : ∀ k_z, k_z < 17 → (k_z < 5 ∨ 11 ≤ k_z) → z_LY J_z D_z 106 k_z = 0 := fun k_z hk h1 => by
    rw [of _ _ (by decide), z_cpy_out (by omega)]
    exact if_pos ⟨rfl, hk⟩
  refine ⟨(o9 0 (by decide) (by decide) (by decide) (by decide) (by decide) (by decide)).trans h_z.xl, fun k_z hk => ?_, ?_, ?_, ?_, fun s_z hs k_z hk => ?_, fun c_z hc_z k_z hk => ?_, ⟨?_, ?_, ?_, ?_, ?_, fun a_z ha_z => ?_, fun k_z hk => ?_⟩, ?_, fun j_z hj => absurd hj (Nat.not_lt_zero j_z), z_u2_same _ _ _ _, fun j_z hj => absurd hj (Nat.not_lt_zero j_z), ?_, fun i_z hi_z => absurd hi_z (Nat.not_lt_zero i_z)⟩
  · rw [of _ _ (by decide), z_cpy_out (by omega), z_sa_off (by decide), z_cpy_out (by omega), z_cpy_out (by omega), ob_z _ _ (by decide)]
    exact h_z.xs k_z hk
  · unfold z_LY
    rw [z_u2_ne (Or.inr (by decide)), z_u2_ne (Or.inr (by decide)), z_u2_ne (Or.inr (by decide)), z_cpy_out (by omega), z_sa_off (by decide), z_cpy_out (by omega), z_cpy_out (by omega), z_u2_ne (Or.inr (by decide)), z_u2_ne (Or.inr (by decide)), z_u2_same]
    rfl
  · unfold z_LY
    rw [z_u2_ne (Or.inr (by decide)), z_u2_ne (Or.inr (by decide)), z_u2_ne (Or.inr (by decide)), z_cpy_out (by omega), z_sa_off (by decide), z_cpy_out (by omega), z_cpy_out (by omega), z_u2_ne (Or.inr (by decide)), z_u2_same]
    rfl
  · unfold z_LY
    rw [z_u2_ne (Or.inr (by decide)), z_u2_ne (Or.inr (by decide)), z_u2_ne (Or.inr (by decide)), z_cpy_out (by omega), z_sa_off (by decide), z_cpy_out (by omega), z_cpy_out (by omega), z_u2_same]
    rfl
  · have hs2 : s_z < D_z.1.2.1 := hs
    rw [of _ _ (by decide), z_cpy_out (by omega), z_sa_off (by decide), z_cpy_out (by omega), z_cpy_in (by omega), ob_z _ _ (by decide), Nat.zero_add, Nat.sub_zero]
    exact d4_z s_z hs k_z hk
  · have hc2 : c_z < D_z.1.2.2.1 := hc_z
    rw [of _ _ (by decide), z_cpy_out (by omega), z_sa_off (by decide), z_cpy_in (by omega), z_cpy_out (by omega), ob_z _ _ (by decide), Nat.zero_add, Nat.sub_zero]
    exact d5_z c_z hc_z k_z hk
  · exact n6_z 0 (by decide) (by decide)
  · exact n6_z 1 (by decide) (by decide)
  · exact n6_z 2 (by decide) (by decide)
  · exact n6_z 3 (by decide) (by decide)
  · exact n6_z 4 (by decide) (by decide)
  · rw [of _ _ (by decide), z_cpy_in (by omega), z_sa_off (by decide), z_cpy_out (by omega), z_cpy_out (by omega), ob_z _ _ (by decide), show 0 + (0 + 5 + a_z - 5) = a_z by omega]
    exact d6_z a_z ha_z
  · rw [n6_z (0 + 11 + k_z) (by omega) (by omega)]
    exact (if_neg (by omega)).symm
  · exact (z_u2_ne (Or.inr (by decide))).trans (z_u2_same _ _ _ _)
  · exact (z_u2_ne (Or.inr (by decide))).trans ((z_u2_ne (Or.inr (by decide))).trans (z_u2_same _ _ _ _))
theorem z_MC.of2 {zS : z_S} {A_z : z_Ab} {x_z : Int32} {q_z : z_Ab × Int32} {zI' : Nat → Nat → Int32} (hR : z_RM (z_I zS) A_z) (hf : z_f2 z_scM (z_I zS) zI') (h_z : q_z = (A_z, x_z)) : z_MC zS q_z (some (.int x_z)) (z_up zS zI') := by
  subst h_z
  exact ⟨rfl, zI', rfl, hR.scr hf, hf.mono (fun q_z k_z h_z => by unfold z_scM at h_z; omega)⟩
set_option maxHeartbeats 4000000 in
theorem c_X10_lay {g_z : z_U} {d_z : Nat} {zS : z_S} {A_z : z_Ab} (hN_z : z_LM zS) (hR : z_RM (z_I zS) A_z) (h200 : (z_AX A_z).2 ≤ 200) {J_z : Nat → Nat → Int32} : z_C g_z (d_z + 5) 0 0 mX10_lay [.ref 99] zS (z_MC zS (z_lay A_z J_z)) := by
  refine z_enter [some (.ref 99), none] rfl rfl (Nat.le_of_ble_eq_true rfl) rfl (fun zX hM_z => ?_)
  have hB_z : z_B g_z zX RX10 cX10_lay 2 := hM_z.1
  have loop : ∀ (D_z : z_Dr) (I1 : Nat → Nat → Int32), z_f2 z_scM (z_I zS) I1 → z_rMD I1 D_z → ¬ D_z.1.2.1 = 0 → D_z.1.2.1 ≤ 6 → D_z.1.2.2.1 ≤ 10 → (z_read (z_AX A_z) 200 (z_D0 J_z) 0).1 = none → (z_read (z_AX A_z) 200 (z_D0 J_z) 0).2 = D_z → z_W g_z zX 75 [some (.ref 99), some (.int (nI 0))] [] 0 0 (z_up zS (z_cpy (z_cpy (z_u2 (z_u2 (z_u2 I1 99 10 (nI D_z.1.2.1)) 99 11 (nI D_z.1.2.2.1)) 99 12 D_z.1.2.2.2) 101 0 104 0 24) 102 0 105 0 40)) := fun D_z I1 hf1 hD hn0 hn6 hm10 hnone hDe => by
    have l := z_loop (fun k_z => z_W g_z zX 75 [some (.ref 99), some (.int (nI k_z))] [] 0 0 (z_up zS (z_sa (z_cpy (z_cpy (z_u2 (z_u2 (z_u2 I1 99 10 (nI D_z.1.2.1)) 99 11 (nI D_z.1.2.2.1)) 99 12 D_z.1.2.2.2) 101 0 104 0 24) 102 0 105 0 40) 106 k_z (fun _ => 0)))) 17 (fun k_z hk ih_z => by
      refine z_s 76 hB_z dX10_lay_75 rfl rfl ?_
      refine z_s 78 hB_z dX10_lay_76 rfl rfl ?_
      refine z_b 81 94 hB_z dX10_lay_78 rfl rfl (by decide) (fun c_78 => ?_) (fun c_78 => ?_)
      ·
        have hk17 : k_z = 17 := by
          have := (nI_leI (by omega) (by omega)).mp (show nI 17 ≤ nI k_z from c_78)
          omega
        subst hk17
        refine z_s 95 hB_z dX10_lay_94 rfl rfl ?_
        refine z_getR 98 hB_z fX10_19 (N99 (zS := zS) hN_z) dX10_lay_95 rfl rfl (n99_9 (zS := zS) hN_z) ?_
        refine z_s 99 hB_z dX10_lay_98 rfl rfl ?_
        refine z_s 100 hB_z dX10_lay_99 rfl rfl ?_
        refine z_getR 103 hB_z fX10_28 (N99 (zS := zS) hN_z) dX10_lay_100 rfl rfl (n99_15 (zS := zS) hN_z) ?_
        refine z_s 104 hB_z dX10_lay_103 rfl rfl ?_
        refine z_s 106 hB_z dX10_lay_104 rfl rfl ?_
        refine z_callS 109 hB_z hM_z.2.1 kX10_126 dX10_lay_106 rfl (c_X10_bring (zS := z_up zS (z_sa (z_cpy (z_cpy (z_u2 (z_u2 (z_u2 I1 99 10 (nI D_z.1.2.1)) 99 11 (nI D_z.1.2.2.1)) 99 12 D_z.1.2.2.2) 101 0 104 0 24) 102 0 105 0 40) 106 17 (fun _ => 0))) (d_z := 0) (i_z := 0) (j_z := 5) (n_z := 6) (N103 hN_z) (N106 hN_z) (Or.inl (by decide)) (by decide) (by decide) (by decide) (by decide)) (by omega) rfl rfl (Nat.le_of_ble_eq_true rfl) ⟨Nat.le_refl _, Nat.le_refl _⟩ ?_
        rintro _ _ ⟨rfl, h106⟩
        subst h106
        refine z_s 110 hB_z dX10_lay_109 rfl rfl ?_
        refine z_s 111 hB_z dX10_lay_110 rfl rfl ?_
        refine z_putI 114 hB_z fX10_130 (N99 (zS := zS) hN_z) dX10_lay_111 rfl rfl rfl ?_
        refine z_s 115 hB_z dX10_lay_114 rfl rfl ?_
        refine z_s 116 hB_z dX10_lay_115 rfl rfl ?_
        refine z_putI 119 hB_z fX10_133 (N99 (zS := zS) hN_z) dX10_lay_116 rfl rfl rfl ?_
        refine z_s 120 hB_z dX10_lay_119 rfl rfl ?_
        refine z_s 121 hB_z dX10_lay_120 rfl rfl ?_
        refine z_putI 124 hB_z fX10_136 (N99 (zS := zS) hN_z) dX10_lay_121 rfl rfl rfl ?_
        refine z_s 125 hB_z dX10_lay_124 rfl rfl ?_
        refine z_eqS (S2 := z_up zS (z_LY I1 D_z)) ?_ rfl
        have hRL := (hR.scr hf1).lay hD hn6 hm10
        refine z_getI 128 hB_z fX10_50 (N99 (zS := zS) hN_z) dX10_lay_125 rfl rfl ?_
        rw [show z_I (z_up zS (z_LY I1 D_z)) 99 10 = nI D_z.1.2.1 from hRL.sn]
        refine z_iret hM_z dX10_lay_128 rfl ?_ rfl rfl
        have e_z : z_lay A_z J_z = (z_layA A_z D_z, nI D_z.1.2.1) := by
          unfold z_lay
          rw [hDe]
          exact if_pos ⟨hnone, hn0⟩
        rw [e_z]
        refine ⟨rfl, z_LY I1 D_z, rfl, hRL, ?_⟩
        intro o k_z ho
        have h9 : o < 99 := by omega
        unfold z_LY
        rw [z_u2_ne (Or.inl (by omega)), z_u2_ne (Or.inl (by omega)), z_u2_ne (Or.inl (by omega)), z_cpy_out (by omega), z_sa_off (by omega), z_cpy_out (by omega), z_cpy_out (by omega), z_u2_ne (Or.inl (by omega)), z_u2_ne (Or.inl (by omega)), z_u2_ne (Or.inl (by omega))]
        exact hf1 o k_z (by unfold z_scM; omega)
      ·
        have hk17 : k_z < 17 := (nI_ltI (by omega) (by omega)).mp (show nI k_z < nI 17 from c_78)
        refine z_s 82 hB_z dX10_lay_81 rfl rfl ?_
        refine z_getR 85 hB_z fX10_28 (N99 (zS := zS) hN_z) dX10_lay_82 rfl rfl (n99_15 (zS := zS) hN_z) ?_
        refine z_s 86 hB_z dX10_lay_85 rfl rfl ?_
        refine z_s 87 hB_z dX10_lay_86 rfl rfl ?_
        refine z_ast 88 hB_z (N106 (zS := zS) hN_z) dX10_lay_87 rfl (vp_in_nI (show k_z < 17 by omega) (by decide)) ?_
        rw [nI_clamp (by omega)]
        refine z_s 91 hB_z dX10_lay_88 rfl rfl ?_
        refine z_j 75 hB_z dX10_lay_91 (by decide) ?_
        exact z_eqS (z_wkn (ih_z hk17) ⟨rfl, congrArg (fun q_z => some (Value.int q_z)) (z_inc k_z), trivial⟩) (congrArg (z_up zS) (z_sa_succ _ _ _ (fun _ => 0)))) 0 (Nat.zero_le _)
    rw [z_sa_0] at l
    exact l
  refine z_s 1 hB_z dX10_lay_0 rfl rfl ?_
  refine z_callV 4 hB_z hM_z.2.1 kX10_122 dX10_lay_1 rfl (N99 (zS := zS) hN_z) rfl (c_X10_fault (d_z := 0) hN_z hR h200 (J_z := J_z)) (by omega) rfl rfl (Nat.le_of_ble_eq_true rfl) ⟨Nat.le_refl _, Nat.le_refl _⟩ ?_
  rintro _ _ ⟨rfl, I1, rfl, hf1, hrd⟩
  obtain ⟨hOD, hlt⟩ := z_read_ok (q_z := z_AX A_z) 200 (z_D0 J_z) 0 (z_ODr0 J_z)
  refine z_s 6 hB_z dX10_lay_4 rfl rfl ?_
  refine z_b 9 16 hB_z dX10_lay_6 rfl rfl (by decide) (fun c_6 => ?_) (fun c_6 => ?_)
  ·
    have hsome : ¬ (z_read (z_AX A_z) 200 (z_D0 J_z) 0).1 = none := fun z_z => c_6 (z_fault_no z_z)
    refine z_s 18 hB_z dX10_lay_16 rfl rfl ?_
    refine z_iret hM_z dX10_lay_18 rfl ?_ rfl rfl
    exact z_MC.of2 hR hf1 (if_neg (fun z_z => hsome z_z.1))
  ·
    have hnone : (z_read (z_AX A_z) 200 (z_D0 J_z) 0).1 = none := by
      cases e_z : (z_read (z_AX A_z) 200 (z_D0 J_z) 0).1 with
      | none => rfl
      | some r_z =>
        exfalso
        rw [z_fault_so e_z] at c_6
        exact z_fne (by have := hlt r_z e_z; omega) c_6
    have hD := hrd hnone
    obtain ⟨D_z, hDe⟩ : ∃ D_z, (z_read (z_AX A_z) 200 (z_D0 J_z) 0).2 = D_z := ⟨_, rfl⟩
    rw [hDe] at hD hOD
    refine z_s 10 hB_z dX10_lay_9 rfl rfl ?_
    refine z_getI 13 hB_z fX10_91 (N99 (zS := zS) hN_z) dX10_lay_10 rfl rfl ?_
    rw [show z_I (z_up zS I1) 99 4 = nI D_z.1.2.1 from hD.1]
    refine z_b 16 19 hB_z dX10_lay_13 rfl rfl (by decide) (fun c_13 => ?_) (fun c_13 => ?_)
    ·
      have hn0 : ¬ D_z.1.2.1 = 0 := fun z_z => c_13 (by rw [z_z]; rfl)
      refine z_s 20 hB_z dX10_lay_19 rfl rfl ?_
      refine z_s 21 hB_z dX10_lay_20 rfl rfl ?_
      refine z_getI 24 hB_z fX10_91 (N99 (zS := zS) hN_z) dX10_lay_21 rfl rfl ?_
      rw [show z_I (z_up zS I1) 99 4 = nI D_z.1.2.1 from hD.1]
      refine z_putI 27 hB_z fX10_50 (N99 (zS := zS) hN_z) dX10_lay_24 rfl rfl rfl ?_
      refine z_s 28 hB_z dX10_lay_27 rfl rfl ?_
      refine z_s 29 hB_z dX10_lay_28 rfl rfl ?_
      refine z_getI 32 hB_z fX10_94 (N99 (zS := zS) hN_z) dX10_lay_29 rfl rfl ?_
      rw [show z_I (z_pI (z_up zS I1) 99 10 (nI D_z.1.2.1)) 99 5 = nI D_z.1.2.2.1 from (z_Ine (Or.inr (by decide))).trans hD.2.1]
      refine z_putI 35 hB_z fX10_61 (N99 (zS := zS) hN_z) dX10_lay_32 rfl rfl rfl ?_
      refine z_s 36 hB_z dX10_lay_35 rfl rfl ?_
      refine z_s 37 hB_z dX10_lay_36 rfl rfl ?_
      refine z_getI 40 hB_z fX10_115 (N99 (zS := zS) hN_z) dX10_lay_37 rfl rfl ?_
      rw [show z_I (z_pI (z_pI (z_up zS I1) 99 10 (nI D_z.1.2.1)) 99 11 (nI D_z.1.2.2.1)) 99 6 = D_z.1.2.2.2 from (z_Ine (Or.inr (by decide))).trans ((z_Ine (Or.inr (by decide))).trans hD.2.2.1)]
      refine z_putI 43 hB_z fX10_64 (N99 (zS := zS) hN_z) dX10_lay_40 rfl rfl rfl ?_
      refine z_s 44 hB_z dX10_lay_43 rfl rfl ?_
      refine z_getR 47 hB_z fX10_13 (N99 (zS := zS) hN_z) dX10_lay_44 rfl rfl (n99_7 (zS := zS) hN_z) ?_
      refine z_s 48 hB_z dX10_lay_47 rfl rfl ?_
      refine z_s 49 hB_z dX10_lay_48 rfl rfl ?_
      refine z_getR 52 hB_z fX10_22 (N99 (zS := zS) hN_z) dX10_lay_49 rfl rfl (n99_13 (zS := zS) hN_z) ?_
      refine z_s 53 hB_z dX10_lay_52 rfl rfl ?_
      refine z_s 55 hB_z dX10_lay_53 rfl rfl ?_
      refine z_callS 58 hB_z hM_z.2.1 kX10_126 dX10_lay_55 rfl (c_X10_bring (zS := z_up zS (z_u2 (z_u2 (z_u2 I1 99 10 (nI D_z.1.2.1)) 99 11 (nI D_z.1.2.2.1)) 99 12 D_z.1.2.2.2)) (d_z := 0) (i_z := 0) (j_z := 0) (n_z := 24) (N101 hN_z) (N104 hN_z) (Or.inl (by decide)) (by decide) (by decide) (by decide) (by decide)) (by omega) rfl rfl (Nat.le_of_ble_eq_true rfl) ⟨Nat.le_refl _, Nat.le_refl _⟩ ?_
      rintro _ _ ⟨rfl, h55⟩
      subst h55
      refine z_s 59 hB_z dX10_lay_58 rfl rfl ?_
      refine z_getR 62 hB_z fX10_16 (N99 (zS := zS) hN_z) dX10_lay_59 rfl rfl (n99_8 (zS := zS) hN_z) ?_
      refine z_s 63 hB_z dX10_lay_62 rfl rfl ?_
      refine z_s 64 hB_z dX10_lay_63 rfl rfl ?_
      refine z_getR 67 hB_z fX10_25 (N99 (zS := zS) hN_z) dX10_lay_64 rfl rfl (n99_14 (zS := zS) hN_z) ?_
      refine z_s 68 hB_z dX10_lay_67 rfl rfl ?_
      refine z_s 70 hB_z dX10_lay_68 rfl rfl ?_
      refine z_callS 73 hB_z hM_z.2.1 kX10_126 dX10_lay_70 rfl (c_X10_bring (zS := z_up zS (z_cpy (z_u2 (z_u2 (z_u2 I1 99 10 (nI D_z.1.2.1)) 99 11 (nI D_z.1.2.2.1)) 99 12 D_z.1.2.2.2) 101 0 104 0 24)) (d_z := 0) (i_z := 0) (j_z := 0) (n_z := 40) (N102 hN_z) (N105 hN_z) (Or.inl (by decide)) (by decide) (by decide) (by decide) (by decide)) (by omega) rfl rfl (Nat.le_of_ble_eq_true rfl) ⟨Nat.le_refl _, Nat.le_refl _⟩ ?_
      rintro _ _ ⟨rfl, h70⟩
      subst h70
      refine z_s 74 hB_z dX10_lay_73 rfl rfl ?_
      refine z_s 75 hB_z dX10_lay_74 rfl rfl ?_
      exact z_eqS (z_wkn (loop D_z I1 hf1 hD hn0 hOD.1 hOD.2.1 hnone hDe) ⟨rfl, rfl, trivial⟩) rfl
    ·
      have hn0 : D_z.1.2.1 = 0 := z_nI0 (by have := hOD.1; omega) c_13
      refine z_s 18 hB_z dX10_lay_16 rfl rfl ?_
      refine z_iret hM_z dX10_lay_18 rfl ?_ rfl rfl
      exact z_MC.of2 hR hf1 (if_neg (fun z_z => z_z.2 (by rw [hDe]; exact hn0)))

