/-! what holds of every state that calls reach -/
def z_OK (A_z : z_Ab) : Prop := z_OV (z_AV A_z) ∧ z_OT (z_AT A_z) ∧ (∀ j_z, j_z < (z_AU A_z).2 → z_OT ((z_AU A_z).1 j_z)) ∧ ∀ j_z, j_z < (z_AK A_z).2 → z_OT ((z_AK A_z).1 j_z)
theorem z_OT.push {q_z : (Nat → Nat → Int32) × Nat} {zT : Nat → Int32} {N_z : Nat} (hT_z : z_OT zT) (h_z : ∀ j_z, j_z < q_z.2 → z_OT (q_z.1 j_z)) : ∀ j_z, j_z < (z_push q_z zT N_z).2 → z_OT ((z_push q_z zT N_z).1 j_z) := by
  unfold z_push
  intro j_z hj
  by_cases c_z : q_z.2 < N_z
  · rw [if_pos c_z]
    have hj2 : j_z < q_z.2 + 1 := by
      have : j_z < (if q_z.2 < N_z then q_z.2 + 1 else N_z) := hj
      rw [if_pos c_z] at this
      exact this
    show z_OT (if j_z = q_z.2 then zT else q_z.1 j_z)
    by_cases e_z : j_z = q_z.2
    · rw [if_pos e_z]; exact hT_z
    · rw [if_neg e_z]; exact h_z j_z (by omega)
  · rw [if_neg c_z]
    have hj2 : j_z < N_z := by
      have : j_z < (if q_z.2 < N_z then q_z.2 + 1 else N_z) := hj
      rw [if_neg c_z] at this
      exact this
    show z_OT (if j_z = N_z - 1 then zT else q_z.1 (j_z + 1))
    by_cases e_z : j_z = N_z - 1
    · rw [if_pos e_z]; exact hT_z
    · rw [if_neg e_z]; exact h_z (j_z + 1) (by omega)
theorem z_OK.write {A_z : z_Ab} {l : Int32} (h_z : z_OK A_z) : z_OK (z_write A_z l).1 := by
  unfold z_write
  split
  · split
    · exact h_z
    · exact h_z
  · exact h_z
theorem z_OK.wipe {A_z : z_Ab} (h_z : z_OK A_z) : z_OK (z_wipe A_z).1 := h_z
theorem z_OK.forget {A_z : z_Ab} (h_z : z_OK A_z) : z_OK (z_forget A_z).1 := h_z
theorem z_OK.see {A_z : z_Ab} {s_z t_z v_z : Int32} (h_z : z_OK A_z) : z_OK (z_see A_z s_z t_z v_z).1 := by
  unfold z_see
  split
  · split
    · exact h_z
    · exact h_z
  · exact h_z
theorem z_OK.note {A_z : z_Ab} {zT : Nat → Int32} (h_z : z_OK A_z) (hT_z : z_OT zT) : z_OK (z_setT (z_setU A_z (z_push (z_AU A_z) (z_AT A_z) 8)) zT) :=
  ⟨h_z.1, hT_z, z_OT.push h_z.2.1 h_z.2.2.1, h_z.2.2.2⟩
theorem z_OK.pass {A_z : z_Ab} {n_z : Int32} (h_z : z_OK A_z) : z_OK (z_pass A_z n_z).1 := by
  unfold z_pass
  split
  · exact h_z.note (h_z.2.1.gob _)
  · exact h_z
theorem z_OK.supper {A_z : z_Ab} {s_z : Int32} (h_z : z_OK A_z) : z_OK (z_supper A_z s_z).1 := by
  unfold z_supper
  split
  · next hs =>
    split
    · exact h_z
    · refine h_z.note ?_
      obtain ⟨hA, hQ, hq, w_z, hw, e_z⟩ := h_z.2.1
      have hn6 := h_z.1.2.1
      obtain ⟨j_z, hj, rfl⟩ := z_in.of hs (by omega)
      obtain ⟨x_z, hx, ex_z⟩ := z_or64 w_z hw j_z (by omega)
      refine ⟨hA.put (by decide), hQ, hq, x_z, hx, ?_⟩
      rw [z_putT_s, e_z, ex_z]
  · exact h_z
theorem z_OK.lull {A_z : z_Ab} {s_z : Int32} (h_z : z_OK A_z) : z_OK (z_lull A_z s_z).1 := by
  unfold z_lull
  split
  · split
    · exact h_z
    · refine h_z.note ?_
      obtain ⟨hA, hQ, hq, hw⟩ := h_z.2.1
      have e4_z : z_putT (z_AT A_z) (6 + s_z.toNatClampNeg) 0 4 = z_AT A_z 4 := if_neg (by omega)
      have e5_z : z_putT (z_AT A_z) (6 + s_z.toNatClampNeg) 0 5 = z_AT A_z 5 := if_neg (by omega)
      refine ⟨fun k_z hk => ?_, by show z_OQ (z_putT (z_AT A_z) (6 + s_z.toNatClampNeg) 0 4); rw [e4_z]; exact hQ, by show z_qn (z_putT (z_AT A_z) (6 + s_z.toNatClampNeg) 0 4) ≤ 6; rw [e4_z]; exact hq, by show ∃ w_z, w_z < 64 ∧ z_putT (z_AT A_z) (6 + s_z.toNatClampNeg) 0 5 = nI w_z; rw [e5_z]; exact hw⟩
      by_cases e_z : 6 + k_z = 6 + s_z.toNatClampNeg
      · exact ⟨0, by decide, if_pos e_z⟩
      · obtain ⟨a_z, ha_z, ea⟩ := hA k_z hk
        exact ⟨a_z, ha_z, (if_neg e_z).trans ea⟩
  · exact h_z
theorem z_OK.settle {A_z : z_Ab} {a_z b_z : Int32} (h_z : z_OK A_z) : z_OK (z_settle A_z a_z b_z).1 := by
  unfold z_settle
  split
  · next hs =>
    split
    · exact h_z
    · next hc_z =>
      refine h_z.note ?_
      obtain ⟨hA, hQ, hq, hw⟩ := h_z.2.1
      have hn6 := h_z.1.2.1
      obtain ⟨j_z, hj, rfl⟩ := z_in.of hs.1 (by omega)
      obtain ⟨k_z, hk, rfl⟩ := z_in.of hs.2.1 (by omega)
      have hjk : j_z ≠ k_z := fun z_z => hs.2.2 (by rw [z_z])
      rw [nI_clamp (show j_z < 2 ^ 31 by omega), nI_clamp (show k_z < 2 ^ 31 by omega)] at hc_z ⊢
      refine ⟨hA.put (by decide), ?_, ?_, hw⟩
      · rw [z_putT_s]; exact hQ.tg (by omega) (by omega) hjk
      · rw [z_putT_s]
        have h1 := z_qn_tg (Q_z := z_AT A_z 4) (a_z := j_z) (b_z := k_z) (by omega) (by omega) hjk
        cases e_z : z_hb (z_AT A_z 4) (z_pr j_z k_z) with
        | true => rw [e_z, if_pos rfl, if_pos rfl] at h1; omega
        | false =>
          rw [e_z, if_neg Bool.false_ne_true, if_neg Bool.false_ne_true] at h1
          have : ¬ z_qn (z_AT A_z 4) = 6 := fun z_z => hc_z ⟨e_z, (z_qn_eq hq hQ).mpr z_z⟩
          omega
  · exact h_z
theorem z_OK.undo {A_z : z_Ab} (h_z : z_OK A_z) : z_OK (z_undo A_z).1 := by
  unfold z_undo
  split
  · exact h_z
  · next hc_z => exact ⟨h_z.1, h_z.2.2.1 _ (by omega), fun j_z hj => h_z.2.2.1 j_z (by have : j_z < (z_AU A_z).2 - 1 := hj; omega), h_z.2.2.2⟩
theorem z_OK.keep {A_z : z_Ab} (h_z : z_OK A_z) : z_OK (z_keep A_z).1 := by
  unfold z_keep
  split
  · exact ⟨h_z.1, h_z.2.1, h_z.2.2.1, z_OT.push h_z.2.1 h_z.2.2.2⟩
  · exact h_z
theorem z_OK.back {A_z : z_Ab} (h_z : z_OK A_z) : z_OK (z_back A_z).1 := by
  unfold z_back
  split
  · exact h_z
  · next hc_z => exact ⟨h_z.1, h_z.2.2.2 _ (by omega), fun j_z hj => absurd hj (Nat.not_lt_zero j_z), fun j_z hj => h_z.2.2.2 j_z (by have : j_z < (z_AK A_z).2 - 1 := hj; omega)⟩
theorem z_OT0 {Q_z : Int32} (hQ : z_OQ Q_z) (hq : z_qn Q_z ≤ 6) : z_OT (z_T0 Q_z) :=
  ⟨fun k_z hk => ⟨0, by decide, if_neg (by omega)⟩, by rw [show z_T0 Q_z 4 = Q_z from if_pos rfl]; exact hQ, by rw [show z_T0 Q_z 4 = Q_z from if_pos rfl]; exact hq, 0, by decide, if_neg (by decide)⟩
theorem z_OK.lay {A_z : z_Ab} {J_z : Nat → Nat → Int32} (h_z : z_OK A_z) : z_OK (z_lay A_z J_z).1 := by
  unfold z_lay
  split
  · next hc_z =>
    obtain ⟨hO, -⟩ := z_read_ok (q_z := z_AX A_z) 200 (z_D0 J_z) 0 (z_ODr0 J_z)
    exact ⟨hO.ov hc_z.2, z_OT0 hO.2.2.1 hO.2.2.2.1, fun j_z hj => absurd hj (Nat.not_lt_zero j_z), fun j_z hj => absurd hj (Nat.not_lt_zero j_z)⟩
  · exact h_z
