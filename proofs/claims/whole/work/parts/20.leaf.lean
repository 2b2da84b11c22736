/-! leaves: the class's static methods, Row, Text, Choice -/
theorem c_X9_bit {g_z : z_U} {d_z : Nat} {zS : z_S} {x_z : Int32} {i_z : Int32} : z_C g_z (d_z) 0 0 mX9_bit [.int x_z, .int i_z] zS (fun r_z zS' => zS = zS' ∧ r_z = some (.int (x_z >>> (i_z &&& 31) &&& 1))) := by
  refine z_enter [some (.int x_z), some (.int i_z)] rfl rfl (Nat.le_of_ble_eq_true rfl) rfl (fun zX hM_z => ?_)
  have hB_z : z_B g_z zX RX9 cX9_bit 2 := hM_z.1
  refine z_s 1 hB_z dX9_bit_0 rfl rfl ?_
  refine z_s 2 hB_z dX9_bit_1 rfl rfl ?_
  refine z_s 3 hB_z dX9_bit_2 rfl rfl ?_
  refine z_s 4 hB_z dX9_bit_3 rfl rfl ?_
  refine z_s 5 hB_z dX9_bit_4 rfl rfl ?_
  refine z_iret hM_z dX9_bit_5 rfl ?_ rfl rfl
  first
    | exact ⟨rfl, rfl⟩
    | exact ⟨rfl, by rw [if_pos (by first | assumption | exact ⟨by assumption, by assumption⟩)]⟩
    | exact ⟨rfl, by rw [if_neg (by first | assumption | exact z_nlt0 (by assumption) | exact (fun h_z => z_nlt0 h_z.1 (by assumption)) | exact (fun h_z => z_nlt0 h_z.2 (by assumption)))]⟩

theorem c_X9_has {g_z : z_U} {d_z : Nat} {zS : z_S} {x_z : Int32} {i_z : Int32} : z_C g_z (d_z) 0 0 mX9_has [.int x_z, .int i_z] zS (fun r_z zS' => zS = zS' ∧ r_z = some (.int (if x_z >>> (i_z &&& 31) &&& 1 = 1 then 1 else 0))) := by
  refine z_enter [some (.int x_z), some (.int i_z)] rfl rfl (Nat.le_of_ble_eq_true rfl) rfl (fun zX hM_z => ?_)
  have hB_z : z_B g_z zX RX9 cX9_has 2 := hM_z.1
  refine z_s 1 hB_z dX9_has_0 rfl rfl ?_
  refine z_s 2 hB_z dX9_has_1 rfl rfl ?_
  refine z_s 3 hB_z dX9_has_2 rfl rfl ?_
  refine z_s 4 hB_z dX9_has_3 rfl rfl ?_
  refine z_s 5 hB_z dX9_has_4 rfl rfl ?_
  refine z_s 6 hB_z dX9_has_5 rfl rfl ?_
  refine z_b 9 13 hB_z dX9_has_6 rfl rfl (by decide) (fun c_6 => ?_) (fun c_6 => ?_)
  ·
    refine z_s 14 hB_z dX9_has_13 rfl rfl ?_
    refine z_zret hM_z dX9_has_14 rfl (by decide) ?_ rfl rfl
    first
      | exact ⟨rfl, rfl⟩
      | exact ⟨rfl, by rw [if_pos (by first | assumption | exact ⟨by assumption, by assumption⟩)]⟩
      | exact ⟨rfl, by rw [if_neg (by first | assumption | exact z_nlt0 (by assumption) | exact (fun h_z => z_nlt0 h_z.1 (by assumption)) | exact (fun h_z => z_nlt0 h_z.2 (by assumption)))]⟩
  ·
    refine z_s 10 hB_z dX9_has_9 rfl rfl ?_
    refine z_j 14 hB_z dX9_has_10 (by decide) ?_
    refine z_zret hM_z dX9_has_14 rfl (by decide) ?_ rfl rfl
    first
      | exact ⟨rfl, rfl⟩
      | exact ⟨rfl, by rw [if_pos (by first | assumption | exact ⟨by assumption, by assumption⟩)]⟩
      | exact ⟨rfl, by rw [if_neg (by first | assumption | exact z_nlt0 (by assumption) | exact (fun h_z => z_nlt0 h_z.1 (by assumption)) | exact (fun h_z => z_nlt0 h_z.2 (by assumption)))]⟩

theorem c_X9_mod {g_z : z_U} {d_z : Nat} {zS : z_S} {x_z : Int32} {y_z : Int32} : z_C g_z (d_z) 0 0 mX9_mod [.int x_z, .int y_z] zS (fun r_z zS' => zS = zS' ∧ r_z = some (.int (if 0 < y_z then x_z - x_z / y_z * y_z else 0))) := by
  refine z_enter [some (.int x_z), some (.int y_z)] rfl rfl (Nat.le_of_ble_eq_true rfl) rfl (fun zX hM_z => ?_)
  have hB_z : z_B g_z zX RX9 cX9_mod 2 := hM_z.1
  refine z_s 1 hB_z dX9_mod_0 rfl rfl ?_
  refine z_b 4 10 hB_z dX9_mod_1 rfl rfl (by decide) (fun c_1 => ?_) (fun c_1 => ?_)
  ·
    refine z_s 11 hB_z dX9_mod_10 rfl rfl ?_
    refine z_iret hM_z dX9_mod_11 rfl ?_ rfl rfl
    first
      | exact ⟨rfl, rfl⟩
      | exact ⟨rfl, by rw [if_pos (by first | assumption | exact ⟨by assumption, by assumption⟩)]⟩
      | exact ⟨rfl, by rw [if_neg (by first | assumption | exact z_nlt0 (by assumption) | exact (fun h_z => z_nlt0 h_z.1 (by assumption)) | exact (fun h_z => z_nlt0 h_z.2 (by assumption)))]⟩
  ·
    refine z_s 5 hB_z dX9_mod_4 rfl rfl ?_
    refine z_s 6 hB_z dX9_mod_5 rfl rfl ?_
    refine z_irem 7 hB_z dX9_mod_6 rfl (fun h_z => by subst h_z; exact absurd c_1 (by decide)) ?_
    refine z_j 11 hB_z dX9_mod_7 (by decide) ?_
    refine z_iret hM_z dX9_mod_11 rfl ?_ rfl rfl
    first
      | exact ⟨rfl, rfl⟩
      | exact ⟨rfl, by rw [if_pos (by first | assumption | exact ⟨by assumption, by assumption⟩)]⟩
      | exact ⟨rfl, by rw [if_neg (by first | assumption | exact z_nlt0 (by assumption) | exact (fun h_z => z_nlt0 h_z.1 (by assumption)) | exact (fun h_z => z_nlt0 h_z.2 (by assumption)))]⟩

theorem c_X9_quotient {g_z : z_U} {d_z : Nat} {zS : z_S} {x_z : Int32} {y_z : Int32} : z_C g_z (d_z) 0 0 mX9_quotient [.int x_z, .int y_z] zS (fun r_z zS' => zS = zS' ∧ r_z = some (.int (if 0 < y_z then x_z / y_z else 0))) := by
  refine z_enter [some (.int x_z), some (.int y_z)] rfl rfl (Nat.le_of_ble_eq_true rfl) rfl (fun zX hM_z => ?_)
  have hB_z : z_B g_z zX RX9 cX9_quotient 2 := hM_z.1
  refine z_s 1 hB_z dX9_quotient_0 rfl rfl ?_
  refine z_b 4 10 hB_z dX9_quotient_1 rfl rfl (by decide) (fun c_1 => ?_) (fun c_1 => ?_)
  ·
    refine z_s 11 hB_z dX9_quotient_10 rfl rfl ?_
    refine z_iret hM_z dX9_quotient_11 rfl ?_ rfl rfl
    first
      | exact ⟨rfl, rfl⟩
      | exact ⟨rfl, by rw [if_pos (by first | assumption | exact ⟨by assumption, by assumption⟩)]⟩
      | exact ⟨rfl, by rw [if_neg (by first | assumption | exact z_nlt0 (by assumption) | exact (fun h_z => z_nlt0 h_z.1 (by assumption)) | exact (fun h_z => z_nlt0 h_z.2 (by assumption)))]⟩
  ·
    refine z_s 5 hB_z dX9_quotient_4 rfl rfl ?_
    refine z_s 6 hB_z dX9_quotient_5 rfl rfl ?_
    refine z_idiv 7 hB_z dX9_quotient_6 rfl (fun h_z => by subst h_z; exact absurd c_1 (by decide)) ?_
    refine z_j 11 hB_z dX9_quotient_7 (by decide) ?_
    refine z_iret hM_z dX9_quotient_11 rfl ?_ rfl rfl
    first
      | exact ⟨rfl, rfl⟩
      | exact ⟨rfl, by rw [if_pos (by first | assumption | exact ⟨by assumption, by assumption⟩)]⟩
      | exact ⟨rfl, by rw [if_neg (by first | assumption | exact z_nlt0 (by assumption) | exact (fun h_z => z_nlt0 h_z.1 (by assumption)) | exact (fun h_z => z_nlt0 h_z.2 (by assumption)))]⟩

theorem c_X9_isWithin {g_z : z_U} {d_z : Nat} {zS : z_S} {x_z : Int32} {a_z : Int32} {b_z : Int32} : z_C g_z (d_z) 0 0 mX9_isWithin [.int x_z, .int a_z, .int b_z] zS (fun r_z zS' => zS = zS' ∧ r_z = some (.int (if a_z ≤ x_z ∧ x_z ≤ b_z then 1 else 0))) := by
  refine z_enter [some (.int x_z), some (.int a_z), some (.int b_z)] rfl rfl (Nat.le_of_ble_eq_true rfl) rfl (fun zX hM_z => ?_)
  have hB_z : z_B g_z zX RX9 cX9_isWithin 3 := hM_z.1
  refine z_s 1 hB_z dX9_isWithin_0 rfl rfl ?_
  refine z_s 2 hB_z dX9_isWithin_1 rfl rfl ?_
  refine z_b 5 14 hB_z dX9_isWithin_2 rfl rfl (by decide) (fun c_2 => ?_) (fun c_2 => ?_)
  ·
    refine z_s 15 hB_z dX9_isWithin_14 rfl rfl ?_
    refine z_zret hM_z dX9_isWithin_15 rfl (by decide) ?_ rfl rfl
    first
      | exact ⟨rfl, rfl⟩
      | exact ⟨rfl, by rw [if_pos (by first | assumption | exact ⟨by assumption, by assumption⟩)]⟩
      | exact ⟨rfl, by rw [if_neg (by first | assumption | exact z_nlt0 (by assumption) | exact (fun h_z => z_nlt0 h_z.1 (by assumption)) | exact (fun h_z => z_nlt0 h_z.2 (by assumption)))]⟩
  ·
    refine z_s 6 hB_z dX9_isWithin_5 rfl rfl ?_
    refine z_s 7 hB_z dX9_isWithin_6 rfl rfl ?_
    refine z_b 10 14 hB_z dX9_isWithin_7 rfl rfl (by decide) (fun c_7 => ?_) (fun c_7 => ?_)
    ·
      refine z_s 15 hB_z dX9_isWithin_14 rfl rfl ?_
      refine z_zret hM_z dX9_isWithin_15 rfl (by decide) ?_ rfl rfl
      first
        | exact ⟨rfl, rfl⟩
        | exact ⟨rfl, by rw [if_pos (by first | assumption | exact ⟨by assumption, by assumption⟩)]⟩
        | exact ⟨rfl, by rw [if_neg (by first | assumption | exact z_nlt0 (by assumption) | exact (fun h_z => z_nlt0 h_z.1 (by assumption)) | exact (fun h_z => z_nlt0 h_z.2 (by assumption)))]⟩
    ·
      refine z_s 11 hB_z dX9_isWithin_10 rfl rfl ?_
      refine z_j 15 hB_z dX9_isWithin_11 (by decide) ?_
      refine z_zret hM_z dX9_isWithin_15 rfl (by decide) ?_ rfl rfl
      first
        | exact ⟨rfl, rfl⟩
        | exact ⟨rfl, by rw [if_pos (by first | assumption | exact ⟨by assumption, by assumption⟩)]⟩
        | exact ⟨rfl, by rw [if_neg (by first | assumption | exact z_nlt0 (by assumption) | exact (fun h_z => z_nlt0 h_z.1 (by assumption)) | exact (fun h_z => z_nlt0 h_z.2 (by assumption)))]⟩

theorem c_X9_pair {g_z : z_U} {d_z : Nat} {zS : z_S} {a_z : Int32} {b_z : Int32} : z_C g_z (d_z) 0 0 mX9_pair [.int a_z, .int b_z] zS (fun r_z zS' => zS = zS' ∧ r_z = some (.int (if a_z < b_z then 6 * a_z + b_z else 6 * b_z + a_z))) := by
  refine z_enter [some (.int a_z), some (.int b_z)] rfl rfl (Nat.le_of_ble_eq_true rfl) rfl (fun zX hM_z => ?_)
  have hB_z : z_B g_z zX RX9 cX9_pair 2 := hM_z.1
  refine z_s 1 hB_z dX9_pair_0 rfl rfl ?_
  refine z_s 2 hB_z dX9_pair_1 rfl rfl ?_
  refine z_b 5 14 hB_z dX9_pair_2 rfl rfl (by decide) (fun c_2 => ?_) (fun c_2 => ?_)
  ·
    refine z_s 16 hB_z dX9_pair_14 rfl rfl ?_
    refine z_s 17 hB_z dX9_pair_16 rfl rfl ?_
    refine z_s 18 hB_z dX9_pair_17 rfl rfl ?_
    refine z_s 19 hB_z dX9_pair_18 rfl rfl ?_
    refine z_s 20 hB_z dX9_pair_19 rfl rfl ?_
    refine z_iret hM_z dX9_pair_20 rfl ?_ rfl rfl
    first
      | exact ⟨rfl, rfl⟩
      | exact ⟨rfl, by rw [if_pos (by first | assumption | exact ⟨by assumption, by assumption⟩)]⟩
      | exact ⟨rfl, by rw [if_neg (by first | assumption | exact z_nlt0 (by assumption) | exact (fun h_z => z_nlt0 h_z.1 (by assumption)) | exact (fun h_z => z_nlt0 h_z.2 (by assumption)))]⟩
  ·
    refine z_s 7 hB_z dX9_pair_5 rfl rfl ?_
    refine z_s 8 hB_z dX9_pair_7 rfl rfl ?_
    refine z_s 9 hB_z dX9_pair_8 rfl rfl ?_
    refine z_s 10 hB_z dX9_pair_9 rfl rfl ?_
    refine z_s 11 hB_z dX9_pair_10 rfl rfl ?_
    refine z_j 20 hB_z dX9_pair_11 (by decide) ?_
    refine z_iret hM_z dX9_pair_20 rfl ?_ rfl rfl
    first
      | exact ⟨rfl, rfl⟩
      | exact ⟨rfl, by rw [if_pos (by first | assumption | exact ⟨by assumption, by assumption⟩)]⟩
      | exact ⟨rfl, by rw [if_neg (by first | assumption | exact z_nlt0 (by assumption) | exact (fun h_z => z_nlt0 h_z.1 (by assumption)) | exact (fun h_z => z_nlt0 h_z.2 (by assumption)))]⟩

theorem c_X3_at {g_z : z_U} {d_z : Nat} {zS : z_S} {o a_z n_z : Nat} (hr : z_row zS o a_z n_z) (hn : n_z < 2 ^ 31) {i_z : Int32} : z_C g_z (d_z) 0 0 mX3_at [.ref o, .int i_z] zS (fun r_z zS' => zS = zS' ∧ r_z = some (.int (z_rd (z_I zS) a_z n_z i_z))) := by
  refine z_enter [some (.ref o), some (.int i_z)] rfl rfl (Nat.le_of_ble_eq_true rfl) rfl (fun zX hM_z => ?_)
  have hB_z : z_B g_z zX RX3 cX3_at 2 := hM_z.1
  obtain ⟨h1, h2, h3⟩ := hr
  refine z_s 1 hB_z dX3_at_0 rfl rfl ?_
  refine z_b 4 22 hB_z dX3_at_1 rfl rfl (by decide) (fun c_1 => ?_) (fun c_1 => ?_)
  ·
    refine z_s 23 hB_z dX3_at_22 rfl rfl ?_
    refine z_iret hM_z dX3_at_23 rfl ?_ rfl rfl
    exact ⟨rfl, by unfold z_rd; rw [if_neg (fun h_z => z_nlt0 h_z.1 c_1)]⟩
  ·
    refine z_s 5 hB_z dX3_at_4 rfl rfl ?_
    refine z_s 6 hB_z dX3_at_5 rfl rfl ?_
    refine z_getR 9 hB_z fX3_7 (by assumption) dX3_at_6 rfl rfl (by assumption) ?_
    refine z_alen 10 hB_z (by assumption) dX3_at_9 rfl ?_
    refine z_b 13 22 hB_z dX3_at_10 rfl rfl (by decide) (fun c_10 => ?_) (fun c_10 => ?_)
    ·
      refine z_s 23 hB_z dX3_at_22 rfl rfl ?_
      refine z_iret hM_z dX3_at_23 rfl ?_ rfl rfl
      exact ⟨rfl, by unfold z_rd; rw [if_neg (fun h_z => z_nlt0 c_10 h_z.2)]⟩
    ·
      refine z_s 14 hB_z dX3_at_13 rfl rfl ?_
      refine z_getR 17 hB_z fX3_7 (by assumption) dX3_at_14 rfl rfl (by assumption) ?_
      refine z_s 18 hB_z dX3_at_17 rfl rfl ?_
      refine z_ald 19 hB_z (by assumption) dX3_at_18 rfl (z_vin hn (z_nlt0 c_1) c_10) ?_
      refine z_j 23 hB_z dX3_at_19 (by decide) ?_
      refine z_iret hM_z dX3_at_23 rfl ?_ rfl rfl
      exact ⟨rfl, by unfold z_rd; rw [if_pos ⟨c_1, c_10⟩]⟩

theorem c_X3_put {g_z : z_U} {d_z : Nat} {zS : z_S} {o a_z n_z : Nat} (hr : z_row zS o a_z n_z) (hn : n_z < 2 ^ 31) {i_z v_z : Int32} : z_C g_z (d_z) 0 0 mX3_put [.ref o, .int i_z, .int v_z] zS (fun r_z zS' => r_z = none ∧ zS' = if 0 ≤ i_z ∧ i_z < nI n_z then z_pI zS a_z i_z.toNatClampNeg v_z else zS) := by
  refine z_enter [some (.ref o), some (.int i_z), some (.int v_z)] rfl rfl (Nat.le_of_ble_eq_true rfl) rfl (fun zX hM_z => ?_)
  have hB_z : z_B g_z zX RX3 cX3_put 3 := hM_z.1
  obtain ⟨h1, h2, h3⟩ := hr
  refine z_s 1 hB_z dX3_put_0 rfl rfl ?_
  refine z_b 4 20 hB_z dX3_put_1 rfl rfl (by decide) (fun c_1 => ?_) (fun c_1 => ?_)
  ·
    refine z_vret hM_z dX3_put_20 rfl ?_ rfl rfl
    exact ⟨rfl, by rw [if_neg (fun h_z => z_nlt0 h_z.1 c_1)]⟩
  ·
    refine z_s 5 hB_z dX3_put_4 rfl rfl ?_
    refine z_s 6 hB_z dX3_put_5 rfl rfl ?_
    refine z_getR 9 hB_z fX3_7 (by assumption) dX3_put_6 rfl rfl (by assumption) ?_
    refine z_alen 10 hB_z (by assumption) dX3_put_9 rfl ?_
    refine z_b 13 20 hB_z dX3_put_10 rfl rfl (by decide) (fun c_10 => ?_) (fun c_10 => ?_)
    ·
      refine z_vret hM_z dX3_put_20 rfl ?_ rfl rfl
      exact ⟨rfl, by rw [if_neg (fun h_z => z_nlt0 c_10 h_z.2)]⟩
    ·
      refine z_s 14 hB_z dX3_put_13 rfl rfl ?_
      refine z_getR 17 hB_z fX3_7 (by assumption) dX3_put_14 rfl rfl (by assumption) ?_
      refine z_s 18 hB_z dX3_put_17 rfl rfl ?_
      refine z_s 19 hB_z dX3_put_18 rfl rfl ?_
      refine z_ast 20 hB_z (by assumption) dX3_put_19 rfl (z_vin hn (z_nlt0 c_1) c_10) ?_
      refine z_vret hM_z dX3_put_20 rfl ?_ rfl rfl
      exact ⟨rfl, by rw [if_pos ⟨c_1, c_10⟩]⟩

theorem c_X3_fill {g_z : z_U} {d_z : Nat} {zS : z_S} {o a_z n_z : Nat} (hr : z_row zS o a_z n_z) (hn : n_z < 2 ^ 31) {v_z : Int32} : z_C g_z (d_z) 0 0 mX3_fill [.ref o, .int v_z] zS (fun r_z zS' => r_z = none ∧ zS' = z_up zS (z_sa (z_I zS) a_z n_z (fun _ => v_z))) := by
  refine z_enter [some (.ref o), some (.int v_z), none] rfl rfl (Nat.le_of_ble_eq_true rfl) rfl (fun zX hM_z => ?_)
  have hB_z : z_B g_z zX RX3 cX3_fill 3 := hM_z.1
  obtain ⟨h1, h2, h3⟩ := hr
  have loop := z_loop (fun j_z => z_W g_z zX 2 [some (.ref o), some (.int v_z), some (.int (nI j_z))] [] 0 0 (z_up zS (z_sa (z_I zS) a_z j_z (fun _ => v_z)))) n_z (fun j_z hj ih_z => by
    refine z_s 3 hB_z dX3_fill_2 rfl rfl ?_
    refine z_s 4 hB_z dX3_fill_3 rfl rfl ?_
    refine z_getR 7 hB_z fX3_7 (by assumption) dX3_fill_4 rfl rfl (by assumption) ?_
    refine z_alen 8 hB_z (by assumption) dX3_fill_7 rfl ?_
    refine z_b 11 24 hB_z dX3_fill_8 rfl rfl (by decide) (fun c_8 => ?_) (fun c_8 => ?_)
    ·
      refine z_vret hM_z dX3_fill_24 rfl ?_ rfl rfl
      have e_z : j_z = n_z := by
        have h_z := (nI_leI hn (by omega)).mp c_8
        omega
      subst e_z
      exact ⟨rfl, rfl⟩
    ·
      have hlt : j_z < n_z := (nI_ltI (by omega) hn).mp c_8
      refine z_s 12 hB_z dX3_fill_11 rfl rfl ?_
      refine z_getR 15 hB_z fX3_7 (by assumption) dX3_fill_12 rfl rfl (by assumption) ?_
      refine z_s 16 hB_z dX3_fill_15 rfl rfl ?_
      refine z_s 17 hB_z dX3_fill_16 rfl rfl ?_
      refine z_ast 18 hB_z (by assumption) dX3_fill_17 rfl (vp_in_nI hlt hn) ?_
      refine z_s 21 hB_z dX3_fill_18 rfl rfl ?_
      refine z_j 2 hB_z dX3_fill_21 (by decide) ?_
      exact z_eq (ih_z hlt) (by rw [← z_inc]; rfl) rfl (by rw [← z_sa_succ, nI_clamp (by omega)]; rfl)) 0 (Nat.zero_le n_z)
  refine z_s 1 hB_z dX3_fill_0 rfl rfl ?_
  refine z_s 2 hB_z dX3_fill_1 rfl rfl ?_
  exact z_eq loop rfl rfl (by rw [z_sa_0]; rfl)

theorem c_X3_copy {g_z : z_U} {d_z : Nat} {zS : z_S} {o a_z o2 a2 n_z : Nat} (hr : z_row zS o a_z n_z) (hr2 : z_row zS o2 a2 n_z) (hn : n_z < 2 ^ 31) : z_C g_z (d_z + 1) 0 0 mX3_copy [.ref o, .ref o2] zS (fun r_z zS' => r_z = none ∧ zS' = z_up zS (z_sa (z_I zS) a_z n_z (z_I zS a2))) := by
  refine z_enter [some (.ref o), some (.ref o2), none] rfl rfl (Nat.le_of_ble_eq_true rfl) rfl (fun zX hM_z => ?_)
  have hB_z : z_B g_z zX RX3 cX3_copy 3 := hM_z.1
  obtain ⟨h1, h2, h3⟩ := hr
  obtain ⟨q1_z, q2_z, q3_z⟩ := id hr2
  have loop := z_loop (fun j_z => z_W g_z zX 2 [some (.ref o), some (.ref o2), some (.int (nI j_z))] [] 0 0 (z_up zS (z_sa (z_I zS) a_z j_z (z_I zS a2)))) n_z (fun j_z hj ih_z => by
    refine z_s 3 hB_z dX3_copy_2 rfl rfl ?_
    refine z_s 4 hB_z dX3_copy_3 rfl rfl ?_
    refine z_getR 7 hB_z fX3_7 (by assumption) dX3_copy_4 rfl rfl (by assumption) ?_
    refine z_alen 8 hB_z (by assumption) dX3_copy_7 rfl ?_
    refine z_b 11 28 hB_z dX3_copy_8 rfl rfl (by decide) (fun c_8 => ?_) (fun c_8 => ?_)
    ·
      refine z_vret hM_z dX3_copy_28 rfl ?_ rfl rfl
      have e_z : j_z = n_z := by
        have h_z := (nI_leI hn (by omega)).mp c_8
        omega
      subst e_z
      exact ⟨rfl, rfl⟩
    ·
      have hlt : j_z < n_z := (nI_ltI (by omega) hn).mp c_8
      refine z_s 12 hB_z dX3_copy_11 rfl rfl ?_
      refine z_getR 15 hB_z fX3_7 (by assumption) dX3_copy_12 rfl rfl (by assumption) ?_
      refine z_s 16 hB_z dX3_copy_15 rfl rfl ?_
      refine z_s 17 hB_z dX3_copy_16 rfl rfl ?_
      refine z_s 18 hB_z dX3_copy_17 rfl rfl ?_
      refine z_callV 21 hB_z hM_z.2.1 kX3_13 dX3_copy_18 rfl (by assumption) rfl (c_X3_at (d_z := 0) (z_row.up hr2) hn) (by omega) rfl rfl (Nat.le_of_ble_eq_true rfl) ⟨Nat.le_refl _, Nat.le_refl _⟩ ?_
      rintro _ _ ⟨rfl, rfl⟩
      refine z_ast 22 hB_z (by assumption) dX3_copy_21 rfl (vp_in_nI hlt hn) ?_
      refine z_s 25 hB_z dX3_copy_22 rfl rfl ?_
      refine z_j 2 hB_z dX3_copy_25 (by decide) ?_
      have e1_z : z_rd (z_sa (z_I zS) a_z j_z (fun k_z => z_I zS a2 k_z)) a2 n_z (nI j_z) = z_I zS a2 j_z := by
        unfold z_rd
        rw [if_pos ⟨nI_pos' (by omega), (nI_ltI (by omega) hn).mpr hlt⟩, nI_clamp (by omega)]
        simp only [z_sa, Nat.lt_irrefl, and_false, if_false]
      exact z_eq (ih_z hlt) (by rw [← z_inc]; rfl) rfl (by rw [← z_sa_succ, nI_clamp (by omega), ← e1_z]; rfl)) 0 (Nat.zero_le n_z)
  refine z_s 1 hB_z dX3_copy_0 rfl rfl ?_
  refine z_s 2 hB_z dX3_copy_1 rfl rfl ?_
  exact z_eq loop rfl rfl (by rw [z_sa_0]; rfl)

theorem c_J6_bitCount_0f7a4 {g_z : z_U} {d_z : Nat} {zS : z_S} {x_z : Int32} : z_C g_z (d_z) 0 0 mJ6_bitCount_0f7a4 [.int x_z] zS (fun r_z zS' => zS = zS' ∧ r_z = some (.int (z_bc x_z))) := by
  refine z_enter [some (.int x_z)] rfl rfl (Nat.le_of_ble_eq_true rfl) rfl (fun zX hM_z => ?_)
  have hB_z : z_B g_z zX RJ6 cJ6_bitCount_0f7a4 1 := hM_z.1
  refine z_s 1 hB_z dJ6_bitCount_0f7a4_0 rfl rfl ?_
  refine z_s 2 hB_z dJ6_bitCount_0f7a4_1 rfl rfl ?_
  refine z_s 3 hB_z dJ6_bitCount_0f7a4_2 rfl rfl ?_
  refine z_s 4 hB_z dJ6_bitCount_0f7a4_3 rfl rfl ?_
  refine z_ldcw 7 hB_z vJ6_265 dJ6_bitCount_0f7a4_4 rfl ?_
  refine z_s 8 hB_z dJ6_bitCount_0f7a4_7 rfl rfl ?_
  refine z_s 9 hB_z dJ6_bitCount_0f7a4_8 rfl rfl ?_
  refine z_s 10 hB_z dJ6_bitCount_0f7a4_9 rfl rfl ?_
  refine z_s 11 hB_z dJ6_bitCount_0f7a4_10 rfl rfl ?_
  refine z_ldcw 14 hB_z vJ6_266 dJ6_bitCount_0f7a4_11 rfl ?_
  refine z_s 15 hB_z dJ6_bitCount_0f7a4_14 rfl rfl ?_
  refine z_s 16 hB_z dJ6_bitCount_0f7a4_15 rfl rfl ?_
  refine z_s 17 hB_z dJ6_bitCount_0f7a4_16 rfl rfl ?_
  refine z_s 18 hB_z dJ6_bitCount_0f7a4_17 rfl rfl ?_
  refine z_ldcw 21 hB_z vJ6_266 dJ6_bitCount_0f7a4_18 rfl ?_
  refine z_s 22 hB_z dJ6_bitCount_0f7a4_21 rfl rfl ?_
  refine z_s 23 hB_z dJ6_bitCount_0f7a4_22 rfl rfl ?_
  refine z_s 24 hB_z dJ6_bitCount_0f7a4_23 rfl rfl ?_
  refine z_s 25 hB_z dJ6_bitCount_0f7a4_24 rfl rfl ?_
  refine z_s 26 hB_z dJ6_bitCount_0f7a4_25 rfl rfl ?_
  refine z_s 27 hB_z dJ6_bitCount_0f7a4_26 rfl rfl ?_
  refine z_s 28 hB_z dJ6_bitCount_0f7a4_27 rfl rfl ?_
  refine z_s 29 hB_z dJ6_bitCount_0f7a4_28 rfl rfl ?_
  refine z_ldcw 32 hB_z vJ6_267 dJ6_bitCount_0f7a4_29 rfl ?_
  refine z_s 33 hB_z dJ6_bitCount_0f7a4_32 rfl rfl ?_
  refine z_s 34 hB_z dJ6_bitCount_0f7a4_33 rfl rfl ?_
  refine z_s 35 hB_z dJ6_bitCount_0f7a4_34 rfl rfl ?_
  refine z_s 36 hB_z dJ6_bitCount_0f7a4_35 rfl rfl ?_
  refine z_s 38 hB_z dJ6_bitCount_0f7a4_36 rfl rfl ?_
  refine z_s 39 hB_z dJ6_bitCount_0f7a4_38 rfl rfl ?_
  refine z_s 40 hB_z dJ6_bitCount_0f7a4_39 rfl rfl ?_
  refine z_s 41 hB_z dJ6_bitCount_0f7a4_40 rfl rfl ?_
  refine z_s 42 hB_z dJ6_bitCount_0f7a4_41 rfl rfl ?_
  refine z_s 43 hB_z dJ6_bitCount_0f7a4_42 rfl rfl ?_
  refine z_s 45 hB_z dJ6_bitCount_0f7a4_43 rfl rfl ?_
  refine z_s 46 hB_z dJ6_bitCount_0f7a4_45 rfl rfl ?_
  refine z_s 47 hB_z dJ6_bitCount_0f7a4_46 rfl rfl ?_
  refine z_s 48 hB_z dJ6_bitCount_0f7a4_47 rfl rfl ?_
  refine z_s 49 hB_z dJ6_bitCount_0f7a4_48 rfl rfl ?_
  refine z_s 51 hB_z dJ6_bitCount_0f7a4_49 rfl rfl ?_
  refine z_s 52 hB_z dJ6_bitCount_0f7a4_51 rfl rfl ?_
  refine z_iret hM_z dJ6_bitCount_0f7a4_52 rfl ?_ rfl rfl
  first | exact ⟨rfl, rfl⟩ | exact rfl | simp_all

theorem c_X9_dividesBoth {g_z : z_U} {d_z : Nat} {zS : z_S} {d2_z : Int32} {a_z : Int32} {b_z : Int32} : z_C g_z (d_z) 0 0 mX9_dividesBoth [.int d2_z, .int a_z, .int b_z] zS (fun r_z zS' => zS = zS' ∧ r_z = some (.int (if 0 < d2_z ∧ a_z - a_z / d2_z * d2_z = 0 ∧ b_z - b_z / d2_z * d2_z = 0 then 1 else 0))) := by
  refine z_enter [some (.int d2_z), some (.int a_z), some (.int b_z)] rfl rfl (Nat.le_of_ble_eq_true rfl) rfl (fun zX hM_z => ?_)
  have hB_z : z_B g_z zX RX9 cX9_dividesBoth 3 := hM_z.1
  refine z_s 1 hB_z dX9_dividesBoth_0 rfl rfl ?_
  refine z_b 4 20 hB_z dX9_dividesBoth_1 rfl rfl (by decide) (fun c_1 => ?_) (fun c_1 => ?_)
  ·
    refine z_s 21 hB_z dX9_dividesBoth_20 rfl rfl ?_
    refine z_zret hM_z dX9_dividesBoth_21 rfl (by decide) ?_ rfl rfl
    first
      | exact ⟨rfl, by rw [if_pos ⟨by assumption, by assumption, by assumption⟩]⟩
      | exact ⟨rfl, by rw [if_neg (fun h_z => z_nlt0 (by assumption) h_z.1)]⟩
      | exact ⟨rfl, by rw [if_neg (fun h_z => by first | exact absurd h_z.2.1 (by assumption) | exact absurd h_z.2.2 (by assumption))]⟩
  ·
    refine z_s 5 hB_z dX9_dividesBoth_4 rfl rfl ?_
    refine z_s 6 hB_z dX9_dividesBoth_5 rfl rfl ?_
    refine z_irem 7 hB_z dX9_dividesBoth_6 rfl (fun h_z => by subst h_z; exact absurd c_1 (by decide)) ?_
    refine z_b 10 20 hB_z dX9_dividesBoth_7 rfl rfl (by decide) (fun c_7 => ?_) (fun c_7 => ?_)
    ·
      refine z_s 21 hB_z dX9_dividesBoth_20 rfl rfl ?_
      refine z_zret hM_z dX9_dividesBoth_21 rfl (by decide) ?_ rfl rfl
      first
        | exact ⟨rfl, by rw [if_pos ⟨by assumption, by assumption, by assumption⟩]⟩
        | exact ⟨rfl, by rw [if_neg (fun h_z => z_nlt0 (by assumption) h_z.1)]⟩
        | exact ⟨rfl, by rw [if_neg (fun h_z => by first | exact absurd h_z.2.1 (by assumption) | exact absurd h_z.2.2 (by assumption))]⟩
    ·
      refine z_s 11 hB_z dX9_dividesBoth_10 rfl rfl ?_
      refine z_s 12 hB_z dX9_dividesBoth_11 rfl rfl ?_
      refine z_irem 13 hB_z dX9_dividesBoth_12 rfl (fun h_z => by subst h_z; exact absurd c_1 (by decide)) ?_
      refine z_b 16 20 hB_z dX9_dividesBoth_13 rfl rfl (by decide) (fun c_13 => ?_) (fun c_13 => ?_)
      ·
        refine z_s 21 hB_z dX9_dividesBoth_20 rfl rfl ?_
        refine z_zret hM_z dX9_dividesBoth_21 rfl (by decide) ?_ rfl rfl
        first
          | exact ⟨rfl, by rw [if_pos ⟨by assumption, by assumption, by assumption⟩]⟩
          | exact ⟨rfl, by rw [if_neg (fun h_z => z_nlt0 (by assumption) h_z.1)]⟩
          | exact ⟨rfl, by rw [if_neg (fun h_z => by first | exact absurd h_z.2.1 (by assumption) | exact absurd h_z.2.2 (by assumption))]⟩
      ·
        refine z_s 17 hB_z dX9_dividesBoth_16 rfl rfl ?_
        refine z_j 21 hB_z dX9_dividesBoth_17 (by decide) ?_
        refine z_zret hM_z dX9_dividesBoth_21 rfl (by decide) ?_ rfl rfl
        first
          | exact ⟨rfl, by rw [if_pos ⟨by assumption, by assumption, by assumption⟩]⟩
          | exact ⟨rfl, by rw [if_neg (fun h_z => z_nlt0 (by assumption) h_z.1)]⟩
          | exact ⟨rfl, by rw [if_neg (fun h_z => by first | exact absurd h_z.2.1 (by assumption) | exact absurd h_z.2.2 (by assumption))]⟩

theorem c_X9_draw {g_z : z_U} {d_z : Nat} {zS : z_S} {z_z : Int32} {k_z : Int32} : z_C g_z (d_z) 0 0 mX9_draw [.int z_z, .int k_z] zS (fun r_z zS' => zS = zS' ∧ r_z = some (.int (z_draw z_z k_z))) := by
  refine z_enter [some (.int z_z), some (.int k_z), none, none] rfl rfl (Nat.le_of_ble_eq_true rfl) rfl (fun zX hM_z => ?_)
  have hB_z : z_B g_z zX RX9 cX9_draw 4 := hM_z.1
  refine z_ldc2 3 hB_z vX9_319 dX9_draw_0 rfl ?_
  refine z_s 4 hB_z dX9_draw_3 rfl rfl ?_
  refine z_s 5 hB_z dX9_draw_4 rfl rfl ?_
  refine z_s 6 hB_z dX9_draw_5 rfl rfl ?_
  refine z_ldc2 9 hB_z vX9_321 dX9_draw_6 rfl ?_
  refine z_s 10 hB_z dX9_draw_9 rfl rfl ?_
  refine z_s 11 hB_z dX9_draw_10 rfl rfl ?_
  refine z_s 12 hB_z dX9_draw_11 rfl rfl ?_
  refine z_s 13 hB_z dX9_draw_12 rfl rfl ?_
  refine z_s 14 hB_z dX9_draw_13 rfl rfl ?_
  refine z_s 15 hB_z dX9_draw_14 rfl rfl ?_
  refine z_s 16 hB_z dX9_draw_15 rfl rfl ?_
  refine z_s 17 hB_z dX9_draw_16 rfl rfl ?_
  refine z_s 18 hB_z dX9_draw_17 rfl rfl ?_
  refine z_s 19 hB_z dX9_draw_18 rfl rfl ?_
  refine z_ldc2 22 hB_z vX9_323 dX9_draw_19 rfl ?_
  refine z_lrem 23 hB_z dX9_draw_22 rfl (by decide) ?_
  refine z_ldc2 26 hB_z vX9_325 dX9_draw_23 rfl ?_
  refine z_ldiv 27 hB_z dX9_draw_26 rfl (by decide) ?_
  refine z_s 28 hB_z dX9_draw_27 rfl rfl ?_
  refine z_iret hM_z dX9_draw_28 rfl ?_ rfl rfl
  exact ⟨rfl, rfl⟩
