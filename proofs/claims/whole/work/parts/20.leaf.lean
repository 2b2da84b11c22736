/-! leaves: the class's static methods, Row, Text, Choice -/
theorem c_X9_bit {g : z_U} (d : Nat) {zS : z_S} {x : Int32} {i : Int32} : z_C g (d) 0 0 mX9_bit [.int x, .int i] zS (fun r zS' => zS = zS' ∧ r = some (.int (x >>> (i &&& 31) &&& 1))) := by
  refine z_enter [some (.int x), some (.int i)] rfl rfl (Nat.le_of_ble_eq_true rfl) rfl (fun zX hM => ?_)
  have hB : z_B g zX RX9 cX9_bit 2 := hM.1
  refine z_s 1 hB dX9_bit_0 rfl rfl ?_
  refine z_s 2 hB dX9_bit_1 rfl rfl ?_
  refine z_s 3 hB dX9_bit_2 rfl rfl ?_
  refine z_s 4 hB dX9_bit_3 rfl rfl ?_
  refine z_s 5 hB dX9_bit_4 rfl rfl ?_
  refine z_iret hM dX9_bit_5 rfl ?_ rfl rfl
  first
    | exact ⟨rfl, rfl⟩
    | exact ⟨rfl, by rw [if_pos (by first | assumption | exact ⟨by assumption, by assumption⟩)]⟩
    | exact ⟨rfl, by rw [if_neg (by first | assumption | exact z_nlt0 (by assumption) | exact (fun h => z_nlt0 h.1 (by assumption)) | exact (fun h => z_nlt0 h.2 (by assumption)))]⟩

theorem c_X9_has {g : z_U} (d : Nat) {zS : z_S} {x : Int32} {i : Int32} : z_C g (d) 0 0 mX9_has [.int x, .int i] zS (fun r zS' => zS = zS' ∧ r = some (.int (if x >>> (i &&& 31) &&& 1 = 1 then 1 else 0))) := by
  refine z_enter [some (.int x), some (.int i)] rfl rfl (Nat.le_of_ble_eq_true rfl) rfl (fun zX hM => ?_)
  have hB : z_B g zX RX9 cX9_has 2 := hM.1
  refine z_s 1 hB dX9_has_0 rfl rfl ?_
  refine z_s 2 hB dX9_has_1 rfl rfl ?_
  refine z_s 3 hB dX9_has_2 rfl rfl ?_
  refine z_s 4 hB dX9_has_3 rfl rfl ?_
  refine z_s 5 hB dX9_has_4 rfl rfl ?_
  refine z_s 6 hB dX9_has_5 rfl rfl ?_
  refine z_b 9 13 hB dX9_has_6 rfl rfl (by decide) (fun c_6 => ?_) (fun c_6 => ?_)
  ·
    refine z_s 14 hB dX9_has_13 rfl rfl ?_
    refine z_zret hM dX9_has_14 rfl (by decide) ?_ rfl rfl
    first
      | exact ⟨rfl, rfl⟩
      | exact ⟨rfl, by rw [if_pos (by first | assumption | exact ⟨by assumption, by assumption⟩)]⟩
      | exact ⟨rfl, by rw [if_neg (by first | assumption | exact z_nlt0 (by assumption) | exact (fun h => z_nlt0 h.1 (by assumption)) | exact (fun h => z_nlt0 h.2 (by assumption)))]⟩
  ·
    refine z_s 10 hB dX9_has_9 rfl rfl ?_
    refine z_j 14 hB dX9_has_10 (by decide) ?_
    refine z_zret hM dX9_has_14 rfl (by decide) ?_ rfl rfl
    first
      | exact ⟨rfl, rfl⟩
      | exact ⟨rfl, by rw [if_pos (by first | assumption | exact ⟨by assumption, by assumption⟩)]⟩
      | exact ⟨rfl, by rw [if_neg (by first | assumption | exact z_nlt0 (by assumption) | exact (fun h => z_nlt0 h.1 (by assumption)) | exact (fun h => z_nlt0 h.2 (by assumption)))]⟩

theorem c_X9_mod {g : z_U} (d : Nat) {zS : z_S} {x : Int32} {y : Int32} : z_C g (d) 0 0 mX9_mod [.int x, .int y] zS (fun r zS' => zS = zS' ∧ r = some (.int (if 0 < y then x - x / y * y else 0))) := by
  refine z_enter [some (.int x), some (.int y)] rfl rfl (Nat.le_of_ble_eq_true rfl) rfl (fun zX hM => ?_)
  have hB : z_B g zX RX9 cX9_mod 2 := hM.1
  refine z_s 1 hB dX9_mod_0 rfl rfl ?_
  refine z_b 4 10 hB dX9_mod_1 rfl rfl (by decide) (fun c_1 => ?_) (fun c_1 => ?_)
  ·
    refine z_s 11 hB dX9_mod_10 rfl rfl ?_
    refine z_iret hM dX9_mod_11 rfl ?_ rfl rfl
    first
      | exact ⟨rfl, rfl⟩
      | exact ⟨rfl, by rw [if_pos (by first | assumption | exact ⟨by assumption, by assumption⟩)]⟩
      | exact ⟨rfl, by rw [if_neg (by first | assumption | exact z_nlt0 (by assumption) | exact (fun h => z_nlt0 h.1 (by assumption)) | exact (fun h => z_nlt0 h.2 (by assumption)))]⟩
  ·
    refine z_s 5 hB dX9_mod_4 rfl rfl ?_
    refine z_s 6 hB dX9_mod_5 rfl rfl ?_
    refine z_irem 7 hB dX9_mod_6 rfl (fun h => by subst h; exact absurd c_1 (by decide)) ?_
    refine z_j 11 hB dX9_mod_7 (by decide) ?_
    refine z_iret hM dX9_mod_11 rfl ?_ rfl rfl
    first
      | exact ⟨rfl, rfl⟩
      | exact ⟨rfl, by rw [if_pos (by first | assumption | exact ⟨by assumption, by assumption⟩)]⟩
      | exact ⟨rfl, by rw [if_neg (by first | assumption | exact z_nlt0 (by assumption) | exact (fun h => z_nlt0 h.1 (by assumption)) | exact (fun h => z_nlt0 h.2 (by assumption)))]⟩

theorem c_X9_quotient {g : z_U} (d : Nat) {zS : z_S} {x : Int32} {y : Int32} : z_C g (d) 0 0 mX9_quotient [.int x, .int y] zS (fun r zS' => zS = zS' ∧ r = some (.int (if 0 < y then x / y else 0))) := by
  refine z_enter [some (.int x), some (.int y)] rfl rfl (Nat.le_of_ble_eq_true rfl) rfl (fun zX hM => ?_)
  have hB : z_B g zX RX9 cX9_quotient 2 := hM.1
  refine z_s 1 hB dX9_quotient_0 rfl rfl ?_
  refine z_b 4 10 hB dX9_quotient_1 rfl rfl (by decide) (fun c_1 => ?_) (fun c_1 => ?_)
  ·
    refine z_s 11 hB dX9_quotient_10 rfl rfl ?_
    refine z_iret hM dX9_quotient_11 rfl ?_ rfl rfl
    first
      | exact ⟨rfl, rfl⟩
      | exact ⟨rfl, by rw [if_pos (by first | assumption | exact ⟨by assumption, by assumption⟩)]⟩
      | exact ⟨rfl, by rw [if_neg (by first | assumption | exact z_nlt0 (by assumption) | exact (fun h => z_nlt0 h.1 (by assumption)) | exact (fun h => z_nlt0 h.2 (by assumption)))]⟩
  ·
    refine z_s 5 hB dX9_quotient_4 rfl rfl ?_
    refine z_s 6 hB dX9_quotient_5 rfl rfl ?_
    refine z_idiv 7 hB dX9_quotient_6 rfl (fun h => by subst h; exact absurd c_1 (by decide)) ?_
    refine z_j 11 hB dX9_quotient_7 (by decide) ?_
    refine z_iret hM dX9_quotient_11 rfl ?_ rfl rfl
    first
      | exact ⟨rfl, rfl⟩
      | exact ⟨rfl, by rw [if_pos (by first | assumption | exact ⟨by assumption, by assumption⟩)]⟩
      | exact ⟨rfl, by rw [if_neg (by first | assumption | exact z_nlt0 (by assumption) | exact (fun h => z_nlt0 h.1 (by assumption)) | exact (fun h => z_nlt0 h.2 (by assumption)))]⟩

theorem c_X9_isWithin {g : z_U} (d : Nat) {zS : z_S} {x : Int32} {a : Int32} {b : Int32} : z_C g (d) 0 0 mX9_isWithin [.int x, .int a, .int b] zS (fun r zS' => zS = zS' ∧ r = some (.int (if a ≤ x ∧ x ≤ b then 1 else 0))) := by
  refine z_enter [some (.int x), some (.int a), some (.int b)] rfl rfl (Nat.le_of_ble_eq_true rfl) rfl (fun zX hM => ?_)
  have hB : z_B g zX RX9 cX9_isWithin 3 := hM.1
  refine z_s 1 hB dX9_isWithin_0 rfl rfl ?_
  refine z_s 2 hB dX9_isWithin_1 rfl rfl ?_
  refine z_b 5 14 hB dX9_isWithin_2 rfl rfl (by decide) (fun c_2 => ?_) (fun c_2 => ?_)
  ·
    refine z_s 15 hB dX9_isWithin_14 rfl rfl ?_
    refine z_zret hM dX9_isWithin_15 rfl (by decide) ?_ rfl rfl
    first
      | exact ⟨rfl, rfl⟩
      | exact ⟨rfl, by rw [if_pos (by first | assumption | exact ⟨by assumption, by assumption⟩)]⟩
      | exact ⟨rfl, by rw [if_neg (by first | assumption | exact z_nlt0 (by assumption) | exact (fun h => z_nlt0 h.1 (by assumption)) | exact (fun h => z_nlt0 h.2 (by assumption)))]⟩
  ·
    refine z_s 6 hB dX9_isWithin_5 rfl rfl ?_
    refine z_s 7 hB dX9_isWithin_6 rfl rfl ?_
    refine z_b 10 14 hB dX9_isWithin_7 rfl rfl (by decide) (fun c_7 => ?_) (fun c_7 => ?_)
    ·
      refine z_s 15 hB dX9_isWithin_14 rfl rfl ?_
      refine z_zret hM dX9_isWithin_15 rfl (by decide) ?_ rfl rfl
      first
        | exact ⟨rfl, rfl⟩
        | exact ⟨rfl, by rw [if_pos (by first | assumption | exact ⟨by assumption, by assumption⟩)]⟩
        | exact ⟨rfl, by rw [if_neg (by first | assumption | exact z_nlt0 (by assumption) | exact (fun h => z_nlt0 h.1 (by assumption)) | exact (fun h => z_nlt0 h.2 (by assumption)))]⟩
    ·
      refine z_s 11 hB dX9_isWithin_10 rfl rfl ?_
      refine z_j 15 hB dX9_isWithin_11 (by decide) ?_
      refine z_zret hM dX9_isWithin_15 rfl (by decide) ?_ rfl rfl
      first
        | exact ⟨rfl, rfl⟩
        | exact ⟨rfl, by rw [if_pos (by first | assumption | exact ⟨by assumption, by assumption⟩)]⟩
        | exact ⟨rfl, by rw [if_neg (by first | assumption | exact z_nlt0 (by assumption) | exact (fun h => z_nlt0 h.1 (by assumption)) | exact (fun h => z_nlt0 h.2 (by assumption)))]⟩

theorem c_X9_pair {g : z_U} (d : Nat) {zS : z_S} {a : Int32} {b : Int32} : z_C g (d) 0 0 mX9_pair [.int a, .int b] zS (fun r zS' => zS = zS' ∧ r = some (.int (if a < b then 6 * a + b else 6 * b + a))) := by
  refine z_enter [some (.int a), some (.int b)] rfl rfl (Nat.le_of_ble_eq_true rfl) rfl (fun zX hM => ?_)
  have hB : z_B g zX RX9 cX9_pair 2 := hM.1
  refine z_s 1 hB dX9_pair_0 rfl rfl ?_
  refine z_s 2 hB dX9_pair_1 rfl rfl ?_
  refine z_b 5 14 hB dX9_pair_2 rfl rfl (by decide) (fun c_2 => ?_) (fun c_2 => ?_)
  ·
    refine z_s 16 hB dX9_pair_14 rfl rfl ?_
    refine z_s 17 hB dX9_pair_16 rfl rfl ?_
    refine z_s 18 hB dX9_pair_17 rfl rfl ?_
    refine z_s 19 hB dX9_pair_18 rfl rfl ?_
    refine z_s 20 hB dX9_pair_19 rfl rfl ?_
    refine z_iret hM dX9_pair_20 rfl ?_ rfl rfl
    first
      | exact ⟨rfl, rfl⟩
      | exact ⟨rfl, by rw [if_pos (by first | assumption | exact ⟨by assumption, by assumption⟩)]⟩
      | exact ⟨rfl, by rw [if_neg (by first | assumption | exact z_nlt0 (by assumption) | exact (fun h => z_nlt0 h.1 (by assumption)) | exact (fun h => z_nlt0 h.2 (by assumption)))]⟩
  ·
    refine z_s 7 hB dX9_pair_5 rfl rfl ?_
    refine z_s 8 hB dX9_pair_7 rfl rfl ?_
    refine z_s 9 hB dX9_pair_8 rfl rfl ?_
    refine z_s 10 hB dX9_pair_9 rfl rfl ?_
    refine z_s 11 hB dX9_pair_10 rfl rfl ?_
    refine z_j 20 hB dX9_pair_11 (by decide) ?_
    refine z_iret hM dX9_pair_20 rfl ?_ rfl rfl
    first
      | exact ⟨rfl, rfl⟩
      | exact ⟨rfl, by rw [if_pos (by first | assumption | exact ⟨by assumption, by assumption⟩)]⟩
      | exact ⟨rfl, by rw [if_neg (by first | assumption | exact z_nlt0 (by assumption) | exact (fun h => z_nlt0 h.1 (by assumption)) | exact (fun h => z_nlt0 h.2 (by assumption)))]⟩

theorem c_X3_at {g : z_U} (d : Nat) {zS : z_S} {o a n : Nat} (hr : z_row zS o a n) (hn : n < 2 ^ 31) (i : Int32) : z_C g (d) 0 0 mX3_at [.ref o, .int i] zS (fun r zS' => zS = zS' ∧ r = some (.int (z_rd (z_I zS) a n i))) := by
  refine z_enter [some (.ref o), some (.int i)] rfl rfl (Nat.le_of_ble_eq_true rfl) rfl (fun zX hM => ?_)
  have hB : z_B g zX RX3 cX3_at 2 := hM.1
  obtain ⟨h1, h2, h3⟩ := hr
  refine z_s 1 hB dX3_at_0 rfl rfl ?_
  refine z_b 4 22 hB dX3_at_1 rfl rfl (by decide) (fun c_1 => ?_) (fun c_1 => ?_)
  ·
    refine z_s 23 hB dX3_at_22 rfl rfl ?_
    refine z_iret hM dX3_at_23 rfl ?_ rfl rfl
    exact ⟨rfl, by unfold z_rd; rw [if_neg (fun h => z_nlt0 h.1 c_1)]⟩
  ·
    refine z_s 5 hB dX3_at_4 rfl rfl ?_
    refine z_s 6 hB dX3_at_5 rfl rfl ?_
    refine z_getR 9 hB fX3_7 (by assumption) dX3_at_6 rfl rfl (by assumption) ?_
    refine z_alen 10 hB (by assumption) dX3_at_9 rfl ?_
    refine z_b 13 22 hB dX3_at_10 rfl rfl (by decide) (fun c_10 => ?_) (fun c_10 => ?_)
    ·
      refine z_s 23 hB dX3_at_22 rfl rfl ?_
      refine z_iret hM dX3_at_23 rfl ?_ rfl rfl
      exact ⟨rfl, by unfold z_rd; rw [if_neg (fun h => z_nlt0 c_10 h.2)]⟩
    ·
      refine z_s 14 hB dX3_at_13 rfl rfl ?_
      refine z_getR 17 hB fX3_7 (by assumption) dX3_at_14 rfl rfl (by assumption) ?_
      refine z_s 18 hB dX3_at_17 rfl rfl ?_
      refine z_ald 19 hB (by assumption) dX3_at_18 rfl (z_vin hn (z_nlt0 c_1) c_10) ?_
      refine z_j 23 hB dX3_at_19 (by decide) ?_
      refine z_iret hM dX3_at_23 rfl ?_ rfl rfl
      exact ⟨rfl, by unfold z_rd; rw [if_pos ⟨c_1, c_10⟩]⟩

theorem c_X3_put {g : z_U} (d : Nat) {zS : z_S} {o a n : Nat} (hr : z_row zS o a n) (hn : n < 2 ^ 31) (i v : Int32) : z_C g (d) 0 0 mX3_put [.ref o, .int i, .int v] zS (fun r zS' => r = none ∧ zS' = if 0 ≤ i ∧ i < nI n then z_pI zS a i.toNatClampNeg v else zS) := by
  refine z_enter [some (.ref o), some (.int i), some (.int v)] rfl rfl (Nat.le_of_ble_eq_true rfl) rfl (fun zX hM => ?_)
  have hB : z_B g zX RX3 cX3_put 3 := hM.1
  obtain ⟨h1, h2, h3⟩ := hr
  refine z_s 1 hB dX3_put_0 rfl rfl ?_
  refine z_b 4 20 hB dX3_put_1 rfl rfl (by decide) (fun c_1 => ?_) (fun c_1 => ?_)
  ·
    refine z_vret hM dX3_put_20 rfl ?_ rfl rfl
    exact ⟨rfl, by rw [if_neg (fun h => z_nlt0 h.1 c_1)]⟩
  ·
    refine z_s 5 hB dX3_put_4 rfl rfl ?_
    refine z_s 6 hB dX3_put_5 rfl rfl ?_
    refine z_getR 9 hB fX3_7 (by assumption) dX3_put_6 rfl rfl (by assumption) ?_
    refine z_alen 10 hB (by assumption) dX3_put_9 rfl ?_
    refine z_b 13 20 hB dX3_put_10 rfl rfl (by decide) (fun c_10 => ?_) (fun c_10 => ?_)
    ·
      refine z_vret hM dX3_put_20 rfl ?_ rfl rfl
      exact ⟨rfl, by rw [if_neg (fun h => z_nlt0 c_10 h.2)]⟩
    ·
      refine z_s 14 hB dX3_put_13 rfl rfl ?_
      refine z_getR 17 hB fX3_7 (by assumption) dX3_put_14 rfl rfl (by assumption) ?_
      refine z_s 18 hB dX3_put_17 rfl rfl ?_
      refine z_s 19 hB dX3_put_18 rfl rfl ?_
      refine z_ast 20 hB (by assumption) dX3_put_19 rfl (z_vin hn (z_nlt0 c_1) c_10) ?_
      refine z_vret hM dX3_put_20 rfl ?_ rfl rfl
      exact ⟨rfl, by rw [if_pos ⟨c_1, c_10⟩]⟩

theorem c_X3_fill {g : z_U} (d : Nat) {zS : z_S} {o a n : Nat} (hr : z_row zS o a n) (hn : n < 2 ^ 31) (v : Int32) : z_C g (d) 0 0 mX3_fill [.ref o, .int v] zS (fun r zS' => r = none ∧ zS' = z_up zS (z_sa (z_I zS) a n (fun _ => v))) := by
  refine z_enter [some (.ref o), some (.int v), none] rfl rfl (Nat.le_of_ble_eq_true rfl) rfl (fun zX hM => ?_)
  have hB : z_B g zX RX3 cX3_fill 3 := hM.1
  obtain ⟨h1, h2, h3⟩ := hr
  have loop := z_loop (fun j => z_W g zX 2 [some (.ref o), some (.int v), some (.int (nI j))] [] 0 0 (z_up zS (z_sa (z_I zS) a j (fun _ => v)))) n (fun j hj ih => by
    refine z_s 3 hB dX3_fill_2 rfl rfl ?_
    refine z_s 4 hB dX3_fill_3 rfl rfl ?_
    refine z_getR 7 hB fX3_7 (by assumption) dX3_fill_4 rfl rfl (by assumption) ?_
    refine z_alen 8 hB (by assumption) dX3_fill_7 rfl ?_
    refine z_b 11 24 hB dX3_fill_8 rfl rfl (by decide) (fun c_8 => ?_) (fun c_8 => ?_)
    ·
      refine z_vret hM dX3_fill_24 rfl ?_ rfl rfl
      have e : j = n := by
        have h := (nI_leI hn (by omega)).mp c_8
        omega
      subst e
      exact ⟨rfl, rfl⟩
    ·
      have hlt : j < n := (nI_ltI (by omega) hn).mp c_8
      refine z_s 12 hB dX3_fill_11 rfl rfl ?_
      refine z_getR 15 hB fX3_7 (by assumption) dX3_fill_12 rfl rfl (by assumption) ?_
      refine z_s 16 hB dX3_fill_15 rfl rfl ?_
      refine z_s 17 hB dX3_fill_16 rfl rfl ?_
      refine z_ast 18 hB (by assumption) dX3_fill_17 rfl (vp_in_nI hlt hn) ?_
      refine z_s 21 hB dX3_fill_18 rfl rfl ?_
      refine z_j 2 hB dX3_fill_21 (by decide) ?_
      exact z_eq (ih hlt) (by rw [← z_inc]; rfl) rfl (by rw [← z_sa_succ, nI_clamp (by omega)]; rfl)) 0 (Nat.zero_le n)
  refine z_s 1 hB dX3_fill_0 rfl rfl ?_
  refine z_s 2 hB dX3_fill_1 rfl rfl ?_
  exact z_eq loop rfl rfl (by rw [z_sa_0]; rfl)

theorem c_X3_copy {g : z_U} (d : Nat) {zS : z_S} {o a o2 a2 n : Nat} (hr : z_row zS o a n) (hr2 : z_row zS o2 a2 n) (hn : n < 2 ^ 31) : z_C g (d + 1) 0 0 mX3_copy [.ref o, .ref o2] zS (fun r zS' => r = none ∧ zS' = z_up zS (z_sa (z_I zS) a n (z_I zS a2))) := by
  refine z_enter [some (.ref o), some (.ref o2), none] rfl rfl (Nat.le_of_ble_eq_true rfl) rfl (fun zX hM => ?_)
  have hB : z_B g zX RX3 cX3_copy 3 := hM.1
  obtain ⟨h1, h2, h3⟩ := hr
  obtain ⟨q1, q2, q3⟩ := id hr2
  have loop := z_loop (fun j => z_W g zX 2 [some (.ref o), some (.ref o2), some (.int (nI j))] [] 0 0 (z_up zS (z_sa (z_I zS) a j (z_I zS a2)))) n (fun j hj ih => by
    refine z_s 3 hB dX3_copy_2 rfl rfl ?_
    refine z_s 4 hB dX3_copy_3 rfl rfl ?_
    refine z_getR 7 hB fX3_7 (by assumption) dX3_copy_4 rfl rfl (by assumption) ?_
    refine z_alen 8 hB (by assumption) dX3_copy_7 rfl ?_
    refine z_b 11 28 hB dX3_copy_8 rfl rfl (by decide) (fun c_8 => ?_) (fun c_8 => ?_)
    ·
      refine z_vret hM dX3_copy_28 rfl ?_ rfl rfl
      have e : j = n := by
        have h := (nI_leI hn (by omega)).mp c_8
        omega
      subst e
      exact ⟨rfl, rfl⟩
    ·
      have hlt : j < n := (nI_ltI (by omega) hn).mp c_8
      refine z_s 12 hB dX3_copy_11 rfl rfl ?_
      refine z_getR 15 hB fX3_7 (by assumption) dX3_copy_12 rfl rfl (by assumption) ?_
      refine z_s 16 hB dX3_copy_15 rfl rfl ?_
      refine z_s 17 hB dX3_copy_16 rfl rfl ?_
      refine z_s 18 hB dX3_copy_17 rfl rfl ?_
      refine z_callV 21 hB hM.2.1 kX3_13 dX3_copy_18 rfl (by assumption) rfl (c_X3_at 0 (z_row.up hr2) hn (nI j)) (by omega) rfl rfl (Nat.le_of_ble_eq_true rfl) ⟨Nat.le_refl _, Nat.le_refl _⟩ ?_
      rintro _ _ ⟨rfl, rfl⟩
      refine z_ast 22 hB (by assumption) dX3_copy_21 rfl (vp_in_nI hlt hn) ?_
      refine z_s 25 hB dX3_copy_22 rfl rfl ?_
      refine z_j 2 hB dX3_copy_25 (by decide) ?_
      have e1 : z_rd (z_sa (z_I zS) a j (fun k => z_I zS a2 k)) a2 n (nI j) = z_I zS a2 j := by
        unfold z_rd
        rw [if_pos ⟨nI_pos' (by omega), (nI_ltI (by omega) hn).mpr hlt⟩, nI_clamp (by omega)]
        simp only [z_sa, Nat.lt_irrefl, and_false, if_false]
      exact z_eq (ih hlt) (by rw [← z_inc]; rfl) rfl (by rw [← z_sa_succ, nI_clamp (by omega), ← e1]; rfl)) 0 (Nat.zero_le n)
  refine z_s 1 hB dX3_copy_0 rfl rfl ?_
  refine z_s 2 hB dX3_copy_1 rfl rfl ?_
  exact z_eq loop rfl rfl (by rw [z_sa_0]; rfl)

theorem c_J6_bitCount_0f7a4 {g : z_U} (d : Nat) {zS : z_S} {x : Int32} : z_C g (d) 0 0 mJ6_bitCount_0f7a4 [.int x] zS (fun r zS' => zS = zS' ∧ r = some (.int (z_bc x))) := by
  refine z_enter [some (.int x)] rfl rfl (Nat.le_of_ble_eq_true rfl) rfl (fun zX hM => ?_)
  have hB : z_B g zX RJ6 cJ6_bitCount_0f7a4 1 := hM.1
  refine z_s 1 hB dJ6_bitCount_0f7a4_0 rfl rfl ?_
  refine z_s 2 hB dJ6_bitCount_0f7a4_1 rfl rfl ?_
  refine z_s 3 hB dJ6_bitCount_0f7a4_2 rfl rfl ?_
  refine z_s 4 hB dJ6_bitCount_0f7a4_3 rfl rfl ?_
  refine z_ldcw 7 hB vJ6_265 dJ6_bitCount_0f7a4_4 rfl ?_
  refine z_s 8 hB dJ6_bitCount_0f7a4_7 rfl rfl ?_
  refine z_s 9 hB dJ6_bitCount_0f7a4_8 rfl rfl ?_
  refine z_s 10 hB dJ6_bitCount_0f7a4_9 rfl rfl ?_
  refine z_s 11 hB dJ6_bitCount_0f7a4_10 rfl rfl ?_
  refine z_ldcw 14 hB vJ6_266 dJ6_bitCount_0f7a4_11 rfl ?_
  refine z_s 15 hB dJ6_bitCount_0f7a4_14 rfl rfl ?_
  refine z_s 16 hB dJ6_bitCount_0f7a4_15 rfl rfl ?_
  refine z_s 17 hB dJ6_bitCount_0f7a4_16 rfl rfl ?_
  refine z_s 18 hB dJ6_bitCount_0f7a4_17 rfl rfl ?_
  refine z_ldcw 21 hB vJ6_266 dJ6_bitCount_0f7a4_18 rfl ?_
  refine z_s 22 hB dJ6_bitCount_0f7a4_21 rfl rfl ?_
  refine z_s 23 hB dJ6_bitCount_0f7a4_22 rfl rfl ?_
  refine z_s 24 hB dJ6_bitCount_0f7a4_23 rfl rfl ?_
  refine z_s 25 hB dJ6_bitCount_0f7a4_24 rfl rfl ?_
  refine z_s 26 hB dJ6_bitCount_0f7a4_25 rfl rfl ?_
  refine z_s 27 hB dJ6_bitCount_0f7a4_26 rfl rfl ?_
  refine z_s 28 hB dJ6_bitCount_0f7a4_27 rfl rfl ?_
  refine z_s 29 hB dJ6_bitCount_0f7a4_28 rfl rfl ?_
  refine z_ldcw 32 hB vJ6_267 dJ6_bitCount_0f7a4_29 rfl ?_
  refine z_s 33 hB dJ6_bitCount_0f7a4_32 rfl rfl ?_
  refine z_s 34 hB dJ6_bitCount_0f7a4_33 rfl rfl ?_
  refine z_s 35 hB dJ6_bitCount_0f7a4_34 rfl rfl ?_
  refine z_s 36 hB dJ6_bitCount_0f7a4_35 rfl rfl ?_
  refine z_s 38 hB dJ6_bitCount_0f7a4_36 rfl rfl ?_
  refine z_s 39 hB dJ6_bitCount_0f7a4_38 rfl rfl ?_
  refine z_s 40 hB dJ6_bitCount_0f7a4_39 rfl rfl ?_
  refine z_s 41 hB dJ6_bitCount_0f7a4_40 rfl rfl ?_
  refine z_s 42 hB dJ6_bitCount_0f7a4_41 rfl rfl ?_
  refine z_s 43 hB dJ6_bitCount_0f7a4_42 rfl rfl ?_
  refine z_s 45 hB dJ6_bitCount_0f7a4_43 rfl rfl ?_
  refine z_s 46 hB dJ6_bitCount_0f7a4_45 rfl rfl ?_
  refine z_s 47 hB dJ6_bitCount_0f7a4_46 rfl rfl ?_
  refine z_s 48 hB dJ6_bitCount_0f7a4_47 rfl rfl ?_
  refine z_s 49 hB dJ6_bitCount_0f7a4_48 rfl rfl ?_
  refine z_s 51 hB dJ6_bitCount_0f7a4_49 rfl rfl ?_
  refine z_s 52 hB dJ6_bitCount_0f7a4_51 rfl rfl ?_
  refine z_iret hM dJ6_bitCount_0f7a4_52 rfl ?_ rfl rfl
  first | exact ⟨rfl, rfl⟩ | exact rfl | simp_all

theorem c_X9_dividesBoth {g : z_U} (d : Nat) {zS : z_S} {d2 : Int32} {a : Int32} {b : Int32} : z_C g (d) 0 0 mX9_dividesBoth [.int d2, .int a, .int b] zS (fun r zS' => zS = zS' ∧ r = some (.int (if 0 < d2 ∧ a - a / d2 * d2 = 0 ∧ b - b / d2 * d2 = 0 then 1 else 0))) := by
  refine z_enter [some (.int d2), some (.int a), some (.int b)] rfl rfl (Nat.le_of_ble_eq_true rfl) rfl (fun zX hM => ?_)
  have hB : z_B g zX RX9 cX9_dividesBoth 3 := hM.1
  refine z_s 1 hB dX9_dividesBoth_0 rfl rfl ?_
  refine z_b 4 20 hB dX9_dividesBoth_1 rfl rfl (by decide) (fun c_1 => ?_) (fun c_1 => ?_)
  ·
    refine z_s 21 hB dX9_dividesBoth_20 rfl rfl ?_
    refine z_zret hM dX9_dividesBoth_21 rfl (by decide) ?_ rfl rfl
    first
      | exact ⟨rfl, by rw [if_pos ⟨by assumption, by assumption, by assumption⟩]⟩
      | exact ⟨rfl, by rw [if_neg (fun h => z_nlt0 (by assumption) h.1)]⟩
      | exact ⟨rfl, by rw [if_neg (fun h => by first | exact absurd h.2.1 (by assumption) | exact absurd h.2.2 (by assumption))]⟩
  ·
    refine z_s 5 hB dX9_dividesBoth_4 rfl rfl ?_
    refine z_s 6 hB dX9_dividesBoth_5 rfl rfl ?_
    refine z_irem 7 hB dX9_dividesBoth_6 rfl (fun h => by subst h; exact absurd c_1 (by decide)) ?_
    refine z_b 10 20 hB dX9_dividesBoth_7 rfl rfl (by decide) (fun c_7 => ?_) (fun c_7 => ?_)
    ·
      refine z_s 21 hB dX9_dividesBoth_20 rfl rfl ?_
      refine z_zret hM dX9_dividesBoth_21 rfl (by decide) ?_ rfl rfl
      first
        | exact ⟨rfl, by rw [if_pos ⟨by assumption, by assumption, by assumption⟩]⟩
        | exact ⟨rfl, by rw [if_neg (fun h => z_nlt0 (by assumption) h.1)]⟩
        | exact ⟨rfl, by rw [if_neg (fun h => by first | exact absurd h.2.1 (by assumption) | exact absurd h.2.2 (by assumption))]⟩
    ·
      refine z_s 11 hB dX9_dividesBoth_10 rfl rfl ?_
      refine z_s 12 hB dX9_dividesBoth_11 rfl rfl ?_
      refine z_irem 13 hB dX9_dividesBoth_12 rfl (fun h => by subst h; exact absurd c_1 (by decide)) ?_
      refine z_b 16 20 hB dX9_dividesBoth_13 rfl rfl (by decide) (fun c_13 => ?_) (fun c_13 => ?_)
      ·
        refine z_s 21 hB dX9_dividesBoth_20 rfl rfl ?_
        refine z_zret hM dX9_dividesBoth_21 rfl (by decide) ?_ rfl rfl
        first
          | exact ⟨rfl, by rw [if_pos ⟨by assumption, by assumption, by assumption⟩]⟩
          | exact ⟨rfl, by rw [if_neg (fun h => z_nlt0 (by assumption) h.1)]⟩
          | exact ⟨rfl, by rw [if_neg (fun h => by first | exact absurd h.2.1 (by assumption) | exact absurd h.2.2 (by assumption))]⟩
      ·
        refine z_s 17 hB dX9_dividesBoth_16 rfl rfl ?_
        refine z_j 21 hB dX9_dividesBoth_17 (by decide) ?_
        refine z_zret hM dX9_dividesBoth_21 rfl (by decide) ?_ rfl rfl
        first
          | exact ⟨rfl, by rw [if_pos ⟨by assumption, by assumption, by assumption⟩]⟩
          | exact ⟨rfl, by rw [if_neg (fun h => z_nlt0 (by assumption) h.1)]⟩
          | exact ⟨rfl, by rw [if_neg (fun h => by first | exact absurd h.2.1 (by assumption) | exact absurd h.2.2 (by assumption))]⟩

theorem c_X9_draw {g : z_U} (d : Nat) {zS : z_S} {z : Int32} {k : Int32} : z_C g (d) 0 0 mX9_draw [.int z, .int k] zS (fun r zS' => zS = zS' ∧ r = some (.int (z_draw z k))) := by
  refine z_enter [some (.int z), some (.int k), none, none] rfl rfl (Nat.le_of_ble_eq_true rfl) rfl (fun zX hM => ?_)
  have hB : z_B g zX RX9 cX9_draw 4 := hM.1
  refine z_ldc2 3 hB vX9_319 dX9_draw_0 rfl ?_
  refine z_s 4 hB dX9_draw_3 rfl rfl ?_
  refine z_s 5 hB dX9_draw_4 rfl rfl ?_
  refine z_s 6 hB dX9_draw_5 rfl rfl ?_
  refine z_ldc2 9 hB vX9_321 dX9_draw_6 rfl ?_
  refine z_s 10 hB dX9_draw_9 rfl rfl ?_
  refine z_s 11 hB dX9_draw_10 rfl rfl ?_
  refine z_s 12 hB dX9_draw_11 rfl rfl ?_
  refine z_s 13 hB dX9_draw_12 rfl rfl ?_
  refine z_s 14 hB dX9_draw_13 rfl rfl ?_
  refine z_s 15 hB dX9_draw_14 rfl rfl ?_
  refine z_s 16 hB dX9_draw_15 rfl rfl ?_
  refine z_s 17 hB dX9_draw_16 rfl rfl ?_
  refine z_s 18 hB dX9_draw_17 rfl rfl ?_
  refine z_s 19 hB dX9_draw_18 rfl rfl ?_
  refine z_ldc2 22 hB vX9_323 dX9_draw_19 rfl ?_
  refine z_lrem 23 hB dX9_draw_22 rfl (by decide) ?_
  refine z_ldc2 26 hB vX9_325 dX9_draw_23 rfl ?_
  refine z_ldiv 27 hB dX9_draw_26 rfl (by decide) ?_
  refine z_s 28 hB dX9_draw_27 rfl rfl ?_
  refine z_iret hM dX9_draw_28 rfl ?_ rfl rfl
  exact ⟨rfl, rfl⟩
