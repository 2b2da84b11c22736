/-! constructors -/
theorem z_to {g_z : z_U} {zX : z_X} {pc : Nat} {ls : List (Option Value)} {st_z : List Value} {cl_z sl_z : Nat} {zS : z_S} (S2 : z_S) (h1 : zS = S2) (h_z : z_W g_z zX pc ls st_z cl_z sl_z S2) : z_W g_z zX pc ls st_z cl_z sl_z zS := by
  subst h1; exact h_z
theorem z_is_new {zS : z_S} {q_z : Nat × Nat} : z_is (z_new zS q_z) (z_nx zS + 4) q_z := ⟨if_pos rfl, by omega, by show z_nx zS + 4 < z_nx zS + 1 + 4; omega⟩
theorem z_is.new {zS : z_S} {q_z p_z : Nat × Nat} {o : Nat} (h_z : z_is zS o p_z) : z_is (z_new zS q_z) o p_z := ⟨(if_neg (by have := h_z.2.2; show ¬ o = z_nx zS + 4; omega)).trans h_z.1, h_z.2.1, by have := h_z.2.2; show o < z_nx zS + 1 + 4; omega⟩
theorem z_is.pR {zS : z_S} {p_z : Nat × Nat} {o a_z k_z : Nat} {v_z : Option Nat} (h_z : z_is zS o p_z) : z_is (z_pR zS a_z k_z v_z) o p_z := h_z
/-- a row of n made, and put into o's field k -/
def z_rw (zS : z_S) (o k_z n_z : Nat) : z_S := z_pR (z_pR (z_new (z_new zS (0, 3)) (1, n_z)) (z_nx zS + 4) 0 (some (z_nx (z_new zS (0, 3)) + 4))) o k_z (some (z_nx zS + 4))
theorem z_is.rw {zS : z_S} {p_z : Nat × Nat} {o a_z k_z n_z : Nat} (h_z : z_is zS o p_z) : z_is (z_rw zS a_z k_z n_z) o p_z := h_z.new.new.pR.pR

theorem c_X3_init {g_z : z_U} {d_z : Nat} {zS : z_S} {o n_z : Nat} (ho : z_is zS o (0, 3)) (hn : n_z ≤ 200) (hn0 : 0 < n_z) : z_C g_z (d_z + 1) 1 n_z mX3_init [.ref o, .int (nI n_z)] zS (fun r_z zS' => r_z = none ∧ z_pR (z_new zS (1, n_z)) o 0 (some (z_nx zS + 4)) = zS') := by
  refine z_enter [some (.ref o), some (.int (nI n_z))] rfl rfl (Nat.le_of_ble_eq_true rfl) rfl (fun zX hM_z => ?_)
  have hB_z : z_B g_z zX RX3 cX3_init 2 := hM_z.1
  refine z_s 1 hB_z dX3_init_0 rfl rfl ?_
  refine z_objI 4 hB_z hM_z.2.1 kX3_1 o_inst o_code dX3_init_1 rfl (Nat.le_of_ble_eq_true rfl) ?_
  refine z_s 5 hB_z dX3_init_4 rfl rfl ?_
  refine z_s 6 hB_z dX3_init_5 rfl rfl ?_
  refine z_b 9 13 hB_z dX3_init_6 rfl rfl (by decide) (fun c_6 => ?_) (fun c_6 => ?_)
  ·
    exact absurd (show nI 0 < nI n_z from (nI_ltI (by decide) (by omega)).mpr hn0) (Int32.not_lt.mpr c_6)
  ·
    refine z_s 10 hB_z dX3_init_9 rfl rfl ?_
    refine z_j 14 hB_z dX3_init_10 (by decide) ?_
    refine z_nrow 16 hB_z hM_z.2.1 a_int dX3_init_14 rfl (nI_pos (by omega)) (nI_clamp (by omega)) (by omega) (by omega) (by omega) ?_
    refine z_putR 19 hB_z fX3_7 ho.new dX3_init_16 rfl rfl (Or.inr ⟨hM_z.2.2.2.2.2, rfl⟩) ?_
    refine z_vret hM_z dX3_init_19 rfl ?_ rfl (Nat.zero_add _)
    exact ⟨rfl, rfl⟩

def z_mkX8 (zS : z_S) (o : Nat) : z_S := z_pR (z_new zS (1, 200)) o 0 (some (z_nx zS + 4))
theorem z_is.mkX8 {zS : z_S} {p_z : Nat × Nat} {o a_z : Nat} (h_z : z_is zS o p_z) : z_is (z_mkX8 zS a_z) o p_z := h_z.new.pR
theorem c_X8_init {g_z : z_U} {d_z : Nat} {zS : z_S} {o : Nat} (ho : z_is zS o (0, 8)) : z_C g_z (d_z + 1) 1 200 mX8_init [.ref o] zS (fun r_z zS' => r_z = none ∧ z_mkX8 zS o = zS') := by
  refine z_enter [some (.ref o)] rfl rfl (Nat.le_of_ble_eq_true rfl) rfl (fun zX hM_z => ?_)
  have hB_z : z_B g_z zX RX8 cX8_init 1 := hM_z.1
  refine z_s 1 hB_z dX8_init_0 rfl rfl ?_
  refine z_objI 4 hB_z hM_z.2.1 kX8_3 o_inst o_code dX8_init_1 rfl (Nat.le_of_ble_eq_true rfl) ?_
  refine z_s 5 hB_z dX8_init_4 rfl rfl ?_
  refine z_s 8 hB_z dX8_init_5 rfl rfl ?_
  refine z_nrow 10 hB_z hM_z.2.1 a_int dX8_init_8 rfl (by decide) rfl (by decide) (Nat.le_of_ble_eq_true rfl) (Nat.le_of_ble_eq_true rfl) ?_
  refine z_putR 13 hB_z fX8_9 (ho.new) dX8_init_10 rfl rfl (Or.inr ⟨hM_z.2.2.2.2.2, rfl⟩) ?_
  refine z_vret hM_z dX8_init_13 rfl ?_ rfl rfl
  exact ⟨rfl, rfl⟩

def z_mkX5 (zS : z_S) (o : Nat) : z_S := z_rw (z_rw (z_rw (z_rw (z_rw (z_rw (z_rw (z_rw (z_rw zS o 0 6) o 1 6) o 2 6) o 3 6) o 4 10) o 5 10) o 6 10) o 7 10) o 8 6
theorem z_is.mkX5 {zS : z_S} {p_z : Nat × Nat} {o a_z : Nat} (h_z : z_is zS o p_z) : z_is (z_mkX5 zS a_z) o p_z := h_z.rw.rw.rw.rw.rw.rw.rw.rw.rw
set_option maxHeartbeats 1000000 in
theorem c_X5_init {g_z : z_U} {d_z : Nat} {zS : z_S} {o : Nat} (ho : z_is zS o (0, 5)) : z_C g_z (d_z + 2) 18 79 mX5_init [.ref o] zS (fun r_z zS' => r_z = none ∧ z_mkX5 zS o = zS') := by
  refine z_enter [some (.ref o)] rfl rfl (Nat.le_of_ble_eq_true rfl) rfl (fun zX hM_z => ?_)
  have hB_z : z_B g_z zX RX5 cX5_init 1 := hM_z.1
  refine z_s 1 hB_z dX5_init_0 rfl rfl ?_
  refine z_objI 4 hB_z hM_z.2.1 kX5_3 o_inst o_code dX5_init_1 rfl (Nat.le_of_ble_eq_true rfl) ?_
  refine z_s 5 hB_z dX5_init_4 rfl rfl ?_
  refine z_nobj 8 hB_z hM_z.2.1 lX5_9 dX5_init_5 rfl (Nat.le_of_ble_eq_true rfl) (Nat.le_of_ble_eq_true rfl) ?_
  refine z_s 9 hB_z dX5_init_8 rfl rfl ?_
  refine z_s 11 hB_z dX5_init_9 rfl rfl ?_
  refine z_callI 14 hB_z hM_z.2.1 kX5_11 dX5_init_11 rfl (c_X3_init (d_z := 0) (z_is_new) (by decide) (by decide)) (by omega) rfl rfl (Nat.le_of_ble_eq_true rfl) ⟨Nat.le_of_ble_eq_true rfl, Nat.le_of_ble_eq_true rfl⟩ ?_
  rintro _ _ ⟨rfl, rfl⟩
  refine z_putR 17 hB_z fX5_14 (ho.new.new.pR) dX5_init_14 rfl rfl (Or.inr ⟨hM_z.2.2.2.2.2, rfl⟩) ?_
  refine z_to (z_rw zS o 0 6) rfl ?_
  refine z_s 18 hB_z dX5_init_17 rfl rfl ?_
  refine z_nobj 21 hB_z hM_z.2.1 lX5_9 dX5_init_18 rfl (Nat.le_of_ble_eq_true rfl) (Nat.le_of_ble_eq_true rfl) ?_
  refine z_s 22 hB_z dX5_init_21 rfl rfl ?_
  refine z_s 24 hB_z dX5_init_22 rfl rfl ?_
  refine z_callI 27 hB_z hM_z.2.1 kX5_11 dX5_init_24 rfl (c_X3_init (d_z := 0) (z_is_new) (by decide) (by decide)) (by omega) rfl rfl (Nat.le_of_ble_eq_true rfl) ⟨Nat.le_of_ble_eq_true rfl, Nat.le_of_ble_eq_true rfl⟩ ?_
  rintro _ _ ⟨rfl, rfl⟩
  refine z_putR 30 hB_z fX5_20 (ho.rw.new.new.pR) dX5_init_27 rfl rfl (Or.inr ⟨hM_z.2.2.2.2.2, rfl⟩) ?_
  refine z_to (z_rw (z_rw zS o 0 6) o 1 6) rfl ?_
  refine z_s 31 hB_z dX5_init_30 rfl rfl ?_
  refine z_nobj 34 hB_z hM_z.2.1 lX5_9 dX5_init_31 rfl (Nat.le_of_ble_eq_true rfl) (Nat.le_of_ble_eq_true rfl) ?_
  refine z_s 35 hB_z dX5_init_34 rfl rfl ?_
  refine z_s 37 hB_z dX5_init_35 rfl rfl ?_
  refine z_callI 40 hB_z hM_z.2.1 kX5_11 dX5_init_37 rfl (c_X3_init (d_z := 0) (z_is_new) (by decide) (by decide)) (by omega) rfl rfl (Nat.le_of_ble_eq_true rfl) ⟨Nat.le_of_ble_eq_true rfl, Nat.le_of_ble_eq_true rfl⟩ ?_
  rintro _ _ ⟨rfl, rfl⟩
  refine z_putR 43 hB_z fX5_23 (ho.rw.rw.new.new.pR) dX5_init_40 rfl rfl (Or.inr ⟨hM_z.2.2.2.2.2, rfl⟩) ?_
  refine z_to (z_rw (z_rw (z_rw zS o 0 6) o 1 6) o 2 6) rfl ?_
  refine z_s 44 hB_z dX5_init_43 rfl rfl ?_
  refine z_nobj 47 hB_z hM_z.2.1 lX5_9 dX5_init_44 rfl (Nat.le_of_ble_eq_true rfl) (Nat.le_of_ble_eq_true rfl) ?_
  refine z_s 48 hB_z dX5_init_47 rfl rfl ?_
  refine z_s 50 hB_z dX5_init_48 rfl rfl ?_
  refine z_callI 53 hB_z hM_z.2.1 kX5_11 dX5_init_50 rfl (c_X3_init (d_z := 0) (z_is_new) (by decide) (by decide)) (by omega) rfl rfl (Nat.le_of_ble_eq_true rfl) ⟨Nat.le_of_ble_eq_true rfl, Nat.le_of_ble_eq_true rfl⟩ ?_
  rintro _ _ ⟨rfl, rfl⟩
  refine z_putR 56 hB_z fX5_26 (ho.rw.rw.rw.new.new.pR) dX5_init_53 rfl rfl (Or.inr ⟨hM_z.2.2.2.2.2, rfl⟩) ?_
  refine z_to (z_rw (z_rw (z_rw (z_rw zS o 0 6) o 1 6) o 2 6) o 3 6) rfl ?_
  refine z_s 57 hB_z dX5_init_56 rfl rfl ?_
  refine z_nobj 60 hB_z hM_z.2.1 lX5_9 dX5_init_57 rfl (Nat.le_of_ble_eq_true rfl) (Nat.le_of_ble_eq_true rfl) ?_
  refine z_s 61 hB_z dX5_init_60 rfl rfl ?_
  refine z_s 63 hB_z dX5_init_61 rfl rfl ?_
  refine z_callI 66 hB_z hM_z.2.1 kX5_11 dX5_init_63 rfl (c_X3_init (d_z := 0) (z_is_new) (by decide) (by decide)) (by omega) rfl rfl (Nat.le_of_ble_eq_true rfl) ⟨Nat.le_of_ble_eq_true rfl, Nat.le_of_ble_eq_true rfl⟩ ?_
  rintro _ _ ⟨rfl, rfl⟩
  refine z_putR 69 hB_z fX5_29 (ho.rw.rw.rw.rw.new.new.pR) dX5_init_66 rfl rfl (Or.inr ⟨hM_z.2.2.2.2.2, rfl⟩) ?_
  refine z_to (z_rw (z_rw (z_rw (z_rw (z_rw zS o 0 6) o 1 6) o 2 6) o 3 6) o 4 10) rfl ?_
  refine z_s 70 hB_z dX5_init_69 rfl rfl ?_
  refine z_nobj 73 hB_z hM_z.2.1 lX5_9 dX5_init_70 rfl (Nat.le_of_ble_eq_true rfl) (Nat.le_of_ble_eq_true rfl) ?_
  refine z_s 74 hB_z dX5_init_73 rfl rfl ?_
  refine z_s 76 hB_z dX5_init_74 rfl rfl ?_
  refine z_callI 79 hB_z hM_z.2.1 kX5_11 dX5_init_76 rfl (c_X3_init (d_z := 0) (z_is_new) (by decide) (by decide)) (by omega) rfl rfl (Nat.le_of_ble_eq_true rfl) ⟨Nat.le_of_ble_eq_true rfl, Nat.le_of_ble_eq_true rfl⟩ ?_
  rintro _ _ ⟨rfl, rfl⟩
  refine z_putR 82 hB_z fX5_32 (ho.rw.rw.rw.rw.rw.new.new.pR) dX5_init_79 rfl rfl (Or.inr ⟨hM_z.2.2.2.2.2, rfl⟩) ?_
  refine z_to (z_rw (z_rw (z_rw (z_rw (z_rw (z_rw zS o 0 6) o 1 6) o 2 6) o 3 6) o 4 10) o 5 10) rfl ?_
  refine z_s 83 hB_z dX5_init_82 rfl rfl ?_
  refine z_nobj 86 hB_z hM_z.2.1 lX5_9 dX5_init_83 rfl (Nat.le_of_ble_eq_true rfl) (Nat.le_of_ble_eq_true rfl) ?_
  refine z_s 87 hB_z dX5_init_86 rfl rfl ?_
  refine z_s 89 hB_z dX5_init_87 rfl rfl ?_
  refine z_callI 92 hB_z hM_z.2.1 kX5_11 dX5_init_89 rfl (c_X3_init (d_z := 0) (z_is_new) (by decide) (by decide)) (by omega) rfl rfl (Nat.le_of_ble_eq_true rfl) ⟨Nat.le_of_ble_eq_true rfl, Nat.le_of_ble_eq_true rfl⟩ ?_
  rintro _ _ ⟨rfl, rfl⟩
  refine z_putR 95 hB_z fX5_35 (ho.rw.rw.rw.rw.rw.rw.new.new.pR) dX5_init_92 rfl rfl (Or.inr ⟨hM_z.2.2.2.2.2, rfl⟩) ?_
  refine z_to (z_rw (z_rw (z_rw (z_rw (z_rw (z_rw (z_rw zS o 0 6) o 1 6) o 2 6) o 3 6) o 4 10) o 5 10) o 6 10) rfl ?_
  refine z_s 96 hB_z dX5_init_95 rfl rfl ?_
  refine z_nobj 99 hB_z hM_z.2.1 lX5_9 dX5_init_96 rfl (Nat.le_of_ble_eq_true rfl) (Nat.le_of_ble_eq_true rfl) ?_
  refine z_s 100 hB_z dX5_init_99 rfl rfl ?_
  refine z_s 102 hB_z dX5_init_100 rfl rfl ?_
  refine z_callI 105 hB_z hM_z.2.1 kX5_11 dX5_init_102 rfl (c_X3_init (d_z := 0) (z_is_new) (by decide) (by decide)) (by omega) rfl rfl (Nat.le_of_ble_eq_true rfl) ⟨Nat.le_of_ble_eq_true rfl, Nat.le_of_ble_eq_true rfl⟩ ?_
  rintro _ _ ⟨rfl, rfl⟩
  refine z_putR 108 hB_z fX5_38 (ho.rw.rw.rw.rw.rw.rw.rw.new.new.pR) dX5_init_105 rfl rfl (Or.inr ⟨hM_z.2.2.2.2.2, rfl⟩) ?_
  refine z_to (z_rw (z_rw (z_rw (z_rw (z_rw (z_rw (z_rw (z_rw zS o 0 6) o 1 6) o 2 6) o 3 6) o 4 10) o 5 10) o 6 10) o 7 10) rfl ?_
  refine z_s 109 hB_z dX5_init_108 rfl rfl ?_
  refine z_nobj 112 hB_z hM_z.2.1 lX5_9 dX5_init_109 rfl (Nat.le_of_ble_eq_true rfl) (Nat.le_of_ble_eq_true rfl) ?_
  refine z_s 113 hB_z dX5_init_112 rfl rfl ?_
  refine z_s 115 hB_z dX5_init_113 rfl rfl ?_
  refine z_callI 118 hB_z hM_z.2.1 kX5_11 dX5_init_115 rfl (c_X3_init (d_z := 0) (z_is_new) (by decide) (by decide)) (by omega) rfl rfl (Nat.le_of_ble_eq_true rfl) ⟨Nat.le_of_ble_eq_true rfl, Nat.le_of_ble_eq_true rfl⟩ ?_
  rintro _ _ ⟨rfl, rfl⟩
  refine z_putR 121 hB_z fX5_41 (ho.rw.rw.rw.rw.rw.rw.rw.rw.new.new.pR) dX5_init_118 rfl rfl (Or.inr ⟨hM_z.2.2.2.2.2, rfl⟩) ?_
  refine z_to (z_rw (z_rw (z_rw (z_rw (z_rw (z_rw (z_rw (z_rw (z_rw zS o 0 6) o 1 6) o 2 6) o 3 6) o 4 10) o 5 10) o 6 10) o 7 10) o 8 6) rfl ?_
  refine z_vret hM_z dX5_init_121 rfl ?_ rfl rfl
  exact ⟨rfl, rfl⟩

def z_mkX7 (zS : z_S) (o : Nat) : z_S := z_rw zS o 6 6
theorem z_is.mkX7 {zS : z_S} {p_z : Nat × Nat} {o a_z : Nat} (h_z : z_is zS o p_z) : z_is (z_mkX7 zS a_z) o p_z := h_z.rw
theorem c_X7_init {g_z : z_U} {d_z : Nat} {zS : z_S} {o : Nat} (ho : z_is zS o (0, 7)) : z_C g_z (d_z + 2) 2 7 mX7_init [.ref o] zS (fun r_z zS' => r_z = none ∧ z_mkX7 zS o = zS') := by
  refine z_enter [some (.ref o)] rfl rfl (Nat.le_of_ble_eq_true rfl) rfl (fun zX hM_z => ?_)
  have hB_z : z_B g_z zX RX7 cX7_init 1 := hM_z.1
  refine z_s 1 hB_z dX7_init_0 rfl rfl ?_
  refine z_objI 4 hB_z hM_z.2.1 kX7_3 o_inst o_code dX7_init_1 rfl (Nat.le_of_ble_eq_true rfl) ?_
  refine z_s 5 hB_z dX7_init_4 rfl rfl ?_
  refine z_nobj 8 hB_z hM_z.2.1 lX7_9 dX7_init_5 rfl (Nat.le_of_ble_eq_true rfl) (Nat.le_of_ble_eq_true rfl) ?_
  refine z_s 9 hB_z dX7_init_8 rfl rfl ?_
  refine z_s 11 hB_z dX7_init_9 rfl rfl ?_
  refine z_callI 14 hB_z hM_z.2.1 kX7_11 dX7_init_11 rfl (c_X3_init (d_z := 0) (z_is_new) (by decide) (by decide)) (by omega) rfl rfl (Nat.le_of_ble_eq_true rfl) ⟨Nat.le_of_ble_eq_true rfl, Nat.le_of_ble_eq_true rfl⟩ ?_
  rintro _ _ ⟨rfl, rfl⟩
  refine z_putR 17 hB_z fX7_14 (ho.new.new.pR) dX7_init_14 rfl rfl (Or.inr ⟨hM_z.2.2.2.2.2, rfl⟩) ?_
  refine z_to (z_rw zS o 6 6) rfl ?_
  refine z_vret hM_z dX7_init_17 rfl ?_ rfl rfl
  exact ⟨rfl, rfl⟩

def z_mkX2 (zS : z_S) (o a_z b_z : Nat) : z_S := z_pR (z_pR (z_rw zS o 2 4) o 0 (some a_z)) o 1 (some b_z)
theorem z_is.mkX2 {zS : z_S} {p_z : Nat × Nat} {o q_z a_z b_z : Nat} (h_z : z_is zS o p_z) : z_is (z_mkX2 zS q_z a_z b_z) o p_z := h_z.rw.pR.pR
theorem c_X2_init {g_z : z_U} {d_z : Nat} {zS : z_S} {o a_z b_z : Nat} (ho : z_is zS o (0, 2)) : z_C g_z (d_z + 2) 2 5 mX2_init [.ref o, .ref a_z, .ref b_z] zS (fun r_z zS' => r_z = none ∧ z_mkX2 zS o a_z b_z = zS') := by
  refine z_enter [some (.ref o), some (.ref a_z), some (.ref b_z)] rfl rfl (Nat.le_of_ble_eq_true rfl) rfl (fun zX hM_z => ?_)
  have hB_z : z_B g_z zX RX2 cX2_init 3 := hM_z.1
  refine z_s 1 hB_z dX2_init_0 rfl rfl ?_
  refine z_objI 4 hB_z hM_z.2.1 kX2_3 o_inst o_code dX2_init_1 rfl (Nat.le_of_ble_eq_true rfl) ?_
  refine z_s 5 hB_z dX2_init_4 rfl rfl ?_
  refine z_nobj 8 hB_z hM_z.2.1 lX2_9 dX2_init_5 rfl (Nat.le_of_ble_eq_true rfl) (Nat.le_of_ble_eq_true rfl) ?_
  refine z_s 9 hB_z dX2_init_8 rfl rfl ?_
  refine z_s 10 hB_z dX2_init_9 rfl rfl ?_
  refine z_callI 13 hB_z hM_z.2.1 kX2_11 dX2_init_10 rfl (c_X3_init (d_z := 0) (z_is_new) (by decide) (by decide)) (by omega) rfl rfl (Nat.le_of_ble_eq_true rfl) ⟨Nat.le_of_ble_eq_true rfl, Nat.le_of_ble_eq_true rfl⟩ ?_
  rintro _ _ ⟨rfl, rfl⟩
  refine z_putR 16 hB_z fX2_14 (ho.new.new.pR) dX2_init_13 rfl rfl (Or.inr ⟨hM_z.2.2.2.2.2, rfl⟩) ?_
  refine z_to (z_rw zS o 2 4) rfl ?_
  refine z_s 17 hB_z dX2_init_16 rfl rfl ?_
  refine z_s 18 hB_z dX2_init_17 rfl rfl ?_
  refine z_putR 21 hB_z fX2_20 (ho.rw) dX2_init_18 rfl rfl (Or.inr ⟨hM_z.2.2.2.2.2, rfl⟩) ?_
  refine z_s 22 hB_z dX2_init_21 rfl rfl ?_
  refine z_s 23 hB_z dX2_init_22 rfl rfl ?_
  refine z_putR 26 hB_z fX2_24 (ho.rw.pR) dX2_init_23 rfl rfl (Or.inr ⟨hM_z.2.2.2.2.2, rfl⟩) ?_
  refine z_vret hM_z dX2_init_26 rfl ?_ rfl rfl
  exact ⟨rfl, rfl⟩

def z_mkX1 (zS : z_S) (o a_z : Nat) : z_S := z_pR (z_rw zS o 1 10) o 0 (some a_z)
theorem z_is.mkX1 {zS : z_S} {p_z : Nat × Nat} {o q_z a_z : Nat} (h_z : z_is zS o p_z) : z_is (z_mkX1 zS q_z a_z) o p_z := h_z.rw.pR
theorem c_X1_init {g_z : z_U} {d_z : Nat} {zS : z_S} {o a_z : Nat} (ho : z_is zS o (0, 1)) : z_C g_z (d_z + 2) 2 11 mX1_init [.ref o, .ref a_z] zS (fun r_z zS' => r_z = none ∧ z_mkX1 zS o a_z = zS') := by
  refine z_enter [some (.ref o), some (.ref a_z)] rfl rfl (Nat.le_of_ble_eq_true rfl) rfl (fun zX hM_z => ?_)
  have hB_z : z_B g_z zX RX1 cX1_init 2 := hM_z.1
  refine z_s 1 hB_z dX1_init_0 rfl rfl ?_
  refine z_objI 4 hB_z hM_z.2.1 kX1_3 o_inst o_code dX1_init_1 rfl (Nat.le_of_ble_eq_true rfl) ?_
  refine z_s 5 hB_z dX1_init_4 rfl rfl ?_
  refine z_nobj 8 hB_z hM_z.2.1 lX1_9 dX1_init_5 rfl (Nat.le_of_ble_eq_true rfl) (Nat.le_of_ble_eq_true rfl) ?_
  refine z_s 9 hB_z dX1_init_8 rfl rfl ?_
  refine z_s 11 hB_z dX1_init_9 rfl rfl ?_
  refine z_callI 14 hB_z hM_z.2.1 kX1_11 dX1_init_11 rfl (c_X3_init (d_z := 0) (z_is_new) (by decide) (by decide)) (by omega) rfl rfl (Nat.le_of_ble_eq_true rfl) ⟨Nat.le_of_ble_eq_true rfl, Nat.le_of_ble_eq_true rfl⟩ ?_
  rintro _ _ ⟨rfl, rfl⟩
  refine z_putR 17 hB_z fX1_14 (ho.new.new.pR) dX1_init_14 rfl rfl (Or.inr ⟨hM_z.2.2.2.2.2, rfl⟩) ?_
  refine z_to (z_rw zS o 1 10) rfl ?_
  refine z_s 18 hB_z dX1_init_17 rfl rfl ?_
  refine z_s 19 hB_z dX1_init_18 rfl rfl ?_
  refine z_putR 22 hB_z fX1_20 (ho.rw) dX1_init_19 rfl rfl (Or.inr ⟨hM_z.2.2.2.2.2, rfl⟩) ?_
  refine z_vret hM_z dX1_init_22 rfl ?_ rfl rfl
  exact ⟨rfl, rfl⟩

def z_mkX6 (zS : z_S) (o : Nat) : z_S := z_rw (z_rw (z_rw zS o 0 8) o 1 8) o 2 8
theorem z_is.mkX6 {zS : z_S} {p_z : Nat × Nat} {o a_z : Nat} (h_z : z_is zS o p_z) : z_is (z_mkX6 zS a_z) o p_z := h_z.rw.rw.rw
theorem c_X6_init {g_z : z_U} {d_z : Nat} {zS : z_S} {o : Nat} (ho : z_is zS o (0, 6)) : z_C g_z (d_z + 2) 6 27 mX6_init [.ref o] zS (fun r_z zS' => r_z = none ∧ z_mkX6 zS o = zS') := by
  refine z_enter [some (.ref o)] rfl rfl (Nat.le_of_ble_eq_true rfl) rfl (fun zX hM_z => ?_)
  have hB_z : z_B g_z zX RX6 cX6_init 1 := hM_z.1
  refine z_s 1 hB_z dX6_init_0 rfl rfl ?_
  refine z_objI 4 hB_z hM_z.2.1 kX6_3 o_inst o_code dX6_init_1 rfl (Nat.le_of_ble_eq_true rfl) ?_
  refine z_s 5 hB_z dX6_init_4 rfl rfl ?_
  refine z_nobj 8 hB_z hM_z.2.1 lX6_9 dX6_init_5 rfl (Nat.le_of_ble_eq_true rfl) (Nat.le_of_ble_eq_true rfl) ?_
  refine z_s 9 hB_z dX6_init_8 rfl rfl ?_
  refine z_s 11 hB_z dX6_init_9 rfl rfl ?_
  refine z_callI 14 hB_z hM_z.2.1 kX6_11 dX6_init_11 rfl (c_X3_init (d_z := 0) (z_is_new) (by decide) (by decide)) (by omega) rfl rfl (Nat.le_of_ble_eq_true rfl) ⟨Nat.le_of_ble_eq_true rfl, Nat.le_of_ble_eq_true rfl⟩ ?_
  rintro _ _ ⟨rfl, rfl⟩
  refine z_putR 17 hB_z fX6_14 (ho.new.new.pR) dX6_init_14 rfl rfl (Or.inr ⟨hM_z.2.2.2.2.2, rfl⟩) ?_
  refine z_to (z_rw zS o 0 8) rfl ?_
  refine z_s 18 hB_z dX6_init_17 rfl rfl ?_
  refine z_nobj 21 hB_z hM_z.2.1 lX6_9 dX6_init_18 rfl (Nat.le_of_ble_eq_true rfl) (Nat.le_of_ble_eq_true rfl) ?_
  refine z_s 22 hB_z dX6_init_21 rfl rfl ?_
  refine z_s 24 hB_z dX6_init_22 rfl rfl ?_
  refine z_callI 27 hB_z hM_z.2.1 kX6_11 dX6_init_24 rfl (c_X3_init (d_z := 0) (z_is_new) (by decide) (by decide)) (by omega) rfl rfl (Nat.le_of_ble_eq_true rfl) ⟨Nat.le_of_ble_eq_true rfl, Nat.le_of_ble_eq_true rfl⟩ ?_
  rintro _ _ ⟨rfl, rfl⟩
  refine z_putR 30 hB_z fX6_20 (ho.rw.new.new.pR) dX6_init_27 rfl rfl (Or.inr ⟨hM_z.2.2.2.2.2, rfl⟩) ?_
  refine z_to (z_rw (z_rw zS o 0 8) o 1 8) rfl ?_
  refine z_s 31 hB_z dX6_init_30 rfl rfl ?_
  refine z_nobj 34 hB_z hM_z.2.1 lX6_9 dX6_init_31 rfl (Nat.le_of_ble_eq_true rfl) (Nat.le_of_ble_eq_true rfl) ?_
  refine z_s 35 hB_z dX6_init_34 rfl rfl ?_
  refine z_s 37 hB_z dX6_init_35 rfl rfl ?_
  refine z_callI 40 hB_z hM_z.2.1 kX6_11 dX6_init_37 rfl (c_X3_init (d_z := 0) (z_is_new) (by decide) (by decide)) (by omega) rfl rfl (Nat.le_of_ble_eq_true rfl) ⟨Nat.le_of_ble_eq_true rfl, Nat.le_of_ble_eq_true rfl⟩ ?_
  rintro _ _ ⟨rfl, rfl⟩
  refine z_putR 43 hB_z fX6_23 (ho.rw.rw.new.new.pR) dX6_init_40 rfl rfl (Or.inr ⟨hM_z.2.2.2.2.2, rfl⟩) ?_
  refine z_to (z_rw (z_rw (z_rw zS o 0 8) o 1 8) o 2 8) rfl ?_
  refine z_vret hM_z dX6_init_43 rfl ?_ rfl rfl
  exact ⟨rfl, rfl⟩

theorem c_X0_init {g_z : z_U} {d_z : Nat} {zS : z_S} {o : Nat} (ho : z_is zS o (0, 0)) : z_C g_z (d_z + 1) 0 0 mX0_init [.ref o] zS (fun r_z zS' => r_z = none ∧ zS = zS') := by
  refine z_enter [some (.ref o)] rfl rfl (Nat.le_of_ble_eq_true rfl) rfl (fun zX hM_z => ?_)
  have hB_z : z_B g_z zX RX0 cX0_init 1 := hM_z.1
  refine z_s 1 hB_z dX0_init_0 rfl rfl ?_
  refine z_objI 4 hB_z hM_z.2.1 kX0_3 o_inst o_code dX0_init_1 rfl (Nat.le_of_ble_eq_true rfl) ?_
  refine z_vret hM_z dX0_init_4 rfl ?_ rfl rfl
  exact ⟨rfl, rfl⟩

/-- j states made, into the row a -/
def z_mkSt (zS : z_S) (o n_z : Nat) : Nat → z_S
  | 0 => z_pR (z_new zS (2, n_z)) o 0 (some (z_nx zS + 4))
  | j_z + 1 => z_pR (z_mkX7 (z_new (z_mkSt zS o n_z j_z) (0, 7)) (z_nx (z_mkSt zS o n_z j_z) + 4)) (z_nx zS + 4) j_z (some (z_nx (z_mkSt zS o n_z j_z) + 4))
theorem z_is.mkSt {zS : z_S} {p_z : Nat × Nat} {o q_z n_z : Nat} (h_z : z_is zS o p_z) : ∀ j_z, z_is (z_mkSt zS q_z n_z j_z) o p_z
  | 0 => h_z.new.pR
  | j_z + 1 => (z_is.mkSt h_z j_z).new.mkX7.pR
theorem z_is_mkSt {zS : z_S} {o n_z : Nat} : ∀ j_z, z_is (z_mkSt zS o n_z j_z) (z_nx zS + 4) (2, n_z)
  | 0 => z_is_new.pR
  | j_z + 1 => (z_is_mkSt j_z).new.mkX7.pR
theorem z_mkSt_R {zS : z_S} {o n_z : Nat} (ho : o < z_nx zS + 4) : ∀ j_z, z_R (z_mkSt zS o n_z j_z) o 0 = some (z_nx zS + 4) ∧ z_nx zS + 1 ≤ z_nx (z_mkSt zS o n_z j_z)
  | 0 => ⟨z_u2_same _ _ _ _, Nat.le_refl _⟩
  | j_z + 1 => by
    obtain ⟨h1, h2⟩ := z_mkSt_R (n_z := n_z) ho j_z
    refine ⟨?_, by show z_nx zS + 1 ≤ z_nx (z_mkSt zS o n_z j_z) + 1 + 1 + 1; omega⟩
    show z_R (z_pR (z_rw (z_new (z_mkSt zS o n_z j_z) (0, 7)) (z_nx (z_mkSt zS o n_z j_z) + 4) 6 6) (z_nx zS + 4) j_z _) o 0 = _
    rw [← h1]
    refine (if_neg (by omega)).trans ((if_neg (by omega)).trans ((if_neg (by show ¬ (o = z_nx (z_mkSt zS o n_z j_z) + 1 + 4 ∧ _); omega)).trans ((if_neg (by show ¬ o = z_nx (z_mkSt zS o n_z j_z) + 1 + 1 + 4; omega)).trans ((if_neg (by show ¬ o = z_nx (z_mkSt zS o n_z j_z) + 1 + 4; omega)).trans (if_neg (by show ¬ o = z_nx (z_mkSt zS o n_z j_z) + 4; omega))))))
theorem z_eqk {g_z : z_U} {zX : z_X} {pc : Nat} {ls : List (Option Value)} {st_z : List Value} {cl_z sl_z cl_z' sl_z' : Nat} {zS : z_S} (h_z : z_W g_z zX pc ls st_z cl_z' sl_z' zS) (h1 : cl_z = cl_z') (h2 : sl_z = sl_z') : z_W g_z zX pc ls st_z cl_z sl_z zS := by
  subst h1; subst h2; exact h_z
set_option maxHeartbeats 1000000 in
theorem c_X4_init {g_z : z_U} {d_z : Nat} {zS : z_S} {o n_z : Nat} (ho : z_is zS o (0, 4)) (hn : n_z ≤ 200) (hn0 : 0 < n_z) : z_C g_z (d_z + 3) (1 + 3 * n_z) (n_z + 14 * n_z) mX4_init [.ref o, .int (nI n_z)] zS (fun r_z zS' => r_z = none ∧ z_mkSt zS o n_z n_z = zS') := by
  refine z_enter [some (.ref o), some (.int (nI n_z)), none] rfl rfl (Nat.le_of_ble_eq_true rfl) rfl (fun zX hM_z => ?_)
  have hB_z : z_B g_z zX RX4 cX4_init 3 := hM_z.1
  have loop := z_loop (fun j_z => z_W g_z zX 22 [some (.ref o), some (.int (nI n_z)), some (.int (nI j_z))] [] (1 + 3 * j_z) (n_z + 14 * j_z) (z_mkSt zS o n_z j_z)) n_z (fun j_z hj ih_z => by
    refine z_s 23 hB_z dX4_init_22 rfl rfl ?_
    refine z_s 24 hB_z dX4_init_23 rfl rfl ?_
    refine z_getR 27 hB_z fX4_9 (ho.mkSt j_z) dX4_init_24 rfl rfl (z_mkSt_R ho.2.2 j_z).1 ?_
    refine z_alenQ 28 hB_z (z_is_mkSt j_z) dX4_init_27 rfl ?_
    refine z_b 31 50 hB_z dX4_init_28 rfl rfl (by decide) (fun c_28 => ?_) (fun c_28 => ?_)
    ·
      have hj2 : j_z = n_z := by
        have := (nI_leI (by omega) (by omega)).mp (show nI n_z ≤ nI j_z from c_28)
        omega
      subst hj2
      refine z_vret hM_z dX4_init_50 rfl ?_ rfl rfl
      exact ⟨rfl, rfl⟩
    ·
      have hj2 : j_z < n_z := (nI_ltI (by omega) (by omega)).mp (show nI j_z < nI n_z from c_28)
      refine z_s 32 hB_z dX4_init_31 rfl rfl ?_
      refine z_getR 35 hB_z fX4_9 (ho.mkSt j_z) dX4_init_32 rfl rfl (z_mkSt_R ho.2.2 j_z).1 ?_
      refine z_s 36 hB_z dX4_init_35 rfl rfl ?_
      refine z_nobj 39 hB_z hM_z.2.1 lX4_7 dX4_init_36 rfl (by omega) (by show n_z + 14 * j_z + 7 ≤ n_z + 14 * n_z; omega) ?_
      refine z_s 40 hB_z dX4_init_39 rfl rfl ?_
      refine z_callI 43 hB_z hM_z.2.1 kX4_15 dX4_init_40 rfl (c_X7_init (d_z := 0) z_is_new) (by omega) rfl rfl (Nat.le_of_ble_eq_true rfl) ⟨by omega, by show n_z + 14 * j_z + 7 + 7 ≤ n_z + 14 * n_z; omega⟩ ?_
      rintro _ _ ⟨rfl, rfl⟩
      refine z_astQ 44 hB_z (z_is_mkSt j_z).new.mkX7 z_is_new.mkX7 dX4_init_43 rfl (vp_in_nI hj2 (by omega)) ?_
      rw [nI_clamp (show j_z < 2 ^ 31 by omega)]
      refine z_s 47 hB_z dX4_init_44 rfl rfl ?_
      refine z_j 22 hB_z dX4_init_47 (by decide) ?_
      exact z_eqk (z_wkn (ih_z hj2) ⟨rfl, rfl, congrArg (fun q_z => some (Value.int q_z)) (z_inc j_z), trivial⟩) (by show 1 + 3 * j_z + 1 + 2 = 1 + 3 * (j_z + 1); omega) (by show n_z + 14 * j_z + 7 + 7 = n_z + 14 * (j_z + 1); omega)) 0 (Nat.zero_le _)
  refine z_s 1 hB_z dX4_init_0 rfl rfl ?_
  refine z_objI 4 hB_z hM_z.2.1 kX4_1 o_inst o_code dX4_init_1 rfl (Nat.le_of_ble_eq_true rfl) ?_
  refine z_s 5 hB_z dX4_init_4 rfl rfl ?_
  refine z_s 6 hB_z dX4_init_5 rfl rfl ?_
  refine z_b 9 13 hB_z dX4_init_6 rfl rfl (by decide) (fun c_6 => ?_) (fun c_6 => ?_)
  ·
    exact absurd (show nI 0 < nI n_z from (nI_ltI (by decide) (by omega)).mpr hn0) (Int32.not_lt.mpr c_6)
  ·
    refine z_s 10 hB_z dX4_init_9 rfl rfl ?_
    refine z_j 14 hB_z dX4_init_10 (by decide) ?_
    refine z_nrefs 17 hB_z hM_z.2.1 lX4_7q dX4_init_14 rfl (nI_pos (by omega)) (nI_clamp (by omega)) (by omega) (by omega) (by omega) ?_
    refine z_putR 20 hB_z fX4_9 ho.new dX4_init_17 rfl rfl (Or.inr ⟨hM_z.2.2.2.2.2, rfl⟩) ?_
    refine z_s 21 hB_z dX4_init_20 rfl rfl ?_
    refine z_s 22 hB_z dX4_init_21 rfl rfl ?_
    exact z_eqk loop rfl (by omega)

