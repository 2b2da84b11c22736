/-! the class made: its cells, its first shop -/
/-- no cell, and the class's own cell -/
def z_S0 : z_S := (fun _ => (0, 0), fun _ _ => 0, fun _ _ => none, 0)
def z_G0 : z_S := z_new z_S0 (0, 9)
def z_G1 : z_S := z_pR (z_mkX8 (z_new z_G0 (0, 8)) 5) 4 0 (some 5)
def z_G2 : z_S := z_pR (z_mkX5 (z_new z_G1 (0, 5)) 7) 4 1 (some 7)
def z_G3 : z_S := z_pR (z_mkX5 (z_new z_G2 (0, 5)) 26) 4 2 (some 26)
def z_G4 : z_S := z_pR (z_mkX2 (z_new z_G3 (0, 2)) 45 5 26) 4 3 (some 45)
def z_G5 : z_S := z_pR (z_mkX1 (z_new z_G4 (0, 1)) 48 7) 4 4 (some 48)
def z_G6 : z_S := z_pR (z_mkX7 (z_new z_G5 (0, 7)) 51) 4 5 (some 51)
def z_G7 : z_S := z_pR (z_mkX7 (z_new z_G6 (0, 7)) 54) 4 6 (some 54)
def z_G8 : z_S := z_pR (z_mkSt (z_new z_G7 (0, 4)) 57 8 8) 4 7 (some 57)
def z_G9 : z_S := z_pR (z_mkSt (z_new z_G8 (0, 4)) 83 2 2) 4 8 (some 83)
def z_G10 : z_S := z_pR (z_mkX6 (z_new z_G9 (0, 6)) 91) 4 9 (some 91)
def z_G11 : z_S := z_pR (z_new z_G10 (0, 0)) 4 10 (some 98)
/-- every number is 0 -/
def z_Z (zS : z_S) : Prop := ∀ q_z k_z, z_I zS q_z k_z = 0
theorem z_Z.new {zS : z_S} {p_z : Nat × Nat} (h_z : z_Z zS) : z_Z (z_new zS p_z) := fun q_z k_z => by
  show (if q_z = zS.2.2.2 + 4 then 0 else zS.2.1 q_z k_z) = 0
  by_cases e_z : q_z = zS.2.2.2 + 4
  · exact if_pos e_z
  · exact (if_neg e_z).trans (h_z q_z k_z)
theorem z_Z.pR {zS : z_S} {o k_z : Nat} {v_z : Option Nat} (h_z : z_Z zS) : z_Z (z_pR zS o k_z v_z) := h_z
theorem z_Z.rw {zS : z_S} {o k_z n_z : Nat} (h_z : z_Z zS) : z_Z (z_rw zS o k_z n_z) := h_z.new.new.pR.pR
theorem z_Z.mkX8 {zS : z_S} {o : Nat} (h_z : z_Z zS) : z_Z (z_mkX8 zS o) := h_z.new.pR
theorem z_Z.mkX5 {zS : z_S} {o : Nat} (h_z : z_Z zS) : z_Z (z_mkX5 zS o) := h_z.rw.rw.rw.rw.rw.rw.rw.rw.rw
theorem z_Z.mkX7 {zS : z_S} {o : Nat} (h_z : z_Z zS) : z_Z (z_mkX7 zS o) := h_z.rw
theorem z_Z.mkX2 {zS : z_S} {o a_z b_z : Nat} (h_z : z_Z zS) : z_Z (z_mkX2 zS o a_z b_z) := h_z.rw.pR.pR
theorem z_Z.mkX1 {zS : z_S} {o a_z : Nat} (h_z : z_Z zS) : z_Z (z_mkX1 zS o a_z) := h_z.rw.pR
theorem z_Z.mkX6 {zS : z_S} {o : Nat} (h_z : z_Z zS) : z_Z (z_mkX6 zS o) := h_z.rw.rw.rw
theorem z_Z.mkSt {zS : z_S} {o n_z : Nat} (h_z : z_Z zS) : ∀ j_z, z_Z (z_mkSt zS o n_z j_z)
  | 0 => h_z.new.pR
  | j_z + 1 => (z_Z.mkSt h_z j_z).new.mkX7.pR
theorem z_ZT0 : z_Z z_G0 := z_Z.new (fun _ _ => rfl)
theorem z_ZT1 : z_Z z_G1 := z_Z.pR (z_ZT0.new.mkX8)
theorem z_ZT2 : z_Z z_G2 := z_Z.pR (z_ZT1.new.mkX5)
theorem z_ZT3 : z_Z z_G3 := z_Z.pR (z_ZT2.new.mkX5)
theorem z_ZT4 : z_Z z_G4 := z_Z.pR (z_ZT3.new.mkX2)
theorem z_ZT5 : z_Z z_G5 := z_Z.pR (z_ZT4.new.mkX1)
theorem z_ZT6 : z_Z z_G6 := z_Z.pR (z_ZT5.new.mkX7)
theorem z_ZT7 : z_Z z_G7 := z_Z.pR (z_ZT6.new.mkX7)
theorem z_ZT8 : z_Z z_G8 := z_Z.pR (z_ZT7.new.mkSt 8)
theorem z_ZT9 : z_Z z_G9 := z_Z.pR (z_ZT8.new.mkSt 2)
theorem z_ZT10 : z_Z z_G10 := z_Z.pR (z_ZT9.new.mkX6)
theorem z_ZT11 : z_Z z_G11 := z_Z.pR (z_ZT10.new)
theorem z_isT0 : z_is z_G0 4 (0, 9) := ⟨by decide +kernel, by decide, by decide +kernel⟩
theorem z_isT1 : z_is z_G1 4 (0, 9) := ⟨by decide +kernel, by decide, by decide +kernel⟩
theorem z_isT2 : z_is z_G2 4 (0, 9) := ⟨by decide +kernel, by decide, by decide +kernel⟩
theorem z_isT3 : z_is z_G3 4 (0, 9) := ⟨by decide +kernel, by decide, by decide +kernel⟩
theorem z_isT4 : z_is z_G4 4 (0, 9) := ⟨by decide +kernel, by decide, by decide +kernel⟩
theorem z_isT5 : z_is z_G5 4 (0, 9) := ⟨by decide +kernel, by decide, by decide +kernel⟩
theorem z_isT6 : z_is z_G6 4 (0, 9) := ⟨by decide +kernel, by decide, by decide +kernel⟩
theorem z_isT7 : z_is z_G7 4 (0, 9) := ⟨by decide +kernel, by decide, by decide +kernel⟩
theorem z_isT8 : z_is z_G8 4 (0, 9) := ⟨by decide +kernel, by decide, by decide +kernel⟩
theorem z_isT9 : z_is z_G9 4 (0, 9) := ⟨by decide +kernel, by decide, by decide +kernel⟩
theorem z_isT10 : z_is z_G10 4 (0, 9) := ⟨by decide +kernel, by decide, by decide +kernel⟩
theorem z_isT11 : z_is z_G11 4 (0, 9) := ⟨by decide +kernel, by decide, by decide +kernel⟩
theorem z_LT : z_L z_G11 := ⟨by decide +kernel, by decide +kernel, by decide +kernel⟩
def z_Ai : z_Ab := ((fun _ _ => 0, 0, 0, 0), fun _ => 0, (fun _ _ => 0, 0), (fun _ _ => 0, 0), (fun _ => 0, fun _ => 0, fun _ => 0, 0), (fun _ => 0, 0))
theorem z_sfU : z_sf z_G11 57 58 8 59 id := ⟨L57 z_LT, r57_0 z_LT, L58 z_LT, by decide +kernel, fun _ h_z => h_z, fun _ _ _ _ e_z => e_z, fun i_z hi_z => by
  rcases (show i_z = 0 ∨ i_z = 1 ∨ i_z = 2 ∨ i_z = 3 ∨ i_z = 4 ∨ i_z = 5 ∨ i_z = 6 ∨ i_z = 7 by omega) with rfl | rfl | rfl | rfl | rfl | rfl | rfl | rfl
  · exact s59 z_LT
  · exact s62 z_LT
  · exact s65 z_LT
  · exact s68 z_LT
  · exact s71 z_LT
  · exact s74 z_LT
  · exact s77 z_LT
  · exact s80 z_LT⟩
theorem z_sfK : z_sf z_G11 83 84 2 85 id := ⟨L83 z_LT, r83_0 z_LT, L84 z_LT, by decide +kernel, fun _ h_z => h_z, fun _ _ _ _ e_z => e_z, fun i_z hi_z => by
  rcases (show i_z = 0 ∨ i_z = 1 by omega) with rfl | rfl
  · exact s85 z_LT
  · exact s88 z_LT⟩
theorem z_RCi : z_RC z_G11 z_Ai := ⟨z_LT, ⟨fun _ _ _ _ => z_ZT11 _ _, z_ZT11 _ _, z_ZT11 _ _, z_ZT11 _ _, Nat.zero_le _, Nat.zero_le _⟩, ⟨fun _ _ => z_ZT11 _ _, fun _ _ => z_ZT11 _ _⟩, ⟨id, z_sfU, z_ZT11 _ _, Nat.zero_le _, fun j_z hj => absurd hj (Nat.not_lt_zero j_z)⟩, ⟨id, z_sfK, z_ZT11 _ _, Nat.zero_le _, fun j_z hj => absurd hj (Nat.not_lt_zero j_z)⟩, ⟨z_ZT11 _ _, Nat.zero_le _, fun j_z hj => absurd hj (Nat.not_lt_zero j_z)⟩, ⟨z_ZT11 _ _, Nat.zero_le _, fun j_z hj => absurd hj (Nat.not_lt_zero j_z)⟩⟩
/-- the first text -/
def z_q0 : (Nat → Int32) × Nat := (fun k_z => z_by.getD k_z 0, 125)
def z_R0 : Option Nat × z_Dr := z_read z_q0 200 (z_D0 (fun _ _ => 0)) 0
def z_bl : List Int32 := [115, 48, 44, 49, 44, 50, 44, 48, 59, 115, 49, 44, 50, 44, 51, 44, 49, 59, 115, 50, 44, 49, 44, 49, 44, 48, 59, 115, 51, 44, 52, 44, 50, 44, 49, 59, 115, 48, 44, 50, 44, 52, 44, 50, 59, 113, 48, 44, 50, 59, 113, 49, 44, 51, 59, 99, 48, 44, 49, 44, 48, 44, 49, 50, 59, 99, 48, 44, 50, 44, 49, 44, 53, 59, 99, 49, 44, 52, 44, 50, 44, 51, 48, 59, 99, 49, 44, 49, 44, 49, 44, 56, 59, 99, 50, 44, 50, 44, 48, 44, 57, 59, 99, 51, 44, 52, 44, 51, 44, 50, 48, 59, 99, 52, 44, 49, 44, 50, 44, 49, 53, 59, 104, 53, 59]
theorem z_by_bl : z_by = z_bl := by decide +kernel
theorem z_R0_none : z_R0.1 = none := by
  unfold z_R0 z_q0
  rw [z_by_bl]
  decide +kernel
def z_A0 : z_Ab := z_setX (z_layA (z_setX z_Ai z_q0) z_R0.2) (z_q0.1, 0)
set_option maxHeartbeats 4000000 in
theorem c_X9_init {g_z : z_U} {d_z : Nat} : z_C g_z (d_z + 6) 94 630 mX9_init [.ref 4] z_G0 (fun r_z zS' => r_z = none ∧ z_RC zS' z_A0 ∧ z_nx zS' = 95) := by
  refine z_enter [some (.ref 4), none] rfl rfl (Nat.le_of_ble_eq_true rfl) rfl (fun zX hM_z => ?_)
  have hB_z : z_B g_z zX RX9 cX9_init 2 := hM_z.1
  have loop := z_loop (fun j_z => ∀ I1, z_fr (fun x_z => x_z = 5 ∨ x_z = 6) (z_I z_G11) I1 → z_rX I1 (fun k_z => z_by.getD k_z 0, j_z) → z_W g_z zX 142 [some (.ref 4), some (.int (nI j_z))] [] 94 630 (z_up z_G11 I1)) 125 (fun j_z hj ih_z I1 hf hx => by
    refine z_s 143 hB_z dX9_init_142 rfl rfl ?_
    refine z_ldcS 145 hB_z dX9_init_143 rfl ?_
    refine z_callT 148 hB_z hM_z.2.1 kX9_82 dX9_init_145 rfl rfl (c_J0_length_8abf5 (d_z := 0)) (by omega) rfl rfl (Nat.le_of_ble_eq_true rfl) ⟨Nat.le_refl _, Nat.le_refl _⟩ ?_
    rintro _ _ ⟨rfl, rfl⟩
    refine z_b 151 170 hB_z dX9_init_148 rfl rfl (by decide) (fun c_148 => ?_) (fun c_148 => ?_)
    ·
      have hj2 : j_z = 125 := by
        have := (nI_leI (by omega) (by omega)).mp (show nI 125 ≤ nI j_z from c_148)
        omega
      subst hj2
      have hC := z_RCi.ofX hf hx
      obtain ⟨hL, hV, hT_z, hU, hK_z, hS_z, hX⟩ := id hC
      refine z_s 171 hB_z dX9_init_170 rfl rfl ?_
      refine z_getR 174 hB_z fX9_31 (L4_z (zS := z_up z_G11 I1) hL) dX9_init_171 rfl rfl (r4_3 (zS := z_up z_G11 I1) hL) ?_
      refine z_callV 177 hB_z hM_z.2.1 kX9_95 dX9_init_174 rfl (L45 (zS := z_up z_G11 I1) hL) rfl (c_X2_read (d_z := 0) hL hX) (by omega) rfl rfl (Nat.le_of_ble_eq_true rfl) ⟨Nat.le_refl _, Nat.le_refl _⟩ ?_
      rintro _ _ ⟨v_z, rfl, I2_z, rfl, hf2, hz⟩
      have eJ : z_J (z_up z_G11 I1) = fun _ _ => 0 := by
        funext a_z b_z
        exact (hf _ _ (by show ¬ (28 + 2 * a_z = 5 ∨ 28 + 2 * a_z = 6); omega)).trans (z_ZT11 _ _)
      rw [eJ] at hz
      have hno : (z_read (fun k_z => z_by.getD k_z 0, 125) 200 (z_D0 (fun _ _ => 0)) 0).1 = none := z_R0_none
      have hD : z_rD I2_z z_R0.2 := hz.elim (fun q_z => by obtain ⟨p_z, h1, h2⟩ := q_z; rw [show (z_read (z_AX (z_setX z_Ai (fun k_z => z_by.getD k_z 0, 125))) 200 (z_D0 (fun _ _ => 0)) 0).1 = none from hno] at h1; cases h1) (fun q_z => q_z.2.2)
      have hC2 := hC.scr (hf2.mono z_scrR)
      have hL2 := hC2.1
      refine z_s 178 hB_z dX9_init_177 rfl rfl ?_
      refine z_s 179 hB_z dX9_init_178 rfl rfl ?_
      refine z_callV 182 hB_z hM_z.2.1 kX9_98 dX9_init_179 rfl (L4_z (zS := z_up z_G11 I2_z) hL2) rfl (c_X9_openDraft (zS := z_up z_G11 I2_z) (d_z := 0) hC2 hD) (by omega) rfl rfl (Nat.le_of_ble_eq_true rfl) ⟨Nat.le_refl _, Nat.le_refl _⟩ ?_
      rintro _ S3 ⟨rfl, hC3, hkM3⟩
      have hL3 := hC3.1
      refine z_s 183 hB_z dX9_init_182 rfl rfl ?_
      refine z_getR 186 hB_z fX9_12 (L4_z (zS := S3) hL3) dX9_init_183 rfl rfl (r4_0 (zS := S3) hL3) ?_
      refine z_callV 189 hB_z hM_z.2.1 kX9_101 dX9_init_186 rfl (L5_z (zS := S3) hL3) rfl (c_X8_clear (d_z := 0) hL3) (by omega) rfl rfl (Nat.le_of_ble_eq_true rfl) ⟨Nat.le_refl _, Nat.le_refl _⟩ ?_
      rintro _ _ ⟨rfl, rfl⟩
      refine z_vret hM_z dX9_init_189 rfl ?_ rfl rfl
      exact ⟨rfl, hC3.ofX (zI' := z_u2 (z_I S3) 5 1 0) (z_fr.rf.u2 (Or.inl rfl)) ⟨z_u2_same _ _ _ _, by show 0 ≤ 200; omega, fun i_z hi_z => absurd hi_z (Nat.not_lt_zero i_z)⟩, hkM3.2.1.trans (show z_nx z_G11 = 95 by decide +kernel)⟩
    ·
      have hj2 : j_z < 125 := (nI_ltI (by omega) (by omega)).mp (show nI j_z < nI 125 from c_148)
      refine z_s 152 hB_z dX9_init_151 rfl rfl ?_
      refine z_getR 155 hB_z fX9_12 (L4_z (zS := z_up z_G11 I1) z_LT.up) dX9_init_152 rfl rfl (r4_0 (zS := z_up z_G11 I1) z_LT.up) ?_
      refine z_ldcS 157 hB_z dX9_init_155 rfl ?_
      refine z_s 158 hB_z dX9_init_157 rfl rfl ?_
      refine z_callT 161 hB_z hM_z.2.1 kX9_88 dX9_init_158 rfl rfl (c_J0_charAt_5068e (d_z := 0) hj2) (by omega) rfl rfl (Nat.le_of_ble_eq_true rfl) ⟨Nat.le_refl _, Nat.le_refl _⟩ ?_
      rintro _ _ ⟨rfl, rfl⟩
      refine z_callV 164 hB_z hM_z.2.1 kX9_92 dX9_init_161 rfl (L5_z (zS := z_up z_G11 I1) z_LT.up) rfl (c_X8_add (zS := z_up z_G11 I1) (d_z := 0) z_LT.up hx.1 (by show j_z < 200; omega)) (by omega) rfl rfl (Nat.le_of_ble_eq_true rfl) ⟨Nat.le_refl _, Nat.le_refl _⟩ ?_
      rintro _ _ ⟨rfl, rfl⟩
      refine z_s 167 hB_z dX9_init_164 rfl rfl ?_
      refine z_j 142 hB_z dX9_init_167 (by decide) ?_
      exact z_wkn (ih_z hj2 (z_u2 (z_u2 I1 6 j_z (z_by.getD j_z 0)) 5 1 (nI (j_z + 1))) ((hf.u2 (Or.inr rfl)).u2 (Or.inl rfl)) ⟨z_u2_same _ _ _ _, by show j_z + 1 ≤ 200; omega, fun i_z hi_z => by
        rw [z_u2_ne (Or.inl (by decide))]
        by_cases e_z : i_z = j_z
        · rw [e_z, z_u2_same]
        · rw [z_u2_ne (Or.inr e_z)]; exact hx.2.2 i_z (by show i_z < j_z; have : i_z < j_z + 1 := hi_z; omega)⟩) ⟨rfl, congrArg (fun q_z => some (Value.int q_z)) (z_inc j_z), trivial⟩) 0 (Nat.zero_le _)
  refine z_s 1 hB_z dX9_init_0 rfl rfl ?_
  refine z_objI 4 hB_z hM_z.2.1 kX9_3 o_inst o_code dX9_init_1 rfl (Nat.le_of_ble_eq_true rfl) ?_
  refine z_s 5 hB_z dX9_init_4 rfl rfl ?_
  refine z_nobj 8 hB_z hM_z.2.1 lX9_9 dX9_init_5 rfl (Nat.le_of_ble_eq_true rfl) (Nat.le_of_ble_eq_true rfl) ?_
  refine z_s 9 hB_z dX9_init_8 rfl rfl ?_
  refine z_callI 12 hB_z hM_z.2.1 kX9_11 dX9_init_9 rfl (c_X8_init (d_z := 0) (z_is_new)) (by omega) rfl rfl (Nat.le_of_ble_eq_true rfl) ⟨Nat.le_of_ble_eq_true rfl, Nat.le_of_ble_eq_true rfl⟩ ?_
  rintro _ _ ⟨rfl, rfl⟩
  refine z_putR 15 hB_z fX9_12 (z_isT0.new.mkX8) dX9_init_12 rfl rfl (Or.inr ⟨hM_z.2.2.2.2.2, rfl⟩) ?_
  refine z_to (z_G1) rfl ?_
  refine z_s 16 hB_z dX9_init_15 rfl rfl ?_
  refine z_nobj 19 hB_z hM_z.2.1 lX9_16 dX9_init_16 rfl (Nat.le_of_ble_eq_true rfl) (Nat.le_of_ble_eq_true rfl) ?_
  refine z_s 20 hB_z dX9_init_19 rfl rfl ?_
  refine z_callI 23 hB_z hM_z.2.1 kX9_18 dX9_init_20 rfl (c_X5_init (d_z := 0) (z_is_new)) (by omega) rfl rfl (Nat.le_of_ble_eq_true rfl) ⟨Nat.le_of_ble_eq_true rfl, Nat.le_of_ble_eq_true rfl⟩ ?_
  rintro _ _ ⟨rfl, rfl⟩
  refine z_putR 26 hB_z fX9_19 (z_isT1.new.mkX5) dX9_init_23 rfl rfl (Or.inr ⟨hM_z.2.2.2.2.2, rfl⟩) ?_
  refine z_to (z_G2) rfl ?_
  refine z_s 27 hB_z dX9_init_26 rfl rfl ?_
  refine z_nobj 30 hB_z hM_z.2.1 lX9_16 dX9_init_27 rfl (Nat.le_of_ble_eq_true rfl) (Nat.le_of_ble_eq_true rfl) ?_
  refine z_s 31 hB_z dX9_init_30 rfl rfl ?_
  refine z_callI 34 hB_z hM_z.2.1 kX9_18 dX9_init_31 rfl (c_X5_init (d_z := 0) (z_is_new)) (by omega) rfl rfl (Nat.le_of_ble_eq_true rfl) ⟨Nat.le_of_ble_eq_true rfl, Nat.le_of_ble_eq_true rfl⟩ ?_
  rintro _ _ ⟨rfl, rfl⟩
  refine z_putR 37 hB_z fX9_23 (z_isT2.new.mkX5) dX9_init_34 rfl rfl (Or.inr ⟨hM_z.2.2.2.2.2, rfl⟩) ?_
  refine z_to (z_G3) rfl ?_
  refine z_s 38 hB_z dX9_init_37 rfl rfl ?_
  refine z_nobj 41 hB_z hM_z.2.1 lX9_26 dX9_init_38 rfl (Nat.le_of_ble_eq_true rfl) (Nat.le_of_ble_eq_true rfl) ?_
  refine z_s 42 hB_z dX9_init_41 rfl rfl ?_
  refine z_s 43 hB_z dX9_init_42 rfl rfl ?_
  refine z_getR 46 hB_z fX9_12 (z_isT3.new) dX9_init_43 rfl rfl rfl ?_
  refine z_s 47 hB_z dX9_init_46 rfl rfl ?_
  refine z_getR 50 hB_z fX9_23 (z_isT3.new) dX9_init_47 rfl rfl rfl ?_
  refine z_callI 53 hB_z hM_z.2.1 kX9_28 dX9_init_50 rfl (c_X2_init (d_z := 0) (z_is_new)) (by omega) rfl rfl (Nat.le_of_ble_eq_true rfl) ⟨Nat.le_of_ble_eq_true rfl, Nat.le_of_ble_eq_true rfl⟩ ?_
  rintro _ _ ⟨rfl, rfl⟩
  refine z_putR 56 hB_z fX9_31 (z_isT3.new.mkX2) dX9_init_53 rfl rfl (Or.inr ⟨hM_z.2.2.2.2.2, rfl⟩) ?_
  refine z_to (z_G4) rfl ?_
  refine z_s 57 hB_z dX9_init_56 rfl rfl ?_
  refine z_nobj 60 hB_z hM_z.2.1 lX9_35 dX9_init_57 rfl (Nat.le_of_ble_eq_true rfl) (Nat.le_of_ble_eq_true rfl) ?_
  refine z_s 61 hB_z dX9_init_60 rfl rfl ?_
  refine z_s 62 hB_z dX9_init_61 rfl rfl ?_
  refine z_getR 65 hB_z fX9_19 (z_isT4.new) dX9_init_62 rfl rfl rfl ?_
  refine z_callI 68 hB_z hM_z.2.1 kX9_37 dX9_init_65 rfl (c_X1_init (d_z := 0) (z_is_new)) (by omega) rfl rfl (Nat.le_of_ble_eq_true rfl) ⟨Nat.le_of_ble_eq_true rfl, Nat.le_of_ble_eq_true rfl⟩ ?_
  rintro _ _ ⟨rfl, rfl⟩
  refine z_putR 71 hB_z fX9_40 (z_isT4.new.mkX1) dX9_init_68 rfl rfl (Or.inr ⟨hM_z.2.2.2.2.2, rfl⟩) ?_
  refine z_to (z_G5) rfl ?_
  refine z_s 72 hB_z dX9_init_71 rfl rfl ?_
  refine z_nobj 75 hB_z hM_z.2.1 lX9_44 dX9_init_72 rfl (Nat.le_of_ble_eq_true rfl) (Nat.le_of_ble_eq_true rfl) ?_
  refine z_s 76 hB_z dX9_init_75 rfl rfl ?_
  refine z_callI 79 hB_z hM_z.2.1 kX9_46 dX9_init_76 rfl (c_X7_init (d_z := 0) (z_is_new)) (by omega) rfl rfl (Nat.le_of_ble_eq_true rfl) ⟨Nat.le_of_ble_eq_true rfl, Nat.le_of_ble_eq_true rfl⟩ ?_
  rintro _ _ ⟨rfl, rfl⟩
  refine z_putR 82 hB_z fX9_47 (z_isT5.new.mkX7) dX9_init_79 rfl rfl (Or.inr ⟨hM_z.2.2.2.2.2, rfl⟩) ?_
  refine z_to (z_G6) rfl ?_
  refine z_s 83 hB_z dX9_init_82 rfl rfl ?_
  refine z_nobj 86 hB_z hM_z.2.1 lX9_44 dX9_init_83 rfl (Nat.le_of_ble_eq_true rfl) (Nat.le_of_ble_eq_true rfl) ?_
  refine z_s 87 hB_z dX9_init_86 rfl rfl ?_
  refine z_callI 90 hB_z hM_z.2.1 kX9_46 dX9_init_87 rfl (c_X7_init (d_z := 0) (z_is_new)) (by omega) rfl rfl (Nat.le_of_ble_eq_true rfl) ⟨Nat.le_of_ble_eq_true rfl, Nat.le_of_ble_eq_true rfl⟩ ?_
  rintro _ _ ⟨rfl, rfl⟩
  refine z_putR 93 hB_z fX9_51 (z_isT6.new.mkX7) dX9_init_90 rfl rfl (Or.inr ⟨hM_z.2.2.2.2.2, rfl⟩) ?_
  refine z_to (z_G7) rfl ?_
  refine z_s 94 hB_z dX9_init_93 rfl rfl ?_
  refine z_nobj 97 hB_z hM_z.2.1 lX9_54 dX9_init_94 rfl (Nat.le_of_ble_eq_true rfl) (Nat.le_of_ble_eq_true rfl) ?_
  refine z_s 98 hB_z dX9_init_97 rfl rfl ?_
  refine z_s 100 hB_z dX9_init_98 rfl rfl ?_
  refine z_callI 103 hB_z hM_z.2.1 kX9_56 dX9_init_100 rfl (c_X4_init (d_z := 0) (n_z := 8) z_is_new (by decide) (by decide)) (by omega) rfl rfl (Nat.le_of_ble_eq_true rfl) ⟨Nat.le_of_ble_eq_true rfl, Nat.le_of_ble_eq_true rfl⟩ ?_
  rintro _ _ ⟨rfl, rfl⟩
  refine z_putR 106 hB_z fX9_59 (z_isT7.new.mkSt 8) dX9_init_103 rfl rfl (Or.inr ⟨hM_z.2.2.2.2.2, rfl⟩) ?_
  refine z_to (z_G8) rfl ?_
  refine z_s 107 hB_z dX9_init_106 rfl rfl ?_
  refine z_nobj 110 hB_z hM_z.2.1 lX9_54 dX9_init_107 rfl (Nat.le_of_ble_eq_true rfl) (Nat.le_of_ble_eq_true rfl) ?_
  refine z_s 111 hB_z dX9_init_110 rfl rfl ?_
  refine z_s 112 hB_z dX9_init_111 rfl rfl ?_
  refine z_callI 115 hB_z hM_z.2.1 kX9_56 dX9_init_112 rfl (c_X4_init (d_z := 0) (n_z := 2) z_is_new (by decide) (by decide)) (by omega) rfl rfl (Nat.le_of_ble_eq_true rfl) ⟨Nat.le_of_ble_eq_true rfl, Nat.le_of_ble_eq_true rfl⟩ ?_
  rintro _ _ ⟨rfl, rfl⟩
  refine z_putR 118 hB_z fX9_63 (z_isT8.new.mkSt 2) dX9_init_115 rfl rfl (Or.inr ⟨hM_z.2.2.2.2.2, rfl⟩) ?_
  refine z_to (z_G9) rfl ?_
  refine z_s 119 hB_z dX9_init_118 rfl rfl ?_
  refine z_nobj 122 hB_z hM_z.2.1 lX9_66 dX9_init_119 rfl (Nat.le_of_ble_eq_true rfl) (Nat.le_of_ble_eq_true rfl) ?_
  refine z_s 123 hB_z dX9_init_122 rfl rfl ?_
  refine z_callI 126 hB_z hM_z.2.1 kX9_68 dX9_init_123 rfl (c_X6_init (d_z := 0) (z_is_new)) (by omega) rfl rfl (Nat.le_of_ble_eq_true rfl) ⟨Nat.le_of_ble_eq_true rfl, Nat.le_of_ble_eq_true rfl⟩ ?_
  rintro _ _ ⟨rfl, rfl⟩
  refine z_putR 129 hB_z fX9_69 (z_isT9.new.mkX6) dX9_init_126 rfl rfl (Or.inr ⟨hM_z.2.2.2.2.2, rfl⟩) ?_
  refine z_to (z_G10) rfl ?_
  refine z_s 130 hB_z dX9_init_129 rfl rfl ?_
  refine z_nobj 133 hB_z hM_z.2.1 lX9_73 dX9_init_130 rfl (Nat.le_of_ble_eq_true rfl) (Nat.le_of_ble_eq_true rfl) ?_
  refine z_s 134 hB_z dX9_init_133 rfl rfl ?_
  refine z_callI 137 hB_z hM_z.2.1 kX9_75 dX9_init_134 rfl (c_X0_init (d_z := 0) (z_is_new)) (by omega) rfl rfl (Nat.le_of_ble_eq_true rfl) ⟨Nat.le_of_ble_eq_true rfl, Nat.le_of_ble_eq_true rfl⟩ ?_
  rintro _ _ ⟨rfl, rfl⟩
  refine z_putR 140 hB_z fX9_76 (z_isT10.new) dX9_init_137 rfl rfl (Or.inr ⟨hM_z.2.2.2.2.2, rfl⟩) ?_
  refine z_to (z_G11) rfl ?_
  refine z_s 141 hB_z dX9_init_140 rfl rfl ?_
  refine z_s 142 hB_z dX9_init_141 rfl rfl ?_
  exact z_eqk (z_eq (loop (z_I z_G11) z_fr.rf ⟨z_ZT11 _ _, Nat.zero_le _, fun i_z hi_z => absurd hi_z (Nat.not_lt_zero i_z)⟩) rfl rfl rfl) rfl rfl

