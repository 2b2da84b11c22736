/-! the model: who wakes -/
theorem c_X10_wakes {g_z : z_U} {d_z : Nat} {zS : z_S} (hN_z : z_LM zS) {s_z : Nat} (hs : s_z < 6) {w_z p_z k_z : Int32} (hk : z_I zS 104 (4 * s_z) = k_z) : z_C g_z (d_z) 0 0 mX10_wakes [.ref 99, .int w_z, .int p_z, .int (nI s_z)] zS (fun r_z zS' => zS = zS' ∧ r_z = some (.int (z_wakes w_z p_z k_z))) := by
  refine z_enter [some (.ref 99), some (.int w_z), some (.int p_z), some (.int (nI s_z)), none] rfl rfl (Nat.le_of_ble_eq_true rfl) rfl (fun zX hM_z => ?_)
  have hB_z : z_B g_z zX RX10 cX10_wakes 5 := hM_z.1
  refine z_s 1 hB_z dX10_wakes_0 rfl rfl ?_
  refine z_getR 4 hB_z fX10_22 (N99 (zS := zS) hN_z) dX10_wakes_1 rfl rfl (n99_13 (zS := zS) hN_z) ?_
  refine z_s 5 hB_z dX10_wakes_4 rfl rfl ?_
  refine z_s 6 hB_z dX10_wakes_5 rfl rfl ?_
  refine z_s 7 hB_z dX10_wakes_6 rfl rfl ?_
  rw [z_n4 _ (by omega)]
  refine z_ald 8 hB_z (N104 (zS := zS) hN_z) dX10_wakes_7 rfl (vp_in_nI (show 4 * s_z < 24 by omega) (by decide)) ?_
  rw [nI_clamp (by omega), hk]
  refine z_s 10 hB_z dX10_wakes_8 rfl rfl ?_
  refine z_s 11 hB_z dX10_wakes_10 rfl rfl ?_
  refine z_s 12 hB_z dX10_wakes_11 rfl rfl ?_
  refine z_b 15 28 hB_z dX10_wakes_12 rfl rfl (by decide) (fun c_12 => ?_) (fun c_12 => ?_)
  ·
    refine z_s 29 hB_z dX10_wakes_28 rfl rfl ?_
    refine z_s 30 hB_z dX10_wakes_29 rfl rfl ?_
    refine z_b 33 47 hB_z dX10_wakes_30 rfl rfl (by decide) (fun c_30 => ?_) (fun c_30 => ?_)
    ·
      refine z_s 48 hB_z dX10_wakes_47 rfl rfl ?_
      refine z_b 51 73 hB_z dX10_wakes_48 rfl rfl (by decide) (fun c_48 => ?_) (fun c_48 => ?_)
      ·
        refine z_s 74 hB_z dX10_wakes_73 rfl rfl ?_
        refine z_zret hM_z dX10_wakes_74 rfl (by decide) ?_ rfl rfl
        refine ⟨rfl, congrArg (fun q_z => some (Value.int q_z)) ?_⟩
        unfold z_wakes
        rw [if_neg c_48, if_neg c_12, if_neg c_30]
      ·
        refine z_s 53 hB_z dX10_wakes_51 rfl rfl ?_
        refine z_s 54 hB_z dX10_wakes_53 rfl rfl ?_
        refine z_b 57 69 hB_z dX10_wakes_54 rfl rfl (by decide) (fun c_54 => ?_) (fun c_54 => ?_)
        ·
          refine z_s 70 hB_z dX10_wakes_69 rfl rfl ?_
          refine z_j 74 hB_z dX10_wakes_70 (by decide) ?_
          refine z_zret hM_z dX10_wakes_74 rfl (by decide) ?_ rfl rfl
          refine ⟨rfl, congrArg (fun q_z => some (Value.int q_z)) ?_⟩
          unfold z_wakes
          rw [if_pos c_48, if_pos (Or.inl c_54)]
        ·
          refine z_s 59 hB_z dX10_wakes_57 rfl rfl ?_
          refine z_s 60 hB_z dX10_wakes_59 rfl rfl ?_
          refine z_b 63 73 hB_z dX10_wakes_60 rfl rfl (by decide) (fun c_60 => ?_) (fun c_60 => ?_)
          ·
            refine z_s 74 hB_z dX10_wakes_73 rfl rfl ?_
            refine z_zret hM_z dX10_wakes_74 rfl (by decide) ?_ rfl rfl
            refine ⟨rfl, congrArg (fun q_z => some (Value.int q_z)) ?_⟩
            unfold z_wakes
            rw [if_pos c_48, if_neg (fun q_z => q_z.elim c_54 (fun z_z => c_60 z_z.1))]
          ·
            refine z_s 64 hB_z dX10_wakes_63 rfl rfl ?_
            refine z_s 66 hB_z dX10_wakes_64 rfl rfl ?_
            refine z_b 69 73 hB_z dX10_wakes_66 rfl rfl (by decide) (fun c_66 => ?_) (fun c_66 => ?_)
            ·
              refine z_s 74 hB_z dX10_wakes_73 rfl rfl ?_
              refine z_zret hM_z dX10_wakes_74 rfl (by decide) ?_ rfl rfl
              refine ⟨rfl, congrArg (fun q_z => some (Value.int q_z)) ?_⟩
              unfold z_wakes
              rw [if_pos c_48, if_neg (fun q_z => q_z.elim c_54 (fun z_z => z_nlt0 c_66 z_z.2))]
            ·
              refine z_s 70 hB_z dX10_wakes_69 rfl rfl ?_
              refine z_j 74 hB_z dX10_wakes_70 (by decide) ?_
              refine z_zret hM_z dX10_wakes_74 rfl (by decide) ?_ rfl rfl
              refine ⟨rfl, congrArg (fun q_z => some (Value.int q_z)) ?_⟩
              unfold z_wakes
              rw [if_pos c_48, if_pos (Or.inr ⟨c_60, c_66⟩)]
    ·
      refine z_s 35 hB_z dX10_wakes_33 rfl rfl ?_
      refine z_s 36 hB_z dX10_wakes_35 rfl rfl ?_
      refine z_b 39 43 hB_z dX10_wakes_36 rfl rfl (by decide) (fun c_36 => ?_) (fun c_36 => ?_)
      ·
        refine z_s 44 hB_z dX10_wakes_43 rfl rfl ?_
        refine z_j 74 hB_z dX10_wakes_44 (by decide) ?_
        refine z_zret hM_z dX10_wakes_74 rfl (by decide) ?_ rfl rfl
        refine ⟨rfl, congrArg (fun q_z => some (Value.int q_z)) ?_⟩
        unfold z_wakes
        rw [if_neg (fun q_z => absurd (q_z.symm.trans c_30) (by decide)), if_neg c_12, if_pos c_30, if_neg c_36]
      ·
        refine z_s 40 hB_z dX10_wakes_39 rfl rfl ?_
        refine z_j 74 hB_z dX10_wakes_40 (by decide) ?_
        refine z_zret hM_z dX10_wakes_74 rfl (by decide) ?_ rfl rfl
        refine ⟨rfl, congrArg (fun q_z => some (Value.int q_z)) ?_⟩
        unfold z_wakes
        rw [if_neg (fun q_z => absurd (q_z.symm.trans c_30) (by decide)), if_neg c_12, if_pos c_30, if_pos c_36]
  ·
    refine z_s 17 hB_z dX10_wakes_15 rfl rfl ?_
    refine z_b 20 24 hB_z dX10_wakes_17 rfl rfl (by decide) (fun c_17 => ?_) (fun c_17 => ?_)
    ·
      refine z_s 25 hB_z dX10_wakes_24 rfl rfl ?_
      refine z_j 74 hB_z dX10_wakes_25 (by decide) ?_
      refine z_zret hM_z dX10_wakes_74 rfl (by decide) ?_ rfl rfl
      refine ⟨rfl, congrArg (fun q_z => some (Value.int q_z)) ?_⟩
      unfold z_wakes
      rw [if_neg (fun q_z => absurd (q_z.symm.trans c_12) (by decide)), if_pos c_12, if_neg c_17]
    ·
      refine z_s 21 hB_z dX10_wakes_20 rfl rfl ?_
      refine z_j 74 hB_z dX10_wakes_21 (by decide) ?_
      refine z_zret hM_z dX10_wakes_74 rfl (by decide) ?_ rfl rfl
      refine ⟨rfl, congrArg (fun q_z => some (Value.int q_z)) ?_⟩
      unfold z_wakes
      rw [if_neg (fun q_z => absurd (q_z.symm.trans c_12) (by decide)), if_pos c_12, if_pos c_17]

