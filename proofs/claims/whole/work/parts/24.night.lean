/-! the shop's questions and the night -/
theorem z_wakes_bit (a b c : Int32) : z_wakes a b c &&& 1 = z_wakes a b c := by
  unfold z_wakes
  split
  · split <;> rfl
  · split
    · split <;> rfl
    · split
      · split <;> rfl
      · rfl

theorem c_X5_isDue {g : z_U} (d : Nat) {zS : z_S} {zV : z_V} (hL : z_L zS) (hV : z_rV (z_I zS) 7 zV) {s : Nat} (hs : s < 6) (t : Int32) : z_C g (d + 1) 0 0 mX5_isDue [.ref 7, .int (nI s), .int t] zS (fun r zS' => zS = zS' ∧ r = some (.int (if z_due zV t s then 1 else 0))) := by
  refine z_enter [some (.ref 7), some (.int (nI s)), some (.int t), none] rfl rfl (Nat.le_of_ble_eq_true rfl) rfl (fun zX hM => ?_)
  have hB : z_B g zX RX5 cX5_isDue 4 := hM.1
  have e2 := z_rd_V hV 2 (by decide) (j := s) (n := 6) (a := 13) rfl rfl hs
  have e3 := z_rd_V hV 3 (by decide) (j := s) (n := 6) (a := 15) rfl rfl hs
  have e : z_due zV t s = decide (z_mod t (zV.1 2 s) = z_mod (zV.1 3 s) (zV.1 2 s)) := rfl
  rw [← e2, ← e3] at e
  refine z_s 1 hB dX5_isDue_0 rfl rfl ?_
  refine z_getR 4 hB fX5_23 (L7 (zS := zS) hL) dX5_isDue_1 rfl rfl (r7_2 (zS := zS) hL) ?_
  refine z_s 5 hB dX5_isDue_4 rfl rfl ?_
  refine z_callV 8 hB hM.2.1 kX5_68 dX5_isDue_5 rfl (L12 (zS := zS) hL) rfl (c_X3_at 0 (w12 (zS := zS) hL) (by decide) _) (by omega) rfl rfl (Nat.le_of_ble_eq_true rfl) ⟨Nat.le_refl _, Nat.le_refl _⟩ ?_
  rintro _ _ ⟨rfl, rfl⟩
  refine z_s 9 hB dX5_isDue_8 rfl rfl ?_
  refine z_s 10 hB dX5_isDue_9 rfl rfl ?_
  refine z_s 11 hB dX5_isDue_10 rfl rfl ?_
  refine z_callS 14 hB hM.2.1 kX5_64 dX5_isDue_11 rfl (c_X9_mod 0) (by omega) rfl rfl (Nat.le_of_ble_eq_true rfl) ⟨Nat.le_refl _, Nat.le_refl _⟩ ?_
  rintro _ _ ⟨rfl, rfl⟩
  refine z_s 15 hB dX5_isDue_14 rfl rfl ?_
  refine z_getR 18 hB fX5_26 (L7 (zS := zS) hL) dX5_isDue_15 rfl rfl (r7_3 (zS := zS) hL) ?_
  refine z_s 19 hB dX5_isDue_18 rfl rfl ?_
  refine z_callV 22 hB hM.2.1 kX5_68 dX5_isDue_19 rfl (L14 (zS := zS) hL) rfl (c_X3_at 0 (w14 (zS := zS) hL) (by decide) _) (by omega) rfl rfl (Nat.le_of_ble_eq_true rfl) ⟨Nat.le_refl _, Nat.le_refl _⟩ ?_
  rintro _ _ ⟨rfl, rfl⟩
  refine z_s 23 hB dX5_isDue_22 rfl rfl ?_
  refine z_callS 26 hB hM.2.1 kX5_64 dX5_isDue_23 rfl (c_X9_mod 0) (by omega) rfl rfl (Nat.le_of_ble_eq_true rfl) ⟨Nat.le_refl _, Nat.le_refl _⟩ ?_
  rintro _ _ ⟨rfl, rfl⟩
  refine z_b 29 33 hB dX5_isDue_26 rfl rfl (by decide) (fun c_26 => ?_) (fun c_26 => ?_)
  ·
    refine z_s 34 hB dX5_isDue_33 rfl rfl ?_
    refine z_zret hM dX5_isDue_34 rfl (by decide) ?_ rfl rfl
    exact ⟨rfl, by rw [e, decide_eq_false (by exact c_26)]; rfl⟩
  ·
    refine z_s 30 hB dX5_isDue_29 rfl rfl ?_
    refine z_j 34 hB dX5_isDue_30 (by decide) ?_
    refine z_zret hM dX5_isDue_34 rfl (by decide) ?_ rfl rfl
    exact ⟨rfl, by rw [e, decide_eq_true (by exact c_26)]; rfl⟩

theorem c_X5_comes {g : z_U} (d : Nat) {zS : z_S} {zV : z_V} (hL : z_L zS) (hV : z_rV (z_I zS) 7 zV) {c : Nat} (hc : c < 10) (t : Int32) : z_C g (d + 1) 0 0 mX5_comes [.ref 7, .int (nI c), .int t] zS (fun r zS' => zS = zS' ∧ r = some (.int (if z_comes zV t c then 1 else 0))) := by
  refine z_enter [some (.ref 7), some (.int (nI c)), some (.int t)] rfl rfl (Nat.le_of_ble_eq_true rfl) rfl (fun zX hM => ?_)
  have hB : z_B g zX RX5 cX5_comes 3 := hM.1
  have e2 := z_rd_V hV 4 (by decide) (j := c) (n := 10) (a := 17) rfl rfl hc
  have e : z_comes zV t c = decide (zV.1 4 c = z_mod t 14) := rfl
  rw [← e2] at e
  refine z_s 1 hB dX5_comes_0 rfl rfl ?_
  refine z_getR 4 hB fX5_29 (L7 (zS := zS) hL) dX5_comes_1 rfl rfl (r7_4 (zS := zS) hL) ?_
  refine z_s 5 hB dX5_comes_4 rfl rfl ?_
  refine z_callV 8 hB hM.2.1 kX5_68 dX5_comes_5 rfl (L16 (zS := zS) hL) rfl (c_X3_at 0 (w16 (zS := zS) hL) (by decide) _) (by omega) rfl rfl (Nat.le_of_ble_eq_true rfl) ⟨Nat.le_refl _, Nat.le_refl _⟩ ?_
  rintro _ _ ⟨rfl, rfl⟩
  refine z_s 9 hB dX5_comes_8 rfl rfl ?_
  refine z_s 11 hB dX5_comes_9 rfl rfl ?_
  refine z_callS 14 hB hM.2.1 kX5_64 dX5_comes_11 rfl (c_X9_mod 0) (by omega) rfl rfl (Nat.le_of_ble_eq_true rfl) ⟨Nat.le_refl _, Nat.le_refl _⟩ ?_
  rintro _ _ ⟨rfl, rfl⟩
  refine z_b 17 21 hB dX5_comes_14 rfl rfl (by decide) (fun c_14 => ?_) (fun c_14 => ?_)
  ·
    refine z_s 22 hB dX5_comes_21 rfl rfl ?_
    refine z_zret hM dX5_comes_22 rfl (by decide) ?_ rfl rfl
    exact ⟨rfl, by rw [e, decide_eq_false (by exact c_14)]; rfl⟩
  ·
    refine z_s 18 hB dX5_comes_17 rfl rfl ?_
    refine z_j 22 hB dX5_comes_18 (by decide) ?_
    refine z_zret hM dX5_comes_22 rfl (by decide) ?_ rfl rfl
    exact ⟨rfl, by rw [e, decide_eq_true (by exact c_14)]; rfl⟩

theorem c_X5_hasDog {g : z_U} (d : Nat) {zS : z_S} {zV : z_V} (hL : z_L zS) (hV : z_rV (z_I zS) 7 zV) (t : Int32) : z_C g (d + 1) 0 0 mX5_hasDog [.ref 7, .int t] zS (fun r zS' => zS = zS' ∧ r = some (.int (if z_hasDog zV t then 1 else 0))) := by
  refine z_enter [some (.ref 7), some (.int t)] rfl rfl (Nat.le_of_ble_eq_true rfl) rfl (fun zX hM => ?_)
  have hB : z_B g zX RX5 cX5_hasDog 2 := hM.1
  have e1 : z_I zS 7 12 = zV.2.2.2 := hV.2.2.2.1
  have e : z_hasDog zV t = (decide (0 < zV.2.2.2) && decide (z_mod t zV.2.2.2 = 0)) := rfl
  rw [← e1] at e
  refine z_s 1 hB dX5_hasDog_0 rfl rfl ?_
  refine z_getI 4 hB fX5_57 (L7 (zS := zS) hL) dX5_hasDog_1 rfl rfl ?_
  refine z_b 7 22 hB dX5_hasDog_4 rfl rfl (by decide) (fun c_4 => ?_) (fun c_4 => ?_)
  ·
    refine z_s 23 hB dX5_hasDog_22 rfl rfl ?_
    refine z_zret hM dX5_hasDog_23 rfl (by decide) ?_ rfl rfl
    exact ⟨rfl, by rw [e, decide_eq_false (z_nlt0 c_4)]; rfl⟩
  ·
    refine z_s 8 hB dX5_hasDog_7 rfl rfl ?_
    refine z_s 9 hB dX5_hasDog_8 rfl rfl ?_
    refine z_getI 12 hB fX5_57 (L7 (zS := zS) hL) dX5_hasDog_9 rfl rfl ?_
    refine z_callS 15 hB hM.2.1 kX5_64 dX5_hasDog_12 rfl (c_X9_mod 0) (by omega) rfl rfl (Nat.le_of_ble_eq_true rfl) ⟨Nat.le_refl _, Nat.le_refl _⟩ ?_
    rintro _ _ ⟨rfl, rfl⟩
    refine z_b 18 22 hB dX5_hasDog_15 rfl rfl (by decide) (fun c_15 => ?_) (fun c_15 => ?_)
    ·
      refine z_s 23 hB dX5_hasDog_22 rfl rfl ?_
      refine z_zret hM dX5_hasDog_23 rfl (by decide) ?_ rfl rfl
      exact ⟨rfl, by rw [e, decide_eq_true c_4, decide_eq_false (by exact c_15)]; rfl⟩
    ·
      refine z_s 19 hB dX5_hasDog_18 rfl rfl ?_
      refine z_j 23 hB dX5_hasDog_19 (by decide) ?_
      refine z_zret hM dX5_hasDog_23 rfl (by decide) ?_ rfl rfl
      exact ⟨rfl, by rw [e, decide_eq_true c_4, decide_eq_true (by exact c_15)]; rfl⟩

theorem c_X9_wakes {g : z_U} (d : Nat) {zS : z_S} {way pence kind : Int32} : z_C g (d) 0 0 mX9_wakes [.int way, .int pence, .int kind] zS (fun r zS' => zS = zS' ∧ r = some (.int (z_wakes way pence kind))) := by
  refine z_enter [some (.int way), some (.int pence), some (.int kind)] rfl rfl (Nat.le_of_ble_eq_true rfl) rfl (fun zX hM => ?_)
  have hB : z_B g zX RX9 cX9_wakes 3 := hM.1
  refine z_s 1 hB dX9_wakes_0 rfl rfl ?_
  by_cases h0 : way = 0
  · subst h0
    refine z_tsw hB dX9_wakes_1 28 (by decide) (by decide) ?_
    refine z_s 29 hB dX9_wakes_28 rfl rfl ?_
    refine z_s 30 hB dX9_wakes_29 rfl rfl ?_
    refine z_b 33 44 hB dX9_wakes_30 rfl rfl (by decide) (fun c_30 => ?_) (fun c_30 => ?_)
    ·
      refine z_s 45 hB dX9_wakes_44 rfl rfl ?_
      refine z_j 49 hB dX9_wakes_45 (by decide) ?_
      refine z_zret hM dX9_wakes_49 rfl (by decide) ?_ rfl rfl
      exact ⟨rfl, by unfold z_wakes; rw [if_pos rfl, if_pos (Or.inl c_30)]⟩
    ·
      refine z_s 34 hB dX9_wakes_33 rfl rfl ?_
      refine z_s 35 hB dX9_wakes_34 rfl rfl ?_
      refine z_b 38 48 hB dX9_wakes_35 rfl rfl (by decide) (fun c_35 => ?_) (fun c_35 => ?_)
      ·
        refine z_s 49 hB dX9_wakes_48 rfl rfl ?_
        refine z_zret hM dX9_wakes_49 rfl (by decide) ?_ rfl rfl
        exact ⟨rfl, by unfold z_wakes; rw [if_pos rfl, if_neg (fun h => h.elim (fun q => c_30 q) (fun q => c_35 q.1))]⟩
      ·
        refine z_s 39 hB dX9_wakes_38 rfl rfl ?_
        refine z_s 41 hB dX9_wakes_39 rfl rfl ?_
        refine z_b 44 48 hB dX9_wakes_41 rfl rfl (by decide) (fun c_41 => ?_) (fun c_41 => ?_)
        ·
          refine z_s 49 hB dX9_wakes_48 rfl rfl ?_
          refine z_zret hM dX9_wakes_49 rfl (by decide) ?_ rfl rfl
          exact ⟨rfl, by unfold z_wakes; rw [if_pos rfl, if_neg (fun h => h.elim (fun q => c_30 q) (fun q => z_nlt0 c_41 q.2))]⟩
        ·
          refine z_s 45 hB dX9_wakes_44 rfl rfl ?_
          refine z_j 49 hB dX9_wakes_45 (by decide) ?_
          refine z_zret hM dX9_wakes_49 rfl (by decide) ?_ rfl rfl
          exact ⟨rfl, by unfold z_wakes; rw [if_pos rfl, if_pos (Or.inr ⟨c_35, c_41⟩)]⟩
  by_cases h1 : way = 1
  · subst h1
    refine z_tsw hB dX9_wakes_1 50 (by decide) (by decide) ?_
    refine z_s 51 hB dX9_wakes_50 rfl rfl ?_
    refine z_b 54 58 hB dX9_wakes_51 rfl rfl (by decide) (fun c_51 => ?_) (fun c_51 => ?_)
    ·
      refine z_s 59 hB dX9_wakes_58 rfl rfl ?_
      refine z_zret hM dX9_wakes_59 rfl (by decide) ?_ rfl rfl
      exact ⟨rfl, by unfold z_wakes; rw [if_neg h0, if_pos rfl, if_neg c_51]⟩
    ·
      refine z_s 55 hB dX9_wakes_54 rfl rfl ?_
      refine z_j 59 hB dX9_wakes_55 (by decide) ?_
      refine z_zret hM dX9_wakes_59 rfl (by decide) ?_ rfl rfl
      exact ⟨rfl, by unfold z_wakes; rw [if_neg h0, if_pos rfl, if_pos c_51]⟩
  by_cases h2 : way = 2
  · subst h2
    refine z_tsw hB dX9_wakes_1 60 (by decide) (by decide) ?_
    refine z_s 61 hB dX9_wakes_60 rfl rfl ?_
    refine z_s 62 hB dX9_wakes_61 rfl rfl ?_
    refine z_b 65 69 hB dX9_wakes_62 rfl rfl (by decide) (fun c_62 => ?_) (fun c_62 => ?_)
    ·
      refine z_s 70 hB dX9_wakes_69 rfl rfl ?_
      refine z_zret hM dX9_wakes_70 rfl (by decide) ?_ rfl rfl
      exact ⟨rfl, by unfold z_wakes; rw [if_neg h0, if_neg h1, if_pos rfl, if_neg c_62]⟩
    ·
      refine z_s 66 hB dX9_wakes_65 rfl rfl ?_
      refine z_j 70 hB dX9_wakes_66 (by decide) ?_
      refine z_zret hM dX9_wakes_70 rfl (by decide) ?_ rfl rfl
      exact ⟨rfl, by unfold z_wakes; rw [if_neg h0, if_neg h1, if_pos rfl, if_pos c_62]⟩
  · have hout : way.toInt < 0 ∨ 2 < way.toInt := by
      rcases Int.lt_or_le way.toInt 0 with h | h
      · exact Or.inl h
      · rcases Int.lt_or_le 2 way.toInt with h' | h'
        · exact Or.inr h'
        · exfalso
          have : way.toInt = 0 ∨ way.toInt = 1 ∨ way.toInt = 2 := by omega
          rcases this with q | q | q
          · exact h0 (Int32.toInt_inj.mp (by rw [q]; decide))
          · exact h1 (Int32.toInt_inj.mp (by rw [q]; decide))
          · exact h2 (Int32.toInt_inj.mp (by rw [q]; decide))
    refine z_tsw hB dX9_wakes_1 71 (by rw [if_pos hout]; decide) (fun q1 q2 => by rcases hout with h | h <;> omega) ?_
    refine z_s 72 hB dX9_wakes_71 rfl rfl ?_
    refine z_zret hM dX9_wakes_72 rfl (by decide) ?_ rfl rfl
    exact ⟨rfl, by unfold z_wakes; rw [if_neg h0, if_neg h1, if_neg h2]⟩

theorem c_X5_rouses {g : z_U} (d : Nat) {zS : z_S} {zV : z_V} (hL : z_L zS) (hV : z_rV (z_I zS) 7 zV) {c s : Nat} (hc : c < 10) (hs : s < 6) : z_C g (d + 1) 0 0 mX5_rouses [.ref 7, .int (nI c), .int (nI s)] zS (fun r zS' => zS = zS' ∧ r = some (.int (z_wakes (zV.1 6 c) (zV.1 7 c) (zV.1 0 s)))) := by
  refine z_enter [some (.ref 7), some (.int (nI c)), some (.int (nI s))] rfl rfl (Nat.le_of_ble_eq_true rfl) rfl (fun zX hM => ?_)
  have hB : z_B g zX RX5 cX5_rouses 3 := hM.1
  have e1 := z_rd_V hV 6 (by decide) (j := c) (n := 10) (a := 21) rfl rfl hc
  have e2 := z_rd_V hV 7 (by decide) (j := c) (n := 10) (a := 23) rfl rfl hc
  have e3 := z_rd_V hV 0 (by decide) (j := s) (n := 6) (a := 9) rfl rfl hs
  refine z_s 1 hB dX5_rouses_0 rfl rfl ?_
  refine z_getR 4 hB fX5_35 (L7 (zS := zS) hL) dX5_rouses_1 rfl rfl (r7_6 (zS := zS) hL) ?_
  refine z_s 5 hB dX5_rouses_4 rfl rfl ?_
  refine z_callV 8 hB hM.2.1 kX5_68 dX5_rouses_5 rfl (L20 (zS := zS) hL) rfl (c_X3_at 0 (w20 (zS := zS) hL) (by decide) _) (by omega) rfl rfl (Nat.le_of_ble_eq_true rfl) ⟨Nat.le_refl _, Nat.le_refl _⟩ ?_
  rintro _ _ ⟨rfl, rfl⟩
  refine z_s 9 hB dX5_rouses_8 rfl rfl ?_
  refine z_getR 12 hB fX5_38 (L7 (zS := zS) hL) dX5_rouses_9 rfl rfl (r7_7 (zS := zS) hL) ?_
  refine z_s 13 hB dX5_rouses_12 rfl rfl ?_
  refine z_callV 16 hB hM.2.1 kX5_68 dX5_rouses_13 rfl (L22 (zS := zS) hL) rfl (c_X3_at 0 (w22 (zS := zS) hL) (by decide) _) (by omega) rfl rfl (Nat.le_of_ble_eq_true rfl) ⟨Nat.le_refl _, Nat.le_refl _⟩ ?_
  rintro _ _ ⟨rfl, rfl⟩
  refine z_s 17 hB dX5_rouses_16 rfl rfl ?_
  refine z_getR 20 hB fX5_14 (L7 (zS := zS) hL) dX5_rouses_17 rfl rfl (r7_0 (zS := zS) hL) ?_
  refine z_s 21 hB dX5_rouses_20 rfl rfl ?_
  refine z_callV 24 hB hM.2.1 kX5_68 dX5_rouses_21 rfl (L8 (zS := zS) hL) rfl (c_X3_at 0 (w8 (zS := zS) hL) (by decide) _) (by omega) rfl rfl (Nat.le_of_ble_eq_true rfl) ⟨Nat.le_refl _, Nat.le_refl _⟩ ?_
  rintro _ _ ⟨rfl, rfl⟩
  refine z_callS 27 hB hM.2.1 kX5_76 dX5_rouses_24 rfl (c_X9_wakes 0) (by omega) rfl rfl (Nat.le_of_ble_eq_true rfl) ⟨Nat.le_refl _, Nat.le_refl _⟩ ?_
  rintro _ _ ⟨rfl, rfl⟩
  refine z_zret hM dX5_rouses_27 rfl (z_wakes_bit _ _ _) ?_ rfl rfl
  exact ⟨rfl, by rw [e1, e2, e3]⟩
