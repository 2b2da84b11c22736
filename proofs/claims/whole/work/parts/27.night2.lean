/-! the night, go on: sell, attend, firstFor, open, play, close -/
theorem z_Ine {zS : z_S} {o k o' k' : Nat} {v : Int32} (h : o' ≠ o ∨ k' ≠ k) : z_I (z_pI zS o k v) o' k' = z_I zS o' k' := z_u2_ne h
theorem z_Ieq {zS : z_S} {o k : Nat} {v : Int32} : z_I (z_pI zS o k v) o k = v := z_u2_same _ _ _ _
theorem c_X1_sell {g : z_U} (d : Nat) {zS : z_S} {zV : z_V} (hL : z_L zS) (hV : z_rV (z_I zS) 7 zV) {c s : Nat} (hc : c < 10) : z_C g (d + 1) 0 0 mX1_sell [.ref 48, .int (nI c), .int (nI s)] zS (fun r zS' => r = none ∧ z_pI (z_pI (z_pI (z_pI zS 50 c (nI s)) 48 4 (z_I zS 48 4 + 1)) 48 8 (z_I zS 48 8 + z_pay zV c * 9 / 100)) 48 7 (z_I zS 48 7 + (z_pay zV c - z_pay zV c * 9 / 100)) = zS') := by
  refine z_enter [some (.ref 48), some (.int (nI c)), some (.int (nI s)), none, none] rfl rfl (Nat.le_of_ble_eq_true rfl) rfl (fun zX hM => ?_)
  have hB : z_B g zX RX1 cX1_sell 5 := hM.1
  have e1 : z_I zS 21 c = zV.1 6 c := hV.1 6 (by decide) c (by unfold z_vl; exact hc)
  have e2 : z_I zS 23 c = zV.1 7 c := hV.1 7 (by decide) c (by unfold z_vl; exact hc)
  refine z_s 1 hB dX1_sell_0 rfl rfl ?_
  refine z_getR 4 hB fX1_20 (L48 (zS := zS) hL) dX1_sell_1 rfl rfl (r48_0 (zS := zS) hL) ?_
  refine z_getR 7 hB fX1_112 (L7 (zS := zS) hL) dX1_sell_4 rfl rfl (r7_6 (zS := zS) hL) ?_
  refine z_s 8 hB dX1_sell_7 rfl rfl ?_
  refine z_callV 11 hB hM.2.1 kX1_76 dX1_sell_8 rfl (L20 (zS := zS) hL) rfl (c_at 0 (w20 (zS := zS) hL) (by decide) hc) (by omega) rfl rfl (Nat.le_of_ble_eq_true rfl) ⟨Nat.le_refl _, Nat.le_refl _⟩ ?_
  rintro _ _ ⟨rfl, rfl⟩
  refine z_s 12 hB dX1_sell_11 rfl rfl ?_
  refine z_b 15 19 hB dX1_sell_12 rfl rfl (by decide) (fun c_12 => ?_) (fun c_12 => ?_)
  ·
    refine z_s 20 hB dX1_sell_19 rfl rfl ?_
    refine z_getR 23 hB fX1_20 (L48 (zS := zS) hL) dX1_sell_20 rfl rfl (r48_0 (zS := zS) hL) ?_
    refine z_getR 26 hB fX1_115 (L7 (zS := zS) hL) dX1_sell_23 rfl rfl (r7_7 (zS := zS) hL) ?_
    refine z_s 27 hB dX1_sell_26 rfl rfl ?_
    refine z_callV 30 hB hM.2.1 kX1_76 dX1_sell_27 rfl (L22 (zS := zS) hL) rfl (c_at 0 (w22 (zS := zS) hL) (by decide) hc) (by omega) rfl rfl (Nat.le_of_ble_eq_true rfl) ⟨Nat.le_refl _, Nat.le_refl _⟩ ?_
    rintro _ _ ⟨rfl, rfl⟩
    refine z_s 31 hB dX1_sell_30 rfl rfl ?_
    refine z_s 32 hB dX1_sell_31 rfl rfl ?_
    refine z_s 34 hB dX1_sell_32 rfl rfl ?_
    refine z_s 35 hB dX1_sell_34 rfl rfl ?_
    refine z_s 37 hB dX1_sell_35 rfl rfl ?_
    refine z_idiv 38 hB dX1_sell_37 rfl (by decide) ?_
    refine z_s 40 hB dX1_sell_38 rfl rfl ?_
    refine z_s 41 hB dX1_sell_40 rfl rfl ?_
    refine z_getR 44 hB fX1_14 (L48 (zS := zS) hL) dX1_sell_41 rfl rfl (r48_1 (zS := zS) hL) ?_
    refine z_s 45 hB dX1_sell_44 rfl rfl ?_
    refine z_s 46 hB dX1_sell_45 rfl rfl ?_
    refine z_callV 49 hB hM.2.1 kX1_118 dX1_sell_46 rfl (L49 (zS := zS) hL) rfl (c_put 0 (w49 (zS := zS) hL) (by decide) hc) (by omega) rfl rfl (Nat.le_of_ble_eq_true rfl) ⟨Nat.le_refl _, Nat.le_refl _⟩ ?_
    rintro _ _ ⟨rfl, rfl⟩
    refine z_s 50 hB dX1_sell_49 rfl rfl ?_
    refine z_s 51 hB dX1_sell_50 rfl rfl ?_
    refine z_getI 54 hB fX1_49 (L48 (zS := zS) hL) dX1_sell_51 rfl rfl ?_
    refine z_s 55 hB dX1_sell_54 rfl rfl ?_
    refine z_s 56 hB dX1_sell_55 rfl rfl ?_
    refine z_putI 59 hB fX1_49 (L48 (zS := zS) hL) dX1_sell_56 rfl rfl rfl ?_
    refine z_s 60 hB dX1_sell_59 rfl rfl ?_
    refine z_s 61 hB dX1_sell_60 rfl rfl ?_
    refine z_getI 64 hB fX1_61 (L48 (zS := zS) hL) dX1_sell_61 rfl rfl ?_
    refine z_s 66 hB dX1_sell_64 rfl rfl ?_
    refine z_s 67 hB dX1_sell_66 rfl rfl ?_
    refine z_putI 70 hB fX1_61 (L48 (zS := zS) hL) dX1_sell_67 rfl rfl rfl ?_
    refine z_s 71 hB dX1_sell_70 rfl rfl ?_
    refine z_s 72 hB dX1_sell_71 rfl rfl ?_
    refine z_getI 75 hB fX1_58 (L48 (zS := zS) hL) dX1_sell_72 rfl rfl ?_
    refine z_s 76 hB dX1_sell_75 rfl rfl ?_
    refine z_s 78 hB dX1_sell_76 rfl rfl ?_
    refine z_s 79 hB dX1_sell_78 rfl rfl ?_
    refine z_s 80 hB dX1_sell_79 rfl rfl ?_
    refine z_putI 83 hB fX1_58 (L48 (zS := zS) hL) dX1_sell_80 rfl rfl rfl ?_
    refine z_vret hM dX1_sell_83 rfl ?_ rfl rfl
    have e3 : z_pay zV c = z_I zS 23 c := by
      unfold z_pay
      rw [if_neg (by rw [← e1]; exact c_12), e2]
    rw [e3]
    exact ⟨rfl, rfl⟩
  ·
    refine z_s 16 hB dX1_sell_15 rfl rfl ?_
    refine z_j 30 hB dX1_sell_16 (by decide) ?_
    refine z_s 31 hB dX1_sell_30 rfl rfl ?_
    refine z_s 32 hB dX1_sell_31 rfl rfl ?_
    refine z_s 34 hB dX1_sell_32 rfl rfl ?_
    refine z_s 35 hB dX1_sell_34 rfl rfl ?_
    refine z_s 37 hB dX1_sell_35 rfl rfl ?_
    refine z_idiv 38 hB dX1_sell_37 rfl (by decide) ?_
    refine z_s 40 hB dX1_sell_38 rfl rfl ?_
    refine z_s 41 hB dX1_sell_40 rfl rfl ?_
    refine z_getR 44 hB fX1_14 (L48 (zS := zS) hL) dX1_sell_41 rfl rfl (r48_1 (zS := zS) hL) ?_
    refine z_s 45 hB dX1_sell_44 rfl rfl ?_
    refine z_s 46 hB dX1_sell_45 rfl rfl ?_
    refine z_callV 49 hB hM.2.1 kX1_118 dX1_sell_46 rfl (L49 (zS := zS) hL) rfl (c_put 0 (w49 (zS := zS) hL) (by decide) hc) (by omega) rfl rfl (Nat.le_of_ble_eq_true rfl) ⟨Nat.le_refl _, Nat.le_refl _⟩ ?_
    rintro _ _ ⟨rfl, rfl⟩
    refine z_s 50 hB dX1_sell_49 rfl rfl ?_
    refine z_s 51 hB dX1_sell_50 rfl rfl ?_
    refine z_getI 54 hB fX1_49 (L48 (zS := zS) hL) dX1_sell_51 rfl rfl ?_
    refine z_s 55 hB dX1_sell_54 rfl rfl ?_
    refine z_s 56 hB dX1_sell_55 rfl rfl ?_
    refine z_putI 59 hB fX1_49 (L48 (zS := zS) hL) dX1_sell_56 rfl rfl rfl ?_
    refine z_s 60 hB dX1_sell_59 rfl rfl ?_
    refine z_s 61 hB dX1_sell_60 rfl rfl ?_
    refine z_getI 64 hB fX1_61 (L48 (zS := zS) hL) dX1_sell_61 rfl rfl ?_
    refine z_s 66 hB dX1_sell_64 rfl rfl ?_
    refine z_s 67 hB dX1_sell_66 rfl rfl ?_
    refine z_putI 70 hB fX1_61 (L48 (zS := zS) hL) dX1_sell_67 rfl rfl rfl ?_
    refine z_s 71 hB dX1_sell_70 rfl rfl ?_
    refine z_s 72 hB dX1_sell_71 rfl rfl ?_
    refine z_getI 75 hB fX1_58 (L48 (zS := zS) hL) dX1_sell_72 rfl rfl ?_
    refine z_s 76 hB dX1_sell_75 rfl rfl ?_
    refine z_s 78 hB dX1_sell_76 rfl rfl ?_
    refine z_s 79 hB dX1_sell_78 rfl rfl ?_
    refine z_s 80 hB dX1_sell_79 rfl rfl ?_
    refine z_putI 83 hB fX1_58 (L48 (zS := zS) hL) dX1_sell_80 rfl rfl rfl ?_
    refine z_vret hM dX1_sell_83 rfl ?_ rfl rfl
    have e3 : z_pay zV c = 0 := by
      unfold z_pay
      rw [if_pos (by rw [← e1]; exact c_12)]
    rw [e3]
    exact ⟨rfl, rfl⟩

/-- the first of n that are so -/
def z_ff (f : Nat → Bool) : Nat → Nat → Int32
  | 0, _ => -4
  | m + 1, s => if f s then nI s else z_ff f m (s + 1)
theorem z_ff_skip {f : Nat → Bool} : ∀ (j m s : Nat), (∀ i, s ≤ i → i < s + j → f i = false) → z_ff f (j + m) s = z_ff f m (s + j)
  | 0, m, s, _ => by rw [Nat.zero_add]; rfl
  | j + 1, m, s, h => by
    rw [show j + 1 + m = (j + m) + 1 by omega, z_ff, h s (Nat.le_refl _) (by omega)]
    rw [if_neg Bool.false_ne_true, z_ff_skip j m (s + 1) (fun i h1 h2 => h i (by omega) (by omega)), show s + 1 + j = s + (j + 1) by omega]
theorem z_ff_hit {f : Nat → Bool} {n j : Nat} (hj : j < n) (h : ∀ i, i < j → f i = false) (hf : f j = true) : z_ff f n 0 = nI j := by
  have e := z_ff_skip j (n - j) 0 (fun i _ h2 => h i (by omega))
  rw [show j + (n - j) = n by omega, Nat.zero_add] at e
  rw [e, show n - j = (n - j - 1) + 1 by omega, z_ff, hf, if_pos rfl]
theorem z_ff_no {f : Nat → Bool} {n : Nat} (h : ∀ i, i < n → f i = false) : z_ff f n 0 = -4 := by
  have e := z_ff_skip n 0 0 (fun i _ h2 => h i (by omega))
  rw [Nat.add_zero] at e
  rw [e]; rfl
theorem c_X1_firstFor {g : z_U} (d : Nat) {zS : z_S} (hL : z_L zS) {n : Nat} (hn : z_I zS 7 9 = nI n) (hn6 : n ≤ 6) {th : Int32} : z_C g (d + 2) 0 0 mX1_firstFor [.ref 48, .int th] zS (fun r zS' => zS = zS' ∧ r = some (.int (z_ff (fun s => z_hb (z_I zS 48 2 &&& (z_I zS 48 3 ^^^ -1) &&& z_rd (z_I zS) 25 6 th) s) n 0))) := by
  refine z_enter [some (.ref 48), some (.int th), none] rfl rfl (Nat.le_of_ble_eq_true rfl) rfl (fun zX hM => ?_)
  have hB : z_B g zX RX1 cX1_firstFor 3 := hM.1
  have loop := z_loop (fun j => (∀ i, i < j → z_hb (z_I zS 48 2 &&& (z_I zS 48 3 ^^^ -1) &&& z_rd (z_I zS) 25 6 th) i = false) → z_W g zX 2 [some (.ref 48), some (.int th), some (.int (nI j))] [] 0 0 zS) n (fun j hj ih hb => by
    refine z_s 3 hB dX1_firstFor_2 rfl rfl ?_
    refine z_s 4 hB dX1_firstFor_3 rfl rfl ?_
    refine z_getR 7 hB fX1_20 (L48 (zS := zS) hL) dX1_firstFor_4 rfl rfl (r48_0 (zS := zS) hL) ?_
    refine z_getI 10 hB fX1_67 (L7 (zS := zS) hL) dX1_firstFor_7 rfl rfl ?_
    refine z_b 13 30 hB dX1_firstFor_10 rfl rfl (by decide) (fun c_10 => ?_) (fun c_10 => ?_)
    ·
      have hjs : n ≤ j := (nI_leI (by omega) (by omega)).mp (by rw [← hn]; exact c_10)
      refine z_s 32 hB dX1_firstFor_30 rfl rfl ?_
      refine z_iret hM dX1_firstFor_32 rfl ?_ rfl rfl
      exact ⟨rfl, by rw [z_ff_no (n := n) (fun i hi => hb i (by omega))]⟩
    ·
      have hjs : j < n := (nI_ltI (by omega) (by omega)).mp (by rw [← hn]; exact c_10)
      refine z_s 14 hB dX1_firstFor_13 rfl rfl ?_
      refine z_s 15 hB dX1_firstFor_14 rfl rfl ?_
      refine z_s 16 hB dX1_firstFor_15 rfl rfl ?_
      refine z_callV 19 hB hM.2.1 kX1_99 dX1_firstFor_16 rfl (L48 (zS := zS) hL) rfl (c_X1_isReadyFor 0 hL) (by omega) rfl rfl (Nat.le_of_ble_eq_true rfl) ⟨Nat.le_refl _, Nat.le_refl _⟩ ?_
      rintro _ _ ⟨rfl, rfl⟩
      refine z_b 22 24 hB dX1_firstFor_19 rfl rfl (by decide) (fun c_19 => ?_) (fun c_19 => ?_)
      ·
        refine z_s 27 hB dX1_firstFor_24 rfl rfl ?_
        refine z_j 2 hB dX1_firstFor_27 (by decide) ?_
        exact z_eq (ih hjs (fun i hi => by rcases Nat.lt_or_ge i j with q | q; exact hb i q; rw [show i = j by omega]; exact z_if0 c_19)) (by rw [← z_inc]; rfl) rfl rfl
      ·
        refine z_s 23 hB dX1_firstFor_22 rfl rfl ?_
        refine z_iret hM dX1_firstFor_23 rfl ?_ rfl rfl
        exact ⟨rfl, by rw [z_ff_hit hjs (hb) (z_if1 c_19)]⟩) 0 (Nat.zero_le n) (fun i hi => absurd hi (Nat.not_lt_zero i))
  refine z_s 1 hB dX1_firstFor_0 rfl rfl ?_
  refine z_s 2 hB dX1_firstFor_1 rfl rfl ?_
  exact z_eq loop rfl rfl rfl

theorem z_scan_step {w srv K : Int32} {wk : Nat → Bool} {n j : Nat} (hj : j < n) : z_scan w srv wk (n - j) j K = if z_hb (w &&& (K ^^^ -1) &&& srv) j then (if wk j then z_scan w srv wk (n - (j + 1)) (j + 1) (K ||| (1 <<< (nI j &&& 31))) else (K, some j)) else z_scan w srv wk (n - (j + 1)) (j + 1) K := by
  rw [show n - j = (n - (j + 1)) + 1 by omega]; rfl
theorem z_pI_pI (zS : z_S) (o k : Nat) (v v2 : Int32) : z_pI (z_pI zS o k v) o k v2 = z_pI zS o k v2 := by
  have e : z_u2 (z_u2 zS.2.1 o k v) o k v2 = z_u2 zS.2.1 o k v2 := by
    funext q j
    unfold z_u2
    by_cases h : q = o ∧ j = k
    · rw [if_pos h, if_pos h]
    · rw [if_neg h, if_neg h, if_neg h]
  show (zS.1, z_u2 (z_u2 zS.2.1 o k v) o k v2, zS.2.2) = _
  rw [e]; rfl
theorem z_pI_id (zS : z_S) (o k : Nat) : z_pI zS o k (z_I zS o k) = zS := by
  have e : z_u2 zS.2.1 o k (z_I zS o k) = zS.2.1 := by
    funext q j
    unfold z_u2
    by_cases h : q = o ∧ j = k
    · rw [if_pos h, h.1, h.2]; rfl
    · rw [if_neg h]
  show (zS.1, z_u2 zS.2.1 o k (z_I zS o k), zS.2.2) = zS
  rw [e]
theorem z_PN7 : ∀ q : Nat, 7 ≤ q → q < 7 + 19 → ¬ z_PN q := fun q _ h2 h3 => by
  rcases h3 with h | h <;> omega
theorem z_w1 {a b c : Int32} (h : ¬ z_wakes a b c = 0) : z_wakes a b c = 1 := by
  have e := z_wakes_bit a b c
  rcases z_bit01 (z_wakes a b c) with q | q
  · rw [e] at q; exact absurd q h
  · rw [e] at q; exact q
theorem z_attS {zS : z_S} {zV : z_V} {w K : Int32} {D : z_N} {c j : Nat} (hN : z_rN (z_I zS) w D) (hK : (K, some j) = z_scan (z_I zS 48 2) (z_rd zV.1 8 6 (zV.1 5 c)) (z_rse zV c) zV.2.1 0 (z_I zS 48 3)) :
    ∃ zI', z_up zS zI' = z_pI (z_pI (z_pI (z_pI (z_pI zS 48 3 K) 50 c (nI j)) 48 4 (z_I (z_pI zS 48 3 K) 48 4 + 1)) 48 8 (z_I (z_pI zS 48 3 K) 48 8 + z_pay zV c * 9 / 100)) 48 7 (z_I (z_pI zS 48 3 K) 48 7 + (z_pay zV c - z_pay zV c * 9 / 100)) ∧ z_fr z_PN (z_I zS) zI' ∧ z_rN zI' w (z_at1 zV w D c) := by
  refine ⟨_, rfl, ((((z_fr.rf.u2 (Or.inl rfl)).u2 (Or.inr rfl)).u2 (Or.inl rfl)).u2 (Or.inl rfl)).u2 (Or.inl rfl), ?_⟩
  have e : z_at1 zV w D c = (K, D.2.1 + 1, D.2.2.1, D.2.2.2.1, D.2.2.2.2.1 + (z_pay zV c - z_pay zV c * 9 / 100), D.2.2.2.2.2.1 + z_pay zV c * 9 / 100, fun q => if q = c then nI j else D.2.2.2.2.2.2 q) := by
    unfold z_at1 z_sc
    rw [← hN.1, ← hN.2.1, ← hK]
  rw [e]
  have a3 : z_I (z_pI zS 48 3 K) 48 4 = D.2.1 := (z_Ine (by decide)).trans hN.2.2.1
  have a8 : z_I (z_pI zS 48 3 K) 48 8 = D.2.2.2.2.2.1 := (z_Ine (by decide)).trans hN.2.2.2.2.2.2.1
  have a7 : z_I (z_pI zS 48 3 K) 48 7 = D.2.2.2.2.1 := (z_Ine (by decide)).trans hN.2.2.2.2.2.1
  rw [a3, a8, a7]
  exact z_rN_ti (z_rN_dr (z_rN_sv (z_rN_se (z_rN_K hN))))
theorem z_attN1 {zS : z_S} {zV : z_V} {w K : Int32} {D : z_N} {c j : Nat} (hN : z_rN (z_I zS) w D) (hK : (K, none) = z_scan (z_I zS 48 2) (z_rd zV.1 8 6 (zV.1 5 c)) (z_rse zV c) zV.2.1 0 (z_I zS 48 3)) (h0 : z_I (z_pI zS 48 3 K) 48 5 = 0) :
    ∃ zI', z_up zS zI' = z_pI (z_pI (z_pI zS 48 3 K) 48 6 (nI c)) 48 5 (z_I (z_pI (z_pI zS 48 3 K) 48 6 (nI c)) 48 5 + 1) ∧ z_fr z_PN (z_I zS) zI' ∧ z_rN zI' w (z_at1 zV w D c) := by
  refine ⟨_, rfl, ((z_fr.rf.u2 (Or.inl rfl)).u2 (Or.inl rfl)).u2 (Or.inl rfl), ?_⟩
  have a5 : z_I (z_pI zS 48 3 K) 48 5 = D.2.2.1 := (z_Ine (by decide)).trans hN.2.2.2.1
  have b5 : z_I (z_pI (z_pI zS 48 3 K) 48 6 (nI c)) 48 5 = D.2.2.1 := (z_Ine (by decide)).trans a5
  have e : z_at1 zV w D c = (K, D.2.1, D.2.2.1 + 1, nI c, D.2.2.2.2.1, D.2.2.2.2.2.1, D.2.2.2.2.2.2) := by
    unfold z_at1 z_sc
    rw [← hN.1, ← hN.2.1, ← hK]
    dsimp only
    rw [if_pos (by rw [← a5]; exact h0)]
  rw [e, b5]
  exact z_rN_hm (z_rN_fi (z_rN_K hN))
theorem z_attN2 {zS : z_S} {zV : z_V} {w K : Int32} {D : z_N} {c j : Nat} (hN : z_rN (z_I zS) w D) (hK : (K, none) = z_scan (z_I zS 48 2) (z_rd zV.1 8 6 (zV.1 5 c)) (z_rse zV c) zV.2.1 0 (z_I zS 48 3)) (h0 : ¬ z_I (z_pI zS 48 3 K) 48 5 = 0) :
    ∃ zI', z_up zS zI' = z_pI (z_pI (z_pI zS 48 3 K) 48 6 (z_I (z_pI zS 48 3 K) 48 6)) 48 5 (z_I (z_pI (z_pI zS 48 3 K) 48 6 (z_I (z_pI zS 48 3 K) 48 6)) 48 5 + 1) ∧ z_fr z_PN (z_I zS) zI' ∧ z_rN zI' w (z_at1 zV w D c) := by
  refine ⟨_, rfl, ((z_fr.rf.u2 (Or.inl rfl)).u2 (Or.inl rfl)).u2 (Or.inl rfl), ?_⟩
  have a5 : z_I (z_pI zS 48 3 K) 48 5 = D.2.2.1 := (z_Ine (by decide)).trans hN.2.2.2.1
  have a6 : z_I (z_pI zS 48 3 K) 48 6 = D.2.2.2.1 := (z_Ine (by decide)).trans hN.2.2.2.2.1
  have b5 : z_I (z_pI (z_pI zS 48 3 K) 48 6 (z_I (z_pI zS 48 3 K) 48 6)) 48 5 = D.2.2.1 := (z_Ine (by decide)).trans a5
  have e : z_at1 zV w D c = (K, D.2.1, D.2.2.1 + 1, D.2.2.2.1, D.2.2.2.2.1, D.2.2.2.2.2.1, D.2.2.2.2.2.2) := by
    unfold z_at1 z_sc
    rw [← hN.1, ← hN.2.1, ← hK]
    dsimp only
    rw [if_neg (by rw [← a5]; exact h0)]
  rw [e, b5, a6]
  exact z_rN_hm (z_rN_fi (z_rN_K hN))
theorem c_X1_attend {g : z_U} (d : Nat) {zS : z_S} {zV : z_V} (hL : z_L zS) (hV : z_rV (z_I zS) 7 zV) {w : Int32} {D : z_N} (hN : z_rN (z_I zS) w D) {c : Nat} (hc : c < 10) : z_C g (d + 2) 0 0 mX1_attend [.ref 48, .int (nI c)] zS (fun r zS' => r = none ∧ ∃ zI', z_up zS zI' = zS' ∧ z_fr z_PN (z_I zS) zI' ∧ z_rN zI' w (z_at1 zV w D c)) := by
  refine z_enter [some (.ref 48), some (.int (nI c)), none, none] rfl rfl (Nat.le_of_ble_eq_true rfl) rfl (fun zX hM => ?_)
  have hB : z_B g zX RX1 cX1_attend 4 := hM.1
  have hn : z_I zS 7 9 = nI zV.2.1 := hV.2.1
  have hn6 : zV.2.1 ≤ 6 := hV.2.2.2.2.1
  have e5 : z_I zS 19 c = zV.1 5 c := hV.1 5 (by decide) c (by unfold z_vl; exact hc)
  have loop := z_loop (fun j => ∀ K, z_scan (z_I zS 48 2) (z_rd zV.1 8 6 (zV.1 5 c)) (z_rse zV c) (zV.2.1 - j) j K = z_scan (z_I zS 48 2) (z_rd zV.1 8 6 (zV.1 5 c)) (z_rse zV c) zV.2.1 0 (z_I zS 48 3) → z_W g zX 14 [some (.ref 48), some (.int (nI c)), some (.int (z_I zS 19 c)), some (.int (nI j))] [] 0 0 (z_pI zS 48 3 K)) zV.2.1 (fun j hj ih K hK => by
    refine z_s 15 hB dX1_attend_14 rfl rfl ?_
    refine z_s 16 hB dX1_attend_15 rfl rfl ?_
    refine z_getR 19 hB fX1_20 (L48 (zS := zS) hL) dX1_attend_16 rfl rfl (r48_0 (zS := zS) hL) ?_
    refine z_getI 22 hB fX1_67 (L7 (zS := zS) hL) dX1_attend_19 rfl rfl ?_
    refine z_b 25 71 hB dX1_attend_22 rfl rfl (by decide) (fun c_22 => ?_) (fun c_22 => ?_)
    ·
      have hjs : zV.2.1 ≤ j := (nI_leI (by omega) (by omega)).mp (by rw [← hn]; exact c_22)
      refine z_s 72 hB dX1_attend_71 rfl rfl ?_
      refine z_s 73 hB dX1_attend_72 rfl rfl ?_
      refine z_getI 76 hB fX1_52 (L48 (zS := zS) hL) dX1_attend_73 rfl rfl ?_
      refine z_b 79 83 hB dX1_attend_76 rfl rfl (by decide) (fun c_76 => ?_) (fun c_76 => ?_)
      ·
        refine z_s 84 hB dX1_attend_83 rfl rfl ?_
        refine z_getI 87 hB fX1_55 (L48 (zS := zS) hL) dX1_attend_84 rfl rfl ?_
        refine z_putI 90 hB fX1_55 (L48 (zS := zS) hL) dX1_attend_87 rfl rfl rfl ?_
        refine z_s 91 hB dX1_attend_90 rfl rfl ?_
        refine z_s 92 hB dX1_attend_91 rfl rfl ?_
        refine z_getI 95 hB fX1_52 (L48 (zS := zS) hL) dX1_attend_92 rfl rfl ?_
        refine z_s 96 hB dX1_attend_95 rfl rfl ?_
        refine z_s 97 hB dX1_attend_96 rfl rfl ?_
        refine z_putI 100 hB fX1_52 (L48 (zS := zS) hL) dX1_attend_97 rfl rfl rfl ?_
        refine z_vret hM dX1_attend_100 rfl ?_ rfl rfl
        rw [show zV.2.1 - j = 0 by omega] at hK
        exact ⟨rfl, z_attN2 hN hK c_76⟩
      ·
        refine z_s 80 hB dX1_attend_79 rfl rfl ?_
        refine z_j 87 hB dX1_attend_80 (by decide) ?_
        refine z_putI 90 hB fX1_55 (L48 (zS := zS) hL) dX1_attend_87 rfl rfl rfl ?_
        refine z_s 91 hB dX1_attend_90 rfl rfl ?_
        refine z_s 92 hB dX1_attend_91 rfl rfl ?_
        refine z_getI 95 hB fX1_52 (L48 (zS := zS) hL) dX1_attend_92 rfl rfl ?_
        refine z_s 96 hB dX1_attend_95 rfl rfl ?_
        refine z_s 97 hB dX1_attend_96 rfl rfl ?_
        refine z_putI 100 hB fX1_52 (L48 (zS := zS) hL) dX1_attend_97 rfl rfl rfl ?_
        refine z_vret hM dX1_attend_100 rfl ?_ rfl rfl
        rw [show zV.2.1 - j = 0 by omega] at hK
        exact ⟨rfl, z_attN1 hN hK c_76⟩
    ·
      have hjs : j < zV.2.1 := (nI_ltI (by omega) (by omega)).mp (by rw [← hn]; exact c_22)
      have est := z_scan_step (w := z_I zS 48 2) (srv := z_rd zV.1 8 6 (zV.1 5 c)) (K := K) (wk := z_rse zV c) hjs
      refine z_s 26 hB dX1_attend_25 rfl rfl ?_
      refine z_s 27 hB dX1_attend_26 rfl rfl ?_
      refine z_s 28 hB dX1_attend_27 rfl rfl ?_
      refine z_callV 31 hB hM.2.1 kX1_99 dX1_attend_28 rfl (L48 (zS := zS) hL) rfl (c_X1_isReadyFor 0 (z_L.pI hL)) (by omega) rfl rfl (Nat.le_of_ble_eq_true rfl) ⟨Nat.le_refl _, Nat.le_refl _⟩ ?_
      rintro _ _ ⟨rfl, rfl⟩
      have e7 : z_hb (z_I (z_pI zS 48 3 K) 48 2 &&& (z_I (z_pI zS 48 3 K) 48 3 ^^^ -1) &&& z_rd (z_I (z_pI zS 48 3 K)) 25 6 (z_I zS 19 c)) j = z_hb (z_I zS 48 2 &&& (K ^^^ -1) &&& z_rd zV.1 8 6 (zV.1 5 c)) j := by
        rw [← z_rd_V2 hV, ← e5]
        have q1 : z_I (z_pI zS 48 3 K) 48 2 = z_I zS 48 2 := z_Ine (by decide)
        have q2 : z_I (z_pI zS 48 3 K) 48 3 = K := z_Ieq
        have q3 : z_rd (z_I (z_pI zS 48 3 K)) 25 6 (z_I zS 19 c) = z_rd (z_I zS) 25 6 (z_I zS 19 c) := by
          unfold z_rd
          rw [show z_I (z_pI zS 48 3 K) 25 = z_I zS 25 from funext fun i => z_Ine (Or.inl (by decide))]
        rw [q1, q2, q3]
      rw [e7]
      refine z_b 34 65 hB dX1_attend_31 rfl rfl (by decide) (fun c_31 => ?_) (fun c_31 => ?_)
      ·
        refine z_s 68 hB dX1_attend_65 rfl rfl ?_
        refine z_j 14 hB dX1_attend_68 (by decide) ?_
        rw [if_neg (by rw [z_if0 c_31]; exact Bool.false_ne_true)] at est
        exact z_eq (ih hjs K (by rw [← est]; exact hK)) (by rw [← z_inc]; rfl) rfl rfl
      ·
        refine z_s 35 hB dX1_attend_34 rfl rfl ?_
        refine z_getR 38 hB fX1_20 (L48 (zS := zS) hL) dX1_attend_35 rfl rfl (r48_0 (zS := zS) hL) ?_
        refine z_s 39 hB dX1_attend_38 rfl rfl ?_
        refine z_s 40 hB dX1_attend_39 rfl rfl ?_
        refine z_callV 43 hB hM.2.1 kX1_102 dX1_attend_40 rfl (L7 (zS := zS) hL) rfl (c_X5_rouses 0 (z_L.pI hL) (hV.fr (z_fr.u2 (P := z_PN) z_fr.rf (Or.inl rfl)) (z_PN7)) hc (by omega)) (by omega) rfl rfl (Nat.le_of_ble_eq_true rfl) ⟨Nat.le_refl _, Nat.le_refl _⟩ ?_
        rintro _ _ ⟨rfl, rfl⟩
        refine z_b 46 53 hB dX1_attend_43 rfl rfl (by decide) (fun c_43 => ?_) (fun c_43 => ?_)
        ·
          have ew : z_rse zV c j = true := decide_eq_true (z_w1 c_43)
          refine z_s 54 hB dX1_attend_53 rfl rfl ?_
          refine z_s 55 hB dX1_attend_54 rfl rfl ?_
          refine z_getI 58 hB fX1_46 (L48 (zS := zS) hL) dX1_attend_55 rfl rfl ?_
          refine z_s 59 hB dX1_attend_58 rfl rfl ?_
          refine z_s 60 hB dX1_attend_59 rfl rfl ?_
          refine z_s 61 hB dX1_attend_60 rfl rfl ?_
          refine z_s 62 hB dX1_attend_61 rfl rfl ?_
          refine z_putI 65 hB fX1_46 (L48 (zS := zS) hL) dX1_attend_62 rfl rfl rfl ?_
          refine z_s 68 hB dX1_attend_65 rfl rfl ?_
          refine z_j 14 hB dX1_attend_68 (by decide) ?_
          rw [if_pos (z_if1 c_31), ew, if_pos rfl] at est
          have q1 : z_I (z_pI zS 48 3 K) 48 3 = K := z_Ieq
          exact z_eq (ih hjs (K ||| (1 <<< (nI j &&& 31))) (by rw [← est]; exact hK)) (by rw [← z_inc]; rfl) rfl (by rw [← q1]; exact z_pI_pI _ _ _ _ _)
        ·
          have ew : z_rse zV c j = false := decide_eq_false (fun q => by rw [q] at c_43; exact absurd c_43 (by decide))
          refine z_s 47 hB dX1_attend_46 rfl rfl ?_
          refine z_s 48 hB dX1_attend_47 rfl rfl ?_
          refine z_s 49 hB dX1_attend_48 rfl rfl ?_
          refine z_callV 52 hB hM.2.1 kX1_105 dX1_attend_49 rfl (L48 (zS := zS) hL) rfl (c_X1_sell 0 (z_L.pI hL) (hV.fr (z_fr.u2 (P := z_PN) z_fr.rf (Or.inl rfl)) (z_PN7)) hc) (by omega) rfl rfl (Nat.le_of_ble_eq_true rfl) ⟨Nat.le_refl _, Nat.le_refl _⟩ ?_
          rintro _ _ ⟨rfl, rfl⟩
          refine z_vret hM dX1_attend_52 rfl ?_ rfl rfl
          rw [if_pos (z_if1 c_31), ew, if_neg Bool.false_ne_true] at est
          rw [est] at hK
          exact ⟨rfl, z_attS hN hK⟩) 0 (Nat.zero_le _) (z_I zS 48 3) rfl
  refine z_s 1 hB dX1_attend_0 rfl rfl ?_
  refine z_getR 4 hB fX1_20 (L48 (zS := zS) hL) dX1_attend_1 rfl rfl (r48_0 (zS := zS) hL) ?_
  refine z_getR 7 hB fX1_96 (L7 (zS := zS) hL) dX1_attend_4 rfl rfl (r7_5 (zS := zS) hL) ?_
  refine z_s 8 hB dX1_attend_7 rfl rfl ?_
  refine z_callV 11 hB hM.2.1 kX1_76 dX1_attend_8 rfl (L18 (zS := zS) hL) rfl (c_at 0 (w18 (zS := zS) hL) (by decide) hc) (by omega) rfl rfl (Nat.le_of_ble_eq_true rfl) ⟨Nat.le_refl _, Nat.le_refl _⟩ ?_
  rintro _ _ ⟨rfl, rfl⟩
  refine z_s 12 hB dX1_attend_11 rfl rfl ?_
  refine z_s 13 hB dX1_attend_12 rfl rfl ?_
  refine z_s 14 hB dX1_attend_13 rfl rfl ?_
  exact z_eq loop rfl rfl (z_pI_id _ _ _).symm

