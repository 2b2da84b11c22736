/-! the night -/
theorem z_hb_if {x : Int32} {i : Nat} {a b : Int32} : (if z_hb x i = true then a else b) = if x >>> (nI i &&& 31) &&& 1 = 1 then a else b := by
  unfold z_hb
  by_cases h : x >>> (nI i &&& 31) &&& 1 = 1
  · rw [if_pos (decide_eq_true h), if_pos h]
  · rw [if_neg (by rw [decide_eq_false h]; exact Bool.false_ne_true), if_neg h]
theorem z_bit01 (y : Int32) : y &&& 1 = 0 ∨ y &&& 1 = 1 := by
  have h : ∀ b : BitVec 32, b &&& 1#32 = 0#32 ∨ b &&& 1#32 = 1#32 := by
    intro b
    rcases Nat.mod_two_eq_zero_or_one b.toNat with h | h
    · exact Or.inl (BitVec.eq_of_toNat_eq (by rw [BitVec.toNat_and]; show b.toNat &&& 1 = 0; rw [Nat.and_one_is_mod]; exact h))
    · exact Or.inr (BitVec.eq_of_toNat_eq (by rw [BitVec.toNat_and]; show b.toNat &&& 1 = 1; rw [Nat.and_one_is_mod]; exact h))
  rcases h y.toBitVec with h | h
  · exact Or.inl (Int32.toBitVec_inj.mp h)
  · exact Or.inr (Int32.toBitVec_inj.mp h)
theorem z_b01 {p : Prop} [h : Decidable p] : (if p then (1 : Int32) else 0) &&& 1 = if p then 1 else 0 := by
  by_cases h : p
  · rw [if_pos h]; rfl
  · rw [if_neg h]; rfl
theorem z_if0 {b : Bool} (h : (if b = true then (1 : Int32) else 0) = 0) : b = false := by
  cases b
  · rfl
  · exact absurd h (by decide)
theorem z_if1 {b : Bool} (h : ¬ (if b = true then (1 : Int32) else 0) = 0) : b = true := by
  cases b
  · exact absurd rfl h
  · rfl
theorem c_has {g : z_U} (d : Nat) {zS : z_S} {x : Int32} {i : Nat} : z_C g d 0 0 mX9_has [.int x, .int (nI i)] zS (fun r zS' => zS = zS' ∧ r = some (.int (if z_hb x i = true then 1 else 0))) := by
  rw [z_hb_if]
  exact c_X9_has d
theorem c_bit {g : z_U} (d : Nat) {zS : z_S} {x : Int32} {i : Nat} : z_C g d 0 0 mX9_bit [.int x, .int (nI i)] zS (fun r zS' => zS = zS' ∧ r = some (.int (if z_hb x i = true then 1 else 0))) := by
  have e : (if z_hb x i = true then (1 : Int32) else 0) = x >>> (nI i &&& 31) &&& 1 := by
    rw [z_hb_if]
    rcases z_bit01 (x >>> (nI i &&& 31)) with h | h
    · rw [h]; rfl
    · rw [h]; rfl
  rw [e]
  exact c_X9_bit d
theorem z_rdI {zI : Nat → Nat → Int32} {a n k : Nat} (hk : k < n) (hn : n < 2 ^ 31) : z_rd zI a n (nI k) = zI a k := by
  unfold z_rd
  rw [if_pos ⟨nI_pos' (by omega), (nI_ltI (by omega) hn).mpr hk⟩, nI_clamp (by omega)]
theorem c_at {g : z_U} (d : Nat) {zS : z_S} {o a n k : Nat} (hr : z_row zS o a n) (hn : n < 2 ^ 31) (hk : k < n) : z_C g d 0 0 mX3_at [.ref o, .int (nI k)] zS (fun r zS' => zS = zS' ∧ r = some (.int (z_I zS a k))) := by
  have h := c_X3_at (g := g) d hr hn (nI k)
  rw [z_rdI hk hn] at h
  exact h
theorem c_put {g : z_U} (d : Nat) {zS : z_S} {o a n k : Nat} {v : Int32} (hr : z_row zS o a n) (hn : n < 2 ^ 31) (hk : k < n) : z_C g d 0 0 mX3_put [.ref o, .int (nI k), .int v] zS (fun r zS' => r = none ∧ z_pI zS a k v = zS') := by
  have h := c_X3_put (g := g) d hr hn (nI k) v
  rw [if_pos ⟨nI_pos' (by omega), (nI_ltI (by omega) hn).mpr hk⟩, nI_clamp (by omega)] at h
  have e : (fun (r : Option Value) (zS' : z_S) => r = none ∧ z_pI zS a k v = zS') = fun r zS' => r = none ∧ zS' = z_pI zS a k v := by
    funext r zS'
    exact propext ⟨fun q => ⟨q.1, q.2.symm⟩, fun q => ⟨q.1, q.2.symm⟩⟩
  rw [e]
  exact h
theorem c_pair {g : z_U} (d : Nat) {zS : z_S} {a b : Nat} (h : a < b) (hb : b < 6) : z_C g d 0 0 mX9_pair [.int (nI a), .int (nI b)] zS (fun r zS' => zS = zS' ∧ r = some (.int (nI (6 * a + b)))) := by
  have e := c_X9_pair (g := g) (zS := zS) d (a := nI a) (b := nI b)
  rw [if_pos ((nI_ltI (by omega) (by omega)).mpr h)] at e
  have e2 : 6 * nI a + nI b = nI (6 * a + b) := by
    have e3 : ∀ a, a < 6 → ∀ b, b < 6 → 6 * nI a + nI b = nI (6 * a + b) := by decide +kernel
    exact e3 a (by omega) b hb
  rw [e2] at e
  exact e
theorem z_bar_mono {w Q : Int32} {s l m : Nat} (h : z_bar w Q s l = true) (hm : l ≤ m) : z_bar w Q s m = true := by
  induction m with
  | zero => rw [show l = 0 by omega] at h; exact h
  | succ m ih =>
    rcases Nat.lt_or_ge m l with q | q
    · rw [show l = m + 1 by omega] at h; exact h
    · unfold z_bar; rw [ih q]; rfl
theorem z_rd_V2 {zI : Nat → Nat → Int32} {zV : z_V} (hV : z_rV zI 7 zV) (i : Int32) : z_rd zI 25 6 i = z_rd zV.1 8 6 i := by
  unfold z_rd
  by_cases h : 0 ≤ i ∧ i < nI 6
  · rw [if_pos h, if_pos h]
    obtain ⟨j, hj, rfl⟩ := nI_of (z_nlt0 h.1)
    have h6 := (nI_ltI hj (by decide)).mp h.2
    rw [nI_clamp hj]
    exact hV.1 8 (by decide) j (by unfold z_vl; exact h6)
  · rw [if_neg h, if_neg h]
theorem z_rN_w {zI : Nat → Nat → Int32} {w v : Int32} {D : z_N} (h : z_rN zI w D) : z_rN (z_u2 zI 48 2 v) v D := by
  obtain ⟨h1, h2, h3, h4, h5, h6, h7, h8⟩ := h
  exact ⟨z_u2_same _ _ _ _, (z_u2_ne (Or.inr (by decide))).trans h2, (z_u2_ne (Or.inr (by decide))).trans h3, (z_u2_ne (Or.inr (by decide))).trans h4, (z_u2_ne (Or.inr (by decide))).trans h5, (z_u2_ne (Or.inr (by decide))).trans h6, (z_u2_ne (Or.inr (by decide))).trans h7, fun c hc => (z_u2_ne (Or.inl (by decide))).trans (h8 c hc)⟩
theorem z_rN_K {zI : Nat → Nat → Int32} {w v : Int32} {D : z_N} (h : z_rN zI w D) : z_rN (z_u2 zI 48 3 v) w (v, D.2) := by
  obtain ⟨h1, h2, h3, h4, h5, h6, h7, h8⟩ := h
  exact ⟨(z_u2_ne (Or.inr (by decide))).trans h1, z_u2_same _ _ _ _, (z_u2_ne (Or.inr (by decide))).trans h3, (z_u2_ne (Or.inr (by decide))).trans h4, (z_u2_ne (Or.inr (by decide))).trans h5, (z_u2_ne (Or.inr (by decide))).trans h6, (z_u2_ne (Or.inr (by decide))).trans h7, fun c hc => (z_u2_ne (Or.inl (by decide))).trans (h8 c hc)⟩
theorem z_rN_sv {zI : Nat → Nat → Int32} {w v : Int32} {D : z_N} (h : z_rN zI w D) : z_rN (z_u2 zI 48 4 v) w (D.1, v, D.2.2) := by
  obtain ⟨h1, h2, h3, h4, h5, h6, h7, h8⟩ := h
  exact ⟨(z_u2_ne (Or.inr (by decide))).trans h1, (z_u2_ne (Or.inr (by decide))).trans h2, z_u2_same _ _ _ _, (z_u2_ne (Or.inr (by decide))).trans h4, (z_u2_ne (Or.inr (by decide))).trans h5, (z_u2_ne (Or.inr (by decide))).trans h6, (z_u2_ne (Or.inr (by decide))).trans h7, fun c hc => (z_u2_ne (Or.inl (by decide))).trans (h8 c hc)⟩
theorem z_rN_hm {zI : Nat → Nat → Int32} {w v : Int32} {D : z_N} (h : z_rN zI w D) : z_rN (z_u2 zI 48 5 v) w (D.1, D.2.1, v, D.2.2.2) := by
  obtain ⟨h1, h2, h3, h4, h5, h6, h7, h8⟩ := h
  exact ⟨(z_u2_ne (Or.inr (by decide))).trans h1, (z_u2_ne (Or.inr (by decide))).trans h2, (z_u2_ne (Or.inr (by decide))).trans h3, z_u2_same _ _ _ _, (z_u2_ne (Or.inr (by decide))).trans h5, (z_u2_ne (Or.inr (by decide))).trans h6, (z_u2_ne (Or.inr (by decide))).trans h7, fun c hc => (z_u2_ne (Or.inl (by decide))).trans (h8 c hc)⟩
theorem z_rN_fi {zI : Nat → Nat → Int32} {w v : Int32} {D : z_N} (h : z_rN zI w D) : z_rN (z_u2 zI 48 6 v) w (D.1, D.2.1, D.2.2.1, v, D.2.2.2.2) := by
  obtain ⟨h1, h2, h3, h4, h5, h6, h7, h8⟩ := h
  exact ⟨(z_u2_ne (Or.inr (by decide))).trans h1, (z_u2_ne (Or.inr (by decide))).trans h2, (z_u2_ne (Or.inr (by decide))).trans h3, (z_u2_ne (Or.inr (by decide))).trans h4, z_u2_same _ _ _ _, (z_u2_ne (Or.inr (by decide))).trans h6, (z_u2_ne (Or.inr (by decide))).trans h7, fun c hc => (z_u2_ne (Or.inl (by decide))).trans (h8 c hc)⟩
theorem z_rN_ti {zI : Nat → Nat → Int32} {w v : Int32} {D : z_N} (h : z_rN zI w D) : z_rN (z_u2 zI 48 7 v) w (D.1, D.2.1, D.2.2.1, D.2.2.2.1, v, D.2.2.2.2.2) := by
  obtain ⟨h1, h2, h3, h4, h5, h6, h7, h8⟩ := h
  exact ⟨(z_u2_ne (Or.inr (by decide))).trans h1, (z_u2_ne (Or.inr (by decide))).trans h2, (z_u2_ne (Or.inr (by decide))).trans h3, (z_u2_ne (Or.inr (by decide))).trans h4, (z_u2_ne (Or.inr (by decide))).trans h5, z_u2_same _ _ _ _, (z_u2_ne (Or.inr (by decide))).trans h7, fun c hc => (z_u2_ne (Or.inl (by decide))).trans (h8 c hc)⟩
theorem z_rN_dr {zI : Nat → Nat → Int32} {w v : Int32} {D : z_N} (h : z_rN zI w D) : z_rN (z_u2 zI 48 8 v) w (D.1, D.2.1, D.2.2.1, D.2.2.2.1, D.2.2.2.2.1, v, D.2.2.2.2.2.2) := by
  obtain ⟨h1, h2, h3, h4, h5, h6, h7, h8⟩ := h
  exact ⟨(z_u2_ne (Or.inr (by decide))).trans h1, (z_u2_ne (Or.inr (by decide))).trans h2, (z_u2_ne (Or.inr (by decide))).trans h3, (z_u2_ne (Or.inr (by decide))).trans h4, (z_u2_ne (Or.inr (by decide))).trans h5, (z_u2_ne (Or.inr (by decide))).trans h6, z_u2_same _ _ _ _, fun c hc => (z_u2_ne (Or.inl (by decide))).trans (h8 c hc)⟩
theorem z_rN_se {zI : Nat → Nat → Int32} {w v : Int32} {D : z_N} {k : Nat} (h : z_rN zI w D) : z_rN (z_u2 zI 50 k v) w (D.1, D.2.1, D.2.2.1, D.2.2.2.1, D.2.2.2.2.1, D.2.2.2.2.2.1, fun q => if q = k then v else D.2.2.2.2.2.2 q) := by
  obtain ⟨h1, h2, h3, h4, h5, h6, h7, h8⟩ := h
  have e := fun j => (z_u2_ne (f := zI) (o := 50) (k := k) (o' := 48) (k' := j) (v := v) (Or.inl (by decide)))
  refine ⟨(e 2).trans h1, (e 3).trans h2, (e 4).trans h3, (e 5).trans h4, (e 6).trans h5, (e 7).trans h6, (e 8).trans h7, fun c hc => ?_⟩
  by_cases q : c = k
  · subst q; rw [z_u2_same]; simp
  · rw [z_u2_ne (Or.inr q), h8 c hc]; simp [q]
theorem c_X1_isReadyFor {g : z_U} (d : Nat) {zS : z_S} (hL : z_L zS) {s : Nat} {th : Int32} : z_C g (d + 1) 0 0 mX1_isReadyFor [.ref 48, .int (nI s), .int th] zS (fun r zS' => zS = zS' ∧ r = some (.int (if z_hb (z_I zS 48 2 &&& (z_I zS 48 3 ^^^ -1) &&& z_rd (z_I zS) 25 6 th) s = true then 1 else 0))) := by
  refine z_enter [some (.ref 48), some (.int (nI s)), some (.int th)] rfl rfl (Nat.le_of_ble_eq_true rfl) rfl (fun zX hM => ?_)
  have hB : z_B g zX RX1 cX1_isReadyFor 3 := hM.1
  refine z_s 1 hB dX1_isReadyFor_0 rfl rfl ?_
  refine z_getI 4 hB fX1_43 (L48 (zS := zS) hL) dX1_isReadyFor_1 rfl rfl ?_
  refine z_s 5 hB dX1_isReadyFor_4 rfl rfl ?_
  refine z_getI 8 hB fX1_46 (L48 (zS := zS) hL) dX1_isReadyFor_5 rfl rfl ?_
  refine z_s 9 hB dX1_isReadyFor_8 rfl rfl ?_
  refine z_s 10 hB dX1_isReadyFor_9 rfl rfl ?_
  refine z_s 11 hB dX1_isReadyFor_10 rfl rfl ?_
  refine z_s 12 hB dX1_isReadyFor_11 rfl rfl ?_
  refine z_getR 15 hB fX1_20 (L48 (zS := zS) hL) dX1_isReadyFor_12 rfl rfl (r48_0 (zS := zS) hL) ?_
  refine z_getR 18 hB fX1_109 (L7 (zS := zS) hL) dX1_isReadyFor_15 rfl rfl (r7_8 (zS := zS) hL) ?_
  refine z_s 19 hB dX1_isReadyFor_18 rfl rfl ?_
  refine z_callV 22 hB hM.2.1 kX1_76 dX1_isReadyFor_19 rfl (L24 (zS := zS) hL) rfl (c_X3_at 0 (w24 (zS := zS) hL) (by decide) _) (by omega) rfl rfl (Nat.le_of_ble_eq_true rfl) ⟨Nat.le_refl _, Nat.le_refl _⟩ ?_
  rintro _ _ ⟨rfl, rfl⟩
  refine z_s 23 hB dX1_isReadyFor_22 rfl rfl ?_
  refine z_s 24 hB dX1_isReadyFor_23 rfl rfl ?_
  refine z_callS 27 hB hM.2.1 kX1_83 dX1_isReadyFor_24 rfl (c_has 0) (by omega) rfl rfl (Nat.le_of_ble_eq_true rfl) ⟨Nat.le_refl _, Nat.le_refl _⟩ ?_
  rintro _ _ ⟨rfl, rfl⟩
  refine z_zret hM dX1_isReadyFor_27 rfl z_b01 ?_ rfl rfl
  exact ⟨rfl, rfl⟩

theorem c_X1_isBarred {g : z_U} (d : Nat) {zS : z_S} (hL : z_L zS) {s : Nat} (hs : s < 6) {Q : Int32} : z_C g (d + 1) 0 0 mX1_isBarred [.ref 48, .int (nI s), .int Q] zS (fun r zS' => zS = zS' ∧ r = some (.int (if z_bar (z_I zS 48 2) Q s s = true then 1 else 0))) := by
  refine z_enter [some (.ref 48), some (.int (nI s)), some (.int Q), none] rfl rfl (Nat.le_of_ble_eq_true rfl) rfl (fun zX hM => ?_)
  have hB : z_B g zX RX1 cX1_isBarred 4 := hM.1
  have loop := z_loop (fun j => z_bar (z_I zS 48 2) Q s j = false → z_W g zX 2 [some (.ref 48), some (.int (nI s)), some (.int Q), some (.int (nI j))] [] 0 0 zS) s (fun j hj ih hb => by
    refine z_s 3 hB dX1_isBarred_2 rfl rfl ?_
    refine z_s 4 hB dX1_isBarred_3 rfl rfl ?_
    refine z_b 7 38 hB dX1_isBarred_4 rfl rfl (by decide) (fun c_4 => ?_) (fun c_4 => ?_)
    ·
      have hjs : s ≤ j := (nI_leI (by omega) (by omega)).mp c_4
      refine z_s 39 hB dX1_isBarred_38 rfl rfl ?_
      refine z_zret hM dX1_isBarred_39 rfl (by decide) ?_ rfl rfl
      rw [show j = s by omega] at hb
      exact ⟨rfl, by rw [hb]; rfl⟩
    ·
      have hjs : j < s := (nI_ltI (by omega) (by omega)).mp c_4
      refine z_s 8 hB dX1_isBarred_7 rfl rfl ?_
      refine z_getI 11 hB fX1_43 (L48 (zS := zS) hL) dX1_isBarred_8 rfl rfl ?_
      refine z_s 12 hB dX1_isBarred_11 rfl rfl ?_
      refine z_callS 15 hB hM.2.1 kX1_83 dX1_isBarred_12 rfl (c_has 0) (by omega) rfl rfl (Nat.le_of_ble_eq_true rfl) ⟨Nat.le_refl _, Nat.le_refl _⟩ ?_
      rintro _ _ ⟨rfl, rfl⟩
      refine z_b 18 32 hB dX1_isBarred_15 rfl rfl (by decide) (fun c_15 => ?_) (fun c_15 => ?_)
      ·
        refine z_s 35 hB dX1_isBarred_32 rfl rfl ?_
        refine z_j 2 hB dX1_isBarred_35 (by decide) ?_
        exact z_eq (ih hjs (by
          unfold z_bar
          rw [hb]
          first
            | rw [z_if0 c_15]; exact Bool.false_or _
            | rw [z_if0 c_27, Bool.and_false]; exact Bool.false_or _)) (by rw [← z_inc]; rfl) rfl rfl
      ·
        refine z_s 19 hB dX1_isBarred_18 rfl rfl ?_
        refine z_s 20 hB dX1_isBarred_19 rfl rfl ?_
        refine z_s 21 hB dX1_isBarred_20 rfl rfl ?_
        refine z_callS 24 hB hM.2.1 kX1_92 dX1_isBarred_21 rfl (c_pair 0 hjs hs) (by omega) rfl rfl (Nat.le_of_ble_eq_true rfl) ⟨Nat.le_refl _, Nat.le_refl _⟩ ?_
        rintro _ _ ⟨rfl, rfl⟩
        refine z_callS 27 hB hM.2.1 kX1_83 dX1_isBarred_24 rfl (c_has 0) (by omega) rfl rfl (Nat.le_of_ble_eq_true rfl) ⟨Nat.le_refl _, Nat.le_refl _⟩ ?_
        rintro _ _ ⟨rfl, rfl⟩
        refine z_b 30 32 hB dX1_isBarred_27 rfl rfl (by decide) (fun c_27 => ?_) (fun c_27 => ?_)
        ·
          refine z_s 35 hB dX1_isBarred_32 rfl rfl ?_
          refine z_j 2 hB dX1_isBarred_35 (by decide) ?_
          exact z_eq (ih hjs (by
            unfold z_bar
            rw [hb]
            first
              | rw [z_if0 c_15]; exact Bool.false_or _
              | rw [z_if0 c_27, Bool.and_false]; exact Bool.false_or _)) (by rw [← z_inc]; rfl) rfl rfl
        ·
          refine z_s 31 hB dX1_isBarred_30 rfl rfl ?_
          refine z_zret hM dX1_isBarred_31 rfl (by decide) ?_ rfl rfl
          have q1 := z_if1 c_15
          have q2 := z_if1 c_27
          have q3 : z_bar (z_I zS 48 2) Q s (j + 1) = true := by
            unfold z_bar
            rw [q1, q2]
            exact Bool.or_true _
          exact ⟨rfl, by rw [z_bar_mono q3 hjs]; rfl⟩) 0 (Nat.zero_le s) rfl
  refine z_s 1 hB dX1_isBarred_0 rfl rfl ?_
  refine z_s 2 hB dX1_isBarred_1 rfl rfl ?_
  exact z_eq loop rfl rfl rfl

