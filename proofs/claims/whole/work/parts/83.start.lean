/-! the law, from its entry -/
set_option maxHeartbeats 4000000 in
theorem whole_start {p : Program} {e : Env} {s : State} {m : MethodId} {below : List Frame} {meth : Method} {c : Code} (l : Launch) (hflags : l.flags = flags0) {b L : Nat} {xs : Nat → Int32} (hL : L ≤ 256) (C0 : lw_At p s m meth c b L xs) : W p l e room_1 s m #[Value.ref b] below meth c s.heap [] 0 0 (lw_Z below #[Value.ref b] s) (entryFrame m ([Value.ref b] : List Value).toArray 4) := by
  obtain ⟨g, hg1, hg0, hgb, hB, hWd⟩ := z_entry (e := e) (below := below) l C0
  obtain ⟨hx, hb, hr, hml, hown, hts, hX, hbl, hlocks, hgv⟩ := C0
  subst hg1
  subst hg0
  have K : z_W g (z_XL0 p e s m (z_old g 0) below meth c) 0 [some (.ref 0), none, none, none] [] 0 0 z_S0 := by
    refine z_nobjL 3 hB rfl lL_7 dL_law_0 rfl (Nat.le_of_ble_eq_true rfl) (Nat.le_of_ble_eq_true rfl) ?_
    refine z_s 4 hB dL_law_3 rfl rfl ?_
    refine z_callIL 7 hB rfl kL_9 dL_law_4 rfl (c_X9_init (d_z := 0)) (by omega) rfl rfl (Nat.le_of_ble_eq_true rfl) ⟨Nat.le_of_ble_eq_true rfl, Nat.le_of_ble_eq_true rfl⟩ ?_
    rintro _ S1 ⟨rfl, hC1, hn1⟩
    refine z_s 8 hB dL_law_7 rfl rfl ?_
    refine z_nobjL 11 hB rfl lL_10 dL_law_8 rfl (Nat.le_of_ble_eq_true rfl) (Nat.le_of_ble_eq_true rfl) ?_
    rw [hn1]
    have h0 := z_is_new (zS := S1) (q_z := (0, 10))
    rw [hn1] at h0
    have h2 : ∀ k, z_I (z_new S1 (0, 10)) 99 k = 0 := fun k => if_pos (show 99 = z_nx S1 + 4 by rw [hn1])
    have hne : ∀ o, o < 99 → ¬ o = z_nx S1 + 4 := fun o ho => by rw [hn1]; omega
    refine z_s 12 hB dL_law_11 rfl rfl ?_
    refine z_callIL 15 hB rfl kL_12 dL_law_12 rfl (c_X10_init (zS := z_new S1 (0, 10)) (d_z := 0) h0 (congrArg (fun q => q + 1) hn1) h2) (by omega) rfl rfl (Nat.le_of_ble_eq_true rfl) ⟨Nat.le_of_ble_eq_true rfl, Nat.le_of_ble_eq_true rfl⟩ ?_
    rintro _ S2 ⟨rfl, hN2, hR2, hn2, hk2, hI2, hr2⟩
    refine z_s 16 hB dL_law_15 rfl rfl ?_
    refine z_s 17 hB dL_law_16 rfl rfl ?_
    refine z_s 18 hB dL_law_17 rfl rfl ?_
    have hBO : z_BO S2 z_A0 := ⟨hC1.ext (fun o ho => (hk2 o ho).trans (if_neg (hne o ho))) (fun o k ho => (hI2 o k ho).trans (if_neg (hne o ho))) (fun o k ho => (hr2 o k ho).trans (if_neg (hne o ho))) (by rw [hn1, hn2]; decide), hN2, hR2, z_A0_OK⟩
    exact z_wkn (z_lawL hB rfl hX hbl hgb hL (fun ls S => z_lret hx hb hr hlocks hgb (Nat.le_of_ble_eq_true rfl) (Nat.le_of_ble_eq_true rfl) dL_law_850) 0 (Nat.zero_le _) S2 z_A0 hBO) ⟨rfl, rfl, rfl, rfl, trivial⟩
  have hl := lv_entry ([.ref (z_old g 0)]) (n := 4) (Nat.le_of_ble_eq_true rfl)
  rw [lg_entry_eq]
  exact K s.heap [] _ hWd va_S.rf ⟨rfl, hl⟩
