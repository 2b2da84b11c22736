/-! the night: it begins, goes on, ends -/
def z_le : List (Option Value) → List (Option Value) → Prop
  | [], [] => True
  | none :: a, _ :: b => z_le a b
  | some v :: a, w :: b => w = some v ∧ z_le a b
  | _, _ => False
theorem z_le_len : ∀ {a b : List (Option Value)}, z_le a b → a.length = b.length
  | [], [], _ => rfl
  | none :: a, _ :: b, h => by rw [List.length_cons, List.length_cons, z_le_len (a := a) (b := b) h]
  | some v :: a, w :: b, h => by rw [List.length_cons, List.length_cons, z_le_len (a := a) (b := b) h.2]
  | [], _ :: _, h => h.elim
  | none :: _, [], h => h.elim
  | some _ :: _, [], h => h.elim
theorem z_le_at : ∀ {a b : List (Option Value)}, z_le a b → ∀ (k : Nat) (v : Value), a[k]? = some (some v) → b[k]? = some (some v)
  | [], [], _, k, v, h => by simp at h
  | none :: a, _ :: b, h, 0, v, hk => by simp at hk
  | none :: a, _ :: b, h, k + 1, v, hk => by
    rw [List.getElem?_cons_succ] at hk ⊢
    exact z_le_at (a := a) (b := b) h k v hk
  | some u :: a, w :: b, h, 0, v, hk => by
    rw [List.getElem?_cons_zero] at hk ⊢
    rw [h.1, hk]
  | some u :: a, w :: b, h, k + 1, v, hk => by
    rw [List.getElem?_cons_succ] at hk ⊢
    exact z_le_at (a := a) (b := b) h.2 k v hk
  | [], _ :: _, h, _, _, _ => h.elim
  | none :: _, [], h, _, _, _ => h.elim
  | some _ :: _, [], h, _, _, _ => h.elim
/-- less may be said of the locals -/
theorem z_wkn {g : z_U} {zX : z_X} {pc : Nat} {ls ls' : List (Option Value)} {st : List Value} {cl sl : Nat} {zS : z_S} (h : z_W g zX pc ls' st cl sl zS) (hs : z_le ls' ls) : z_W g zX pc ls st cl sl zS := by
  intro H locs Ls hW hS hh
  refine h H locs Ls hW hS ⟨(z_le_len hs).trans hh.1, hh.2.1, hh.2.2.1, fun q hq => hh.2.2.2 q ?_⟩
  obtain ⟨v, h1, h2⟩ := z_as_mem.mp hq
  exact z_as_mem.mpr ⟨v, z_le_at hs _ _ h1, h2⟩
theorem z_wk_no {zV : z_V} {zT : Nat → Int32} {j : Nat} (h : z_goes zV zT (z_wk zV zT j) j = false) : z_wk zV zT (j + 1) = z_wk zV zT j := by
  rw [z_wk, h, if_neg Bool.false_ne_true]
theorem z_wk_yes {zV : z_V} {zT : Nat → Int32} {j : Nat} (h : z_goes zV zT (z_wk zV zT j) j = true) : z_wk zV zT (j + 1) = z_wk zV zT j ||| (1 <<< (nI j &&& 31)) := by
  rw [z_wk, h, if_pos rfl]
theorem z_PNo {q : Nat} (h : 51 ≤ q) : ¬ z_PN q := fun z => by
  rcases z with z | z <;> omega
theorem z_gF {a b c e : Bool} (h : a = false ∨ b = false ∨ c = true ∨ e = true) : (a && (b && (!c && !e))) = false := by
  rcases h with h | h | h | h <;> subst h <;> cases a <;> cases b <;> cases c <;> cases e <;> rfl
set_option maxHeartbeats 1000000 in
theorem c_X1_open {g : z_U} (d : Nat) {zS : z_S} {zV : z_V} {zT : Nat → Int32} (hL : z_L zS) (hV : z_rV (z_I zS) 7 zV) {o : Nat} (ho : 51 ≤ o) (hst : z_st zS o) (hT : z_rT (z_I zS) o zT) {dog : Bool} {dv : Int32} (hdv : dv = if dog = true then 1 else 0) : z_C g (d + 2) 0 0 mX1_open [.ref 48, .ref o, .int dv] zS (fun r zS' => r = none ∧ ∃ zI', z_up zS zI' = zS' ∧ z_fr z_PN (z_I zS) zI' ∧ z_rN zI' (z_wlk zV zT dog) z_N0) := by
  refine z_enter [some (.ref 48), some (.ref o), some (.int dv), none] rfl rfl (Nat.le_of_ble_eq_true rfl) rfl (fun zX hM => ?_)
  have hB : z_B g zX RX1 cX1_open 4 := hM.1
  have hn : z_I zS 7 9 = nI zV.2.1 := hV.2.1
  have hn6 : zV.2.1 ≤ 6 := hV.2.2.2.2.1
  have hm10 : zV.2.2.1 ≤ 10 := hV.2.2.2.2.2
  have fin : ∀ I1, z_fr z_PN (z_I zS) I1 → z_rN I1 0 z_N0 → z_W g zX 47 [some (.ref 48), some (.ref o), some (.int dv), some (.int (nI 0))] [] 0 0 (z_up zS I1) := by
    cases dog with
    | true =>
      have hdv : dv = 1 := hdv
      subst hdv
      intro I1 hf hN
      refine z_s 48 hB dX1_open_47 rfl rfl ?_
      refine z_s 49 hB dX1_open_48 rfl rfl ?_
      refine z_getR 52 hB fX1_20 (L48 (zS := zS) hL) dX1_open_49 rfl rfl (r48_0 (zS := zS) hL) ?_
      refine z_getI 55 hB fX1_67 (L7 (zS := zS) hL) dX1_open_52 rfl rfl ?_
      refine z_b 58 129 hB dX1_open_55 rfl rfl (by decide) (fun c_55 => ?_) (fun c_55 => ?_)
      ·
        refine z_vret hM dX1_open_129 rfl ?_ rfl rfl
        exact ⟨rfl, I1, rfl, hf, hN⟩
      ·
        refine z_s 59 hB dX1_open_58 rfl rfl ?_
        refine z_b 62 129 hB dX1_open_59 rfl rfl (by decide) (fun c_59 => ?_) (fun c_59 => ?_)
        ·
          refine z_vret hM dX1_open_129 rfl ?_ rfl rfl
          exact ⟨rfl, I1, rfl, hf, hN⟩
        ·
          exact absurd c_59 (by decide)
    | false =>
      have hdv : dv = 0 := hdv
      subst hdv
      exact z_loop (fun j => ∀ I1, z_fr z_PN (z_I zS) I1 → z_rN I1 (z_wk zV zT j) z_N0 → z_W g zX 47 [some (.ref 48), some (.ref o), some (.int 0), some (.int (nI j))] [] 0 0 (z_up zS I1)) zV.2.1 (fun j hj ih I1 hf hN => by
        have hV1 : z_rV (z_I (z_up zS I1)) 7 zV := hV.fr hf z_PN7
        have hT1 : z_rT (z_I (z_up zS I1)) o zT := hT.fr hf ⟨z_PNo ho, z_PNo (by omega)⟩
        have hn1 : z_I (z_up zS I1) 7 9 = nI zV.2.1 := hV1.2.1
        refine z_s 48 hB dX1_open_47 rfl rfl ?_
        refine z_s 49 hB dX1_open_48 rfl rfl ?_
        refine z_getR 52 hB fX1_20 (L48 (zS := zS) hL) dX1_open_49 rfl rfl (r48_0 (zS := zS) hL) ?_
        refine z_getI 55 hB fX1_67 (L7 (zS := zS) hL) dX1_open_52 rfl rfl ?_
        refine z_b 58 129 hB dX1_open_55 rfl rfl (by decide) (fun c_55 => ?_) (fun c_55 => ?_)
        ·
          have hjs : zV.2.1 ≤ j := (nI_leI (by omega) (by omega)).mp (by rw [← hn1]; exact c_55)
          refine z_vret hM dX1_open_129 rfl ?_ rfl rfl
          rw [show j = zV.2.1 by omega] at hN
          exact ⟨rfl, I1, rfl, hf, hN⟩
        ·
          have hjs : j < zV.2.1 := (nI_ltI (by omega) (by omega)).mp (by rw [← hn1]; exact c_55)
          refine z_s 59 hB dX1_open_58 rfl rfl ?_
          refine z_b 62 129 hB dX1_open_59 rfl rfl (by decide) (fun c_59 => ?_) (fun c_59 => ?_)
          ·
            exact absurd rfl c_59
          ·
            refine z_s 63 hB dX1_open_62 rfl rfl ?_
            refine z_getR 66 hB fX1_20 (L48 (zS := zS) hL) dX1_open_63 rfl rfl (r48_0 (zS := zS) hL) ?_
            refine z_s 67 hB dX1_open_66 rfl rfl ?_
            refine z_s 68 hB dX1_open_67 rfl rfl ?_
            refine z_getI 71 hB fX1_28 hst.1 dX1_open_68 rfl rfl ?_
            refine z_callV 74 hB hM.2.1 kX1_70 dX1_open_71 rfl (L7 (zS := zS) hL) rfl (c_X5_isDue 0 hL hV1 (by omega) _) (by omega) rfl rfl (Nat.le_of_ble_eq_true rfl) ⟨Nat.le_refl _, Nat.le_refl _⟩ ?_
            rintro _ _ ⟨rfl, rfl⟩
            rw [show z_I (z_up zS I1) o 0 = zT 0 from hT1.1 0 (by decide)]
            refine z_b 77 123 hB dX1_open_74 rfl rfl (by decide) (fun c_74 => ?_) (fun c_74 => ?_)
            ·
              refine z_s 126 hB dX1_open_123 rfl rfl ?_
              refine z_j 47 hB dX1_open_126 (by decide) ?_
              exact z_eq (ih hjs I1 hf (by rw [z_wk_no (z_gF (Or.inl (z_if0 c_74)))]; exact hN)) (by rw [← z_inc]; rfl) rfl rfl
            ·
              refine z_s 78 hB dX1_open_77 rfl rfl ?_
              refine z_getR 81 hB fX1_73 hst.1 dX1_open_78 rfl rfl hst.2.1 ?_
              refine z_s 82 hB dX1_open_81 rfl rfl ?_
              refine z_callV 85 hB hM.2.1 kX1_76 dX1_open_82 rfl hst.2.2.1 rfl (c_at 0 hst.2.2 (by decide) (by omega)) (by omega) rfl rfl (Nat.le_of_ble_eq_true rfl) ⟨Nat.le_refl _, Nat.le_refl _⟩ ?_
              rintro _ _ ⟨rfl, rfl⟩
              rw [show z_I (z_up zS I1) (o + 2) j = zT (6 + j) from hT1.2 j (by omega)]
              refine z_b 88 123 hB dX1_open_85 rfl rfl (by decide) (fun c_85 => ?_) (fun c_85 => ?_)
              ·
                refine z_s 126 hB dX1_open_123 rfl rfl ?_
                refine z_j 47 hB dX1_open_126 (by decide) ?_
                exact z_eq (ih hjs I1 hf (by rw [z_wk_no (z_gF (Or.inr (Or.inl (decide_eq_false c_85))))]; exact hN)) (by rw [← z_inc]; rfl) rfl rfl
              ·
                refine z_s 89 hB dX1_open_88 rfl rfl ?_
                refine z_getI 92 hB fX1_80 hst.1 dX1_open_89 rfl rfl ?_
                refine z_s 93 hB dX1_open_92 rfl rfl ?_
                refine z_callS 96 hB hM.2.1 kX1_83 dX1_open_93 rfl (c_has 0) (by omega) rfl rfl (Nat.le_of_ble_eq_true rfl) ⟨Nat.le_refl _, Nat.le_refl _⟩ ?_
                rintro _ _ ⟨rfl, rfl⟩
                rw [show z_I (z_up zS I1) o 5 = zT 5 from hT1.1 5 (by decide)]
                refine z_b 99 123 hB dX1_open_96 rfl rfl (by decide) (fun c_96 => ?_) (fun c_96 => ?_)
                ·
                  refine z_s 126 hB dX1_open_123 rfl rfl ?_
                  refine z_j 47 hB dX1_open_126 (by decide) ?_
                  exact z_eq (ih hjs I1 hf (by rw [z_wk_no (z_gF (Or.inr (Or.inr (Or.inl (z_if1 c_96)))))]; exact hN)) (by rw [← z_inc]; rfl) rfl rfl
                ·
                  refine z_s 100 hB dX1_open_99 rfl rfl ?_
                  refine z_s 101 hB dX1_open_100 rfl rfl ?_
                  refine z_s 102 hB dX1_open_101 rfl rfl ?_
                  refine z_getI 105 hB fX1_86 hst.1 dX1_open_102 rfl rfl ?_
                  refine z_callV 108 hB hM.2.1 kX1_89 dX1_open_105 rfl (L48 (zS := zS) hL) rfl (c_X1_isBarred 0 hL (by omega)) (by omega) rfl rfl (Nat.le_of_ble_eq_true rfl) ⟨Nat.le_refl _, Nat.le_refl _⟩ ?_
                  rintro _ _ ⟨rfl, rfl⟩
                  rw [show z_I (z_up zS I1) o 4 = zT 4 from hT1.1 4 (by decide), show z_I (z_up zS I1) 48 2 = z_wk zV zT j from hN.1]
                  refine z_b 111 123 hB dX1_open_108 rfl rfl (by decide) (fun c_108 => ?_) (fun c_108 => ?_)
                  ·
                    refine z_s 126 hB dX1_open_123 rfl rfl ?_
                    refine z_j 47 hB dX1_open_126 (by decide) ?_
                    exact z_eq (ih hjs I1 hf (by rw [z_wk_no (z_gF (Or.inr (Or.inr (Or.inr (z_if1 c_108)))))]; exact hN)) (by rw [← z_inc]; rfl) rfl rfl
                  ·
                    refine z_s 112 hB dX1_open_111 rfl rfl ?_
                    refine z_s 113 hB dX1_open_112 rfl rfl ?_
                    refine z_getI 116 hB fX1_43 (L48 (zS := zS) hL) dX1_open_113 rfl rfl ?_
                    refine z_s 117 hB dX1_open_116 rfl rfl ?_
                    refine z_s 118 hB dX1_open_117 rfl rfl ?_
                    refine z_s 119 hB dX1_open_118 rfl rfl ?_
                    refine z_s 120 hB dX1_open_119 rfl rfl ?_
                    refine z_putI 123 hB fX1_43 (L48 (zS := zS) hL) dX1_open_120 rfl rfl rfl ?_
                    refine z_s 126 hB dX1_open_123 rfl rfl ?_
                    refine z_j 47 hB dX1_open_126 (by decide) ?_
                    have eg : z_goes zV zT (z_wk zV zT j) j = true := by
                      unfold z_goes
                      rw [z_if1 c_74, z_if0 c_96, z_if0 c_108, decide_eq_true c_85]
                      rfl
                    exact z_eq (ih hjs _ (hf.u2 (Or.inl rfl)) (by rw [z_wk_yes eg]; exact z_rN_w hN)) (by rw [← z_inc]; rfl) rfl (by rw [← hN.1]; rfl)) 0 (Nat.zero_le _)
  refine z_s 1 hB dX1_open_0 rfl rfl ?_
  refine z_s 2 hB dX1_open_1 rfl rfl ?_
  refine z_putI 5 hB fX1_43 (L48 (zS := zS) hL) dX1_open_2 rfl rfl rfl ?_
  refine z_s 6 hB dX1_open_5 rfl rfl ?_
  refine z_s 7 hB dX1_open_6 rfl rfl ?_
  refine z_putI 10 hB fX1_46 (L48 (zS := zS) hL) dX1_open_7 rfl rfl rfl ?_
  refine z_s 11 hB dX1_open_10 rfl rfl ?_
  refine z_s 12 hB dX1_open_11 rfl rfl ?_
  refine z_putI 15 hB fX1_49 (L48 (zS := zS) hL) dX1_open_12 rfl rfl rfl ?_
  refine z_s 16 hB dX1_open_15 rfl rfl ?_
  refine z_s 17 hB dX1_open_16 rfl rfl ?_
  refine z_putI 20 hB fX1_52 (L48 (zS := zS) hL) dX1_open_17 rfl rfl rfl ?_
  refine z_s 21 hB dX1_open_20 rfl rfl ?_
  refine z_s 23 hB dX1_open_21 rfl rfl ?_
  refine z_putI 26 hB fX1_55 (L48 (zS := zS) hL) dX1_open_23 rfl rfl rfl ?_
  refine z_s 27 hB dX1_open_26 rfl rfl ?_
  refine z_s 28 hB dX1_open_27 rfl rfl ?_
  refine z_putI 31 hB fX1_58 (L48 (zS := zS) hL) dX1_open_28 rfl rfl rfl ?_
  refine z_s 32 hB dX1_open_31 rfl rfl ?_
  refine z_s 33 hB dX1_open_32 rfl rfl ?_
  refine z_putI 36 hB fX1_61 (L48 (zS := zS) hL) dX1_open_33 rfl rfl rfl ?_
  refine z_s 37 hB dX1_open_36 rfl rfl ?_
  refine z_getR 40 hB fX1_14 (L48 (zS := zS) hL) dX1_open_37 rfl rfl (r48_1 (zS := zS) hL) ?_
  refine z_s 42 hB dX1_open_40 rfl rfl ?_
  refine z_callV 45 hB hM.2.1 kX1_64 dX1_open_42 rfl (L49 (zS := zS) hL) rfl (c_X3_fill 0 (w49 (zS := zS) hL) (by decide) (-4)) (by omega) rfl rfl (Nat.le_of_ble_eq_true rfl) ⟨Nat.le_refl _, Nat.le_refl _⟩ ?_
  rintro _ _ ⟨rfl, e9⟩
  subst e9
  refine z_s 46 hB dX1_open_45 rfl rfl ?_
  refine z_s 47 hB dX1_open_46 rfl rfl ?_
  refine z_eq (fin _ ?_ ?_) rfl rfl (z_pI_up _ _ _ _ ▸ rfl)
  · exact ((((((((z_fr.rf.u2 (Or.inl rfl)).u2 (Or.inl rfl)).u2 (Or.inl rfl)).u2 (Or.inl rfl)).u2 (Or.inl rfl)).u2 (Or.inl rfl)).u2 (Or.inl rfl)).sa (Or.inr rfl))
  · refine ⟨rfl, rfl, rfl, rfl, rfl, rfl, rfl, fun c hc => ?_⟩
    show z_sa _ 50 10 _ 50 c = _
    unfold z_sa
    rw [if_pos ⟨rfl, hc⟩]
    rfl

theorem c_X1_play {g : z_U} (d : Nat) {zS : z_S} {zV : z_V} {zT : Nat → Int32} (hL : z_L zS) (hV : z_rV (z_I zS) 7 zV) {o : Nat} (ho : 51 ≤ o) (hst : z_st zS o) (hT : z_rT (z_I zS) o zT) {dog : Bool} {dv : Int32} (hdv : dv = if dog = true then 1 else 0) {e : Nat} (he : e ≤ 10) : z_C g (d + 3) 0 0 mX1_play [.ref 48, .ref o, .int dv, .int (nI e)] zS (fun r zS' => r = none ∧ ∃ zI', z_up zS zI' = zS' ∧ z_fr z_PN (z_I zS) zI' ∧ z_rN zI' (z_wlk zV zT dog) (z_day zV (zT 0) (z_wlk zV zT dog) e)) := by
  refine z_enter [some (.ref 48), some (.ref o), some (.int dv), some (.int (nI e)), none] rfl rfl (Nat.le_of_ble_eq_true rfl) rfl (fun zX hM => ?_)
  have hB : z_B g zX RX1 cX1_play 5 := hM.1
  have loop := z_loop (fun j => ∀ I1, z_fr z_PN (z_I zS) I1 → z_rN I1 (z_wlk zV zT dog) (z_day zV (zT 0) (z_wlk zV zT dog) j) → z_W g zX 9 [some (.ref 48), some (.ref o), some (.int dv), some (.int (nI e)), some (.int (nI j))] [] 0 0 (z_up zS I1)) e (fun j hj ih I1 hf hN => by
    have hV1 : z_rV (z_I (z_up zS I1)) 7 zV := hV.fr hf z_PN7
    have hT1 : z_rT (z_I (z_up zS I1)) o zT := hT.fr hf ⟨z_PNo ho, z_PNo (by omega)⟩
    have hn1 : z_I (z_up zS I1) 7 9 = nI zV.2.1 := hV1.2.1
    refine z_s 11 hB dX1_play_9 rfl rfl ?_
    refine z_s 12 hB dX1_play_11 rfl rfl ?_
    refine z_b 15 43 hB dX1_play_12 rfl rfl (by decide) (fun c_12 => ?_) (fun c_12 => ?_)
    ·
      have hjs : e ≤ j := (nI_leI (by omega) (by omega)).mp c_12
      refine z_vret hM dX1_play_43 rfl ?_ rfl rfl
      rw [show j = e by omega] at hN
      exact ⟨rfl, I1, rfl, hf, hN⟩
    ·
      have hjs : j < e := (nI_ltI (by omega) (by omega)).mp c_12
      refine z_s 16 hB dX1_play_15 rfl rfl ?_
      refine z_getR 19 hB fX1_20 (L48 (zS := zS) hL) dX1_play_16 rfl rfl (r48_0 (zS := zS) hL) ?_
      refine z_s 21 hB dX1_play_19 rfl rfl ?_
      refine z_s 22 hB dX1_play_21 rfl rfl ?_
      refine z_getI 25 hB fX1_28 hst.1 dX1_play_22 rfl rfl ?_
      refine z_callV 28 hB hM.2.1 kX1_34 dX1_play_25 rfl (L7 (zS := zS) hL) rfl (c_X5_comes 0 hL hV1 (by omega) _) (by omega) rfl rfl (Nat.le_of_ble_eq_true rfl) ⟨Nat.le_refl _, Nat.le_refl _⟩ ?_
      rintro _ _ ⟨rfl, rfl⟩
      rw [show z_I (z_up zS I1) o 0 = zT 0 from hT1.1 0 (by decide)]
      refine z_b 31 37 hB dX1_play_28 rfl rfl (by decide) (fun c_28 => ?_) (fun c_28 => ?_)
      ·
        refine z_s 40 hB dX1_play_37 rfl rfl ?_
        refine z_j 9 hB dX1_play_40 (by decide) ?_
        exact z_eq (ih hjs I1 hf (by unfold z_day; rw [z_if0 c_28, if_neg Bool.false_ne_true]; exact hN)) (by rw [← z_inc]; rfl) rfl rfl
      ·
        refine z_s 32 hB dX1_play_31 rfl rfl ?_
        refine z_s 34 hB dX1_play_32 rfl rfl ?_
        refine z_callV 37 hB hM.2.1 kX1_40 dX1_play_34 rfl (L48 (zS := zS) hL) rfl (c_X1_attend 0 hL hV1 hN (by omega)) (by omega) rfl rfl (Nat.le_of_ble_eq_true rfl) ⟨Nat.le_refl _, Nat.le_refl _⟩ ?_
        rintro _ _ ⟨rfl, I2, rfl, hf2, hN2⟩
        refine z_s 40 hB dX1_play_37 rfl rfl ?_
        refine z_j 9 hB dX1_play_40 (by decide) ?_
        exact z_eq (ih hjs I2 (hf.tr hf2) (by unfold z_day; rw [z_if1 c_28, if_pos rfl]; exact hN2)) (by rw [← z_inc]; rfl) rfl rfl) 0 (Nat.zero_le _)
  refine z_s 1 hB dX1_play_0 rfl rfl ?_
  refine z_s 2 hB dX1_play_1 rfl rfl ?_
  refine z_s 3 hB dX1_play_2 rfl rfl ?_
  refine z_callV 6 hB hM.2.1 kX1_24 dX1_play_3 rfl (L48 (zS := zS) hL) rfl (c_X1_open 0 hL hV ho hst hT hdv) (by omega) rfl rfl (Nat.le_of_ble_eq_true rfl) ⟨Nat.le_refl _, Nat.le_refl _⟩ ?_
  rintro _ _ ⟨rfl, I1, rfl, hf, hN⟩
  refine z_s 7 hB dX1_play_6 rfl rfl ?_
  refine z_s 9 hB dX1_play_7 rfl rfl ?_
  exact z_eq (loop I1 hf hN) rfl rfl rfl

theorem z_close_fin {I1 : Nat → Nat → Int32} {o : Nat} {zV : z_V} {zT : Nat → Int32} {D : z_N} (h1 : ∀ k, k < 6 → I1 o k = zT k) (h2 : ∀ k, k < 6 → I1 (o + 2) k = if k < zV.2.1 then z_cls1 zV zT D (6 + k) else zT (6 + k)) :
    z_rT (z_u2 (z_u2 (z_u2 (z_u2 (z_u2 I1 o 5 0) o 1 (zT 1 + D.2.2.2.2.1)) o 2 (zT 2 + D.2.2.2.2.2.1)) o 3 (zT 3 + D.2.2.1)) o 0 (zT 0 + 1)) o (z_cls1 zV zT D) := by
  refine ⟨fun k hk => ?_, fun k hk => ?_⟩
  · rcases (show k = 0 ∨ k = 1 ∨ k = 2 ∨ k = 3 ∨ k = 4 ∨ k = 5 by omega) with rfl | rfl | rfl | rfl | rfl | rfl
    · exact z_u2_same _ _ _ _
    · exact (z_u2_ne (by decide)).trans ((z_u2_ne (by decide)).trans ((z_u2_ne (by decide)).trans (z_u2_same _ _ _ _)))
    · exact (z_u2_ne (by decide)).trans ((z_u2_ne (by decide)).trans (z_u2_same _ _ _ _))
    · exact (z_u2_ne (by decide)).trans (z_u2_same _ _ _ _)
    · exact (z_u2_ne (by decide)).trans ((z_u2_ne (by decide)).trans ((z_u2_ne (by decide)).trans ((z_u2_ne (by decide)).trans ((z_u2_ne (by decide)).trans (h1 4 (by decide))))))
    · exact (z_u2_ne (by decide)).trans ((z_u2_ne (by decide)).trans ((z_u2_ne (by decide)).trans ((z_u2_ne (by decide)).trans (z_u2_same _ _ _ _))))
  · have ne : o + 2 ≠ o := by omega
    rw [z_u2_ne (Or.inl ne), z_u2_ne (Or.inl ne), z_u2_ne (Or.inl ne), z_u2_ne (Or.inl ne), z_u2_ne (Or.inl ne), h2 k hk]
    by_cases q : k < zV.2.1
    · rw [if_pos q]
    · rw [if_neg q]
      unfold z_cls1
      rw [if_neg (by omega), if_neg (by omega), if_neg (by omega), if_neg (by omega), if_neg (by omega), if_neg (by omega), if_neg (by omega)]
theorem z_cls1_aw {zV : z_V} {zT : Nat → Int32} {D : z_N} {j : Nat} (hj : j < zV.2.1) : z_cls1 zV zT D (6 + j) = if z_hb D.1 j = true then 3 else if zT (6 + j) - 1 < 0 then 0 else zT (6 + j) - 1 := by
  unfold z_cls1
  rw [if_neg (by omega), if_neg (by omega), if_neg (by omega), if_neg (by omega), if_neg (by omega), if_neg (by omega), show 6 + j - 6 = j by omega, if_pos hj]
set_option maxHeartbeats 1000000 in
theorem c_X1_close {g : z_U} (d : Nat) {zS : z_S} {zV : z_V} {zT : Nat → Int32} {w : Int32} {D : z_N} (hL : z_L zS) (hV : z_rV (z_I zS) 7 zV) {o : Nat} (ho : 51 ≤ o) (hst : z_st zS o) (hT : z_rT (z_I zS) o zT) (hN : z_rN (z_I zS) w D) : z_C g (d + 1) 0 0 mX1_close [.ref 48, .ref o] zS (fun r zS' => r = none ∧ ∃ zI', z_up zS zI' = zS' ∧ z_fr (fun q => q = o ∨ q = o + 2) (z_I zS) zI' ∧ z_rT zI' o (z_cls1 zV zT D)) := by
  refine z_enter [some (.ref 48), some (.ref o), none, none] rfl rfl (Nat.le_of_ble_eq_true rfl) rfl (fun zX hM => ?_)
  have hB : z_B g zX RX1 cX1_close 4 := hM.1
  have hn : z_I zS 7 9 = nI zV.2.1 := hV.2.1
  have hn6 : zV.2.1 ≤ 6 := hV.2.2.2.2.1
  have hm10 : zV.2.2.1 ≤ 10 := hV.2.2.2.2.2
  have loop := z_loop (fun j => ∀ I1, z_fr (fun q => q = o ∨ q = o + 2) (z_I zS) I1 → (∀ k, k < 6 → I1 o k = zT k) → (∀ k, k < 6 → I1 (o + 2) k = if k < j then z_cls1 zV zT D (6 + k) else zT (6 + k)) → z_W g zX 2 [some (.ref 48), some (.ref o), some (.int (nI j)), none] [] 0 0 (z_up zS I1)) zV.2.1 (fun j hj ih I1 hf h1 h2 => by
    have hn1 : z_I (z_up zS I1) 7 9 = nI zV.2.1 := (hf 7 9 (by omega)).trans hn
    refine z_s 3 hB dX1_close_2 rfl rfl ?_
    refine z_s 4 hB dX1_close_3 rfl rfl ?_
    refine z_getR 7 hB fX1_20 (L48 (zS := zS) hL) dX1_close_4 rfl rfl (r48_0 (zS := zS) hL) ?_
    refine z_getI 10 hB fX1_67 (L7 (zS := zS) hL) dX1_close_7 rfl rfl ?_
    refine z_b 13 58 hB dX1_close_10 rfl rfl (by decide) (fun c_10 => ?_) (fun c_10 => ?_)
    ·
      have hjs : zV.2.1 ≤ j := (nI_leI (by omega) (by omega)).mp (by rw [← hn1]; exact c_10)
      refine z_s 59 hB dX1_close_58 rfl rfl ?_
      refine z_s 60 hB dX1_close_59 rfl rfl ?_
      refine z_putI 63 hB fX1_80 hst.1 dX1_close_60 rfl rfl rfl ?_
      refine z_s 64 hB dX1_close_63 rfl rfl ?_
      refine z_s 65 hB dX1_close_64 rfl rfl ?_
      refine z_getI 68 hB fX1_126 hst.1 dX1_close_65 rfl rfl ?_
      refine z_s 69 hB dX1_close_68 rfl rfl ?_
      refine z_getI 72 hB fX1_58 (L48 (zS := zS) hL) dX1_close_69 rfl rfl ?_
      refine z_s 73 hB dX1_close_72 rfl rfl ?_
      refine z_putI 76 hB fX1_126 hst.1 dX1_close_73 rfl rfl rfl ?_
      refine z_s 77 hB dX1_close_76 rfl rfl ?_
      refine z_s 78 hB dX1_close_77 rfl rfl ?_
      refine z_getI 81 hB fX1_127 hst.1 dX1_close_78 rfl rfl ?_
      refine z_s 82 hB dX1_close_81 rfl rfl ?_
      refine z_getI 85 hB fX1_61 (L48 (zS := zS) hL) dX1_close_82 rfl rfl ?_
      refine z_s 86 hB dX1_close_85 rfl rfl ?_
      refine z_putI 89 hB fX1_127 hst.1 dX1_close_86 rfl rfl rfl ?_
      refine z_s 90 hB dX1_close_89 rfl rfl ?_
      refine z_s 91 hB dX1_close_90 rfl rfl ?_
      refine z_getI 94 hB fX1_128 hst.1 dX1_close_91 rfl rfl ?_
      refine z_s 95 hB dX1_close_94 rfl rfl ?_
      refine z_getI 98 hB fX1_52 (L48 (zS := zS) hL) dX1_close_95 rfl rfl ?_
      refine z_s 99 hB dX1_close_98 rfl rfl ?_
      refine z_putI 102 hB fX1_128 hst.1 dX1_close_99 rfl rfl rfl ?_
      refine z_s 103 hB dX1_close_102 rfl rfl ?_
      refine z_s 104 hB dX1_close_103 rfl rfl ?_
      refine z_getI 107 hB fX1_28 hst.1 dX1_close_104 rfl rfl ?_
      refine z_s 108 hB dX1_close_107 rfl rfl ?_
      refine z_s 109 hB dX1_close_108 rfl rfl ?_
      refine z_putI 112 hB fX1_28 hst.1 dX1_close_109 rfl rfl rfl ?_
      refine z_vret hM dX1_close_112 rfl ?_ rfl rfl
      have hj2 : j = zV.2.1 := by omega
      rw [hj2] at h2
      have a7 : z_I (z_up zS I1) 48 7 = D.2.2.2.2.1 := (hf 48 7 (by omega)).trans hN.2.2.2.2.2.1
      have a8 : z_I (z_up zS I1) 48 8 = D.2.2.2.2.2.1 := (hf 48 8 (by omega)).trans hN.2.2.2.2.2.2.1
      have a5 : z_I (z_up zS I1) 48 5 = D.2.2.1 := (hf 48 5 (by omega)).trans hN.2.2.2.1
      have b1 := h1 1 (by decide)
      have b2 := h1 2 (by decide)
      have b3 := h1 3 (by decide)
      have b0 := h1 0 (by decide)
      refine ⟨rfl, z_u2 (z_u2 (z_u2 (z_u2 (z_u2 I1 o 5 0) o 1 (zT 1 + D.2.2.2.2.1)) o 2 (zT 2 + D.2.2.2.2.2.1)) o 3 (zT 3 + D.2.2.1)) o 0 (zT 0 + 1), ?_, ((((hf.u2 (Or.inl rfl)).u2 (Or.inl rfl)).u2 (Or.inl rfl)).u2 (Or.inl rfl)).u2 (Or.inl rfl), z_close_fin h1 h2⟩
      rw [z_Ine (o' := o) (k' := 0) (by decide), z_Ine (o' := o) (k' := 0) (by decide), z_Ine (o' := o) (k' := 0) (by decide), z_Ine (o' := o) (k' := 0) (by decide)]
      rw [z_Ine (o' := 48) (k' := 5) (Or.inl (by omega)), z_Ine (o' := 48) (k' := 5) (Or.inl (by omega)), z_Ine (o' := 48) (k' := 5) (Or.inl (by omega)), z_Ine (o' := o) (k' := 3) (by decide), z_Ine (o' := o) (k' := 3) (by decide), z_Ine (o' := o) (k' := 3) (by decide)]
      rw [z_Ine (o' := 48) (k' := 8) (Or.inl (by omega)), z_Ine (o' := 48) (k' := 8) (Or.inl (by omega)), z_Ine (o' := o) (k' := 2) (by decide), z_Ine (o' := o) (k' := 2) (by decide)]
      rw [z_Ine (o' := 48) (k' := 7) (Or.inl (by omega)), z_Ine (o' := o) (k' := 1) (by decide)]
      rw [a7, a8, a5, show z_I (z_up zS I1) o 1 = zT 1 from b1, show z_I (z_up zS I1) o 2 = zT 2 from b2, show z_I (z_up zS I1) o 3 = zT 3 from b3, show z_I (z_up zS I1) o 0 = zT 0 from b0]
      rfl
    ·
      have hjs : j < zV.2.1 := (nI_ltI (by omega) (by omega)).mp (by rw [← hn1]; exact c_10)
      refine z_s 14 hB dX1_close_13 rfl rfl ?_
      refine z_getR 17 hB fX1_73 hst.1 dX1_close_14 rfl rfl hst.2.1 ?_
      refine z_s 18 hB dX1_close_17 rfl rfl ?_
      refine z_callV 21 hB hM.2.1 kX1_76 dX1_close_18 rfl hst.2.2.1 rfl (c_at 0 hst.2.2 (by decide) (by omega)) (by omega) rfl rfl (Nat.le_of_ble_eq_true rfl) ⟨Nat.le_refl _, Nat.le_refl _⟩ ?_
      rintro _ _ ⟨rfl, rfl⟩
      rw [show z_I (z_up zS I1) (o + 2) j = zT (6 + j) from (h2 j (by omega)).trans (if_neg (Nat.lt_irrefl j))]
      refine z_s 22 hB dX1_close_21 rfl rfl ?_
      refine z_s 23 hB dX1_close_22 rfl rfl ?_
      refine z_s 24 hB dX1_close_23 rfl rfl ?_
      refine z_max 27 hB hM.2.1 kX1_121 x_stat x_init x_code dX1_close_24 rfl (Nat.le_of_ble_eq_true rfl) ⟨Nat.le_refl _, Nat.le_refl _⟩ ?_
      refine z_s 28 hB dX1_close_27 rfl rfl ?_
      refine z_s 29 hB dX1_close_28 rfl rfl ?_
      refine z_getR 32 hB fX1_73 hst.1 dX1_close_29 rfl rfl hst.2.1 ?_
      refine z_s 33 hB dX1_close_32 rfl rfl ?_
      refine z_s 34 hB dX1_close_33 rfl rfl ?_
      refine z_getI 37 hB fX1_46 (L48 (zS := zS) hL) dX1_close_34 rfl rfl ?_
      refine z_s 38 hB dX1_close_37 rfl rfl ?_
      refine z_callS 41 hB hM.2.1 kX1_83 dX1_close_38 rfl (c_has 0) (by omega) rfl rfl (Nat.le_of_ble_eq_true rfl) ⟨Nat.le_refl _, Nat.le_refl _⟩ ?_
      rintro _ _ ⟨rfl, rfl⟩
      rw [show z_I (z_up zS I1) 48 3 = D.1 from (hf 48 3 (by omega)).trans hN.2.1]
      refine z_b 44 48 hB dX1_close_41 rfl rfl (by decide) (fun c_41 => ?_) (fun c_41 => ?_)
      ·
        refine z_s 49 hB dX1_close_48 rfl rfl ?_
        refine z_callV 52 hB hM.2.1 kX1_118 dX1_close_49 rfl hst.2.2.1 rfl (c_put 0 hst.2.2 (by decide) (by omega)) (by omega) rfl rfl (Nat.le_of_ble_eq_true rfl) ⟨Nat.le_refl _, Nat.le_refl _⟩ ?_
        rintro _ _ ⟨rfl, rfl⟩
        refine z_s 55 hB dX1_close_52 rfl rfl ?_
        refine z_j 2 hB dX1_close_55 (by decide) ?_
        exact z_wkn (ih hjs (z_u2 I1 (o + 2) j _) (hf.u2 (Or.inr rfl)) (fun k hk => (z_u2_ne (Or.inl (by omega))).trans (h1 k hk)) (fun k hk => by
          by_cases q : k = j
          · subst q
            rw [z_u2_same, if_pos (by omega), z_cls1_aw hjs, if_neg (by rw [z_if0 c_41]; exact Bool.false_ne_true)]
          · rw [z_u2_ne (Or.inr q), h2 k hk]
            by_cases q2 : k < j
            · rw [if_pos q2, if_pos (by omega)]
            · rw [if_neg q2, if_neg (by omega)])) ⟨rfl, rfl, congrArg (fun q => some (Value.int q)) (z_inc j), trivial⟩
      ·
        refine z_s 45 hB dX1_close_44 rfl rfl ?_
        refine z_j 49 hB dX1_close_45 (by decide) ?_
        refine z_callV 52 hB hM.2.1 kX1_118 dX1_close_49 rfl hst.2.2.1 rfl (c_put 0 hst.2.2 (by decide) (by omega)) (by omega) rfl rfl (Nat.le_of_ble_eq_true rfl) ⟨Nat.le_refl _, Nat.le_refl _⟩ ?_
        rintro _ _ ⟨rfl, rfl⟩
        refine z_s 55 hB dX1_close_52 rfl rfl ?_
        refine z_j 2 hB dX1_close_55 (by decide) ?_
        exact z_wkn (ih hjs (z_u2 I1 (o + 2) j _) (hf.u2 (Or.inr rfl)) (fun k hk => (z_u2_ne (Or.inl (by omega))).trans (h1 k hk)) (fun k hk => by
          by_cases q : k = j
          · subst q
            rw [z_u2_same, if_pos (by omega), z_cls1_aw hjs, if_pos (z_if1 c_41)]
          · rw [z_u2_ne (Or.inr q), h2 k hk]
            by_cases q2 : k < j
            · rw [if_pos q2, if_pos (by omega)]
            · rw [if_neg q2, if_neg (by omega)])) ⟨rfl, rfl, congrArg (fun q => some (Value.int q)) (z_inc j), trivial⟩) 0 (Nat.zero_le _)
  refine z_s 1 hB dX1_close_0 rfl rfl ?_
  refine z_s 2 hB dX1_close_1 rfl rfl ?_
  exact z_eq (loop (z_I zS) z_fr.rf hT.1 (fun k hk => by rw [if_neg (Nat.not_lt_zero k)]; exact hT.2 k hk)) rfl rfl rfl

