/-! the night: it begins, goes on, ends -/
def z_le : List (Option Value) → List (Option Value) → Prop
  | [], [] => True
  | none :: a_z, _ :: b_z => z_le a_z b_z
  | some v_z :: a_z, w_z :: b_z => w_z = some v_z ∧ z_le a_z b_z
  | _, _ => False
theorem z_le_len : ∀ {a_z b_z : List (Option Value)}, z_le a_z b_z → a_z.length = b_z.length
  | [], [], _ => rfl
  | none :: a_z, _ :: b_z, h_z => by rw [List.length_cons, List.length_cons, z_le_len (a_z := a_z) (b_z := b_z) h_z]
  | some v_z :: a_z, w_z :: b_z, h_z => by rw [List.length_cons, List.length_cons, z_le_len (a_z := a_z) (b_z := b_z) h_z.2]
  | [], _ :: _, h_z => h_z.elim
  | none :: _, [], h_z => h_z.elim
  | some _ :: _, [], h_z => h_z.elim
theorem z_le_at : ∀ {a_z b_z : List (Option Value)}, z_le a_z b_z → ∀ (k_z : Nat) (v_z : Value), a_z[k_z]? = some (some v_z) → b_z[k_z]? = some (some v_z)
  | [], [], _, k_z, v_z, h_z => by simp at h_z
  | none :: a_z, _ :: b_z, h_z, 0, v_z, hk => by simp at hk
  | none :: a_z, _ :: b_z, h_z, k_z + 1, v_z, hk => by
    rw [List.getElem?_cons_succ] at hk ⊢
    exact z_le_at (a_z := a_z) (b_z := b_z) h_z k_z v_z hk
  | some u_z :: a_z, w_z :: b_z, h_z, 0, v_z, hk => by
    rw [List.getElem?_cons_zero] at hk ⊢
    rw [h_z.1, hk]
  | some u_z :: a_z, w_z :: b_z, h_z, k_z + 1, v_z, hk => by
    rw [List.getElem?_cons_succ] at hk ⊢
    exact z_le_at (a_z := a_z) (b_z := b_z) h_z.2 k_z v_z hk
  | [], _ :: _, h_z, _, _, _ => h_z.elim
  | none :: _, [], h_z, _, _, _ => h_z.elim
  | some _ :: _, [], h_z, _, _, _ => h_z.elim
/-- less may be said of the locals -/
theorem z_wkn {g_z : z_U} {zX : z_X} {pc : Nat} {ls ls' : List (Option Value)} {st_z : List Value} {cl_z sl_z : Nat} {zS : z_S} (h_z : z_W g_z zX pc ls' st_z cl_z sl_z zS) (hs : z_le ls' ls) : z_W g_z zX pc ls st_z cl_z sl_z zS := by
  intro H_z locs Ls_z hW hS_z hh
  refine h_z H_z locs Ls_z hW hS_z ⟨(z_le_len hs).trans hh.1, hh.2.1, hh.2.2.1, fun q_z hq => hh.2.2.2 q_z ?_⟩
  obtain ⟨v_z, h1, h2⟩ := z_as_mem.mp hq
  exact z_as_mem.mpr ⟨v_z, z_le_at hs _ _ h1, h2⟩
theorem z_wk_no {zV : z_V} {zT : Nat → Int32} {j_z : Nat} (h_z : z_goes zV zT (z_wk zV zT j_z) j_z = false) : z_wk zV zT (j_z + 1) = z_wk zV zT j_z := by
  rw [z_wk, h_z, if_neg Bool.false_ne_true]
theorem z_wk_yes {zV : z_V} {zT : Nat → Int32} {j_z : Nat} (h_z : z_goes zV zT (z_wk zV zT j_z) j_z = true) : z_wk zV zT (j_z + 1) = z_wk zV zT j_z ||| (1 <<< (nI j_z &&& 31)) := by
  rw [z_wk, h_z, if_pos rfl]
theorem z_PNo {q_z : Nat} (h_z : 51 ≤ q_z) : ¬ z_PN q_z := fun z_z => by
  rcases z_z with z_z | z_z <;> omega
theorem z_gF {a_z b_z c_z e_z : Bool} (h_z : a_z = false ∨ b_z = false ∨ c_z = true ∨ e_z = true) : (a_z && (b_z && (!c_z && !e_z))) = false := by
  cases a_z <;> cases b_z <;> cases c_z <;> cases e_z <;> first | rfl | (exfalso; rcases h_z with h_z | h_z | h_z | h_z <;> exact absurd h_z (by decide))
set_option maxHeartbeats 1000000 in
theorem c_X1_open {g_z : z_U} {d_z : Nat} {zS : z_S} {zV : z_V} {zT : Nat → Int32} (hL : z_L zS) (hV : z_rV (z_I zS) 7 zV) {o : Nat} (ho : 51 ≤ o) (hst : z_st zS o) (hT_z : z_rT (z_I zS) o zT) {dog : Bool} {dv : Int32} (hdv : dv = if dog = true then 1 else 0) : z_C g_z (d_z + 2) 0 0 mX1_open [.ref 48, .ref o, .int dv] zS (fun r_z zS' => r_z = none ∧ ∃ zI', z_up zS zI' = zS' ∧ z_fr z_PN (z_I zS) zI' ∧ z_rN zI' (z_wlk zV zT dog) z_N0) := by
  refine z_enter [some (.ref 48), some (.ref o), some (.int dv), none] rfl rfl (Nat.le_of_ble_eq_true rfl) rfl (fun zX hM_z => ?_)
  have hB_z : z_B g_z zX RX1 cX1_open 4 := hM_z.1
  have hn : z_I zS 7 9 = nI zV.2.1 := hV.2.1
  have hn6 : zV.2.1 ≤ 6 := hV.2.2.2.2.1
  have hm10 : zV.2.2.1 ≤ 10 := hV.2.2.2.2.2
  have fin_z : ∀ I1, z_fr z_PN (z_I zS) I1 → z_rN I1 0 z_N0 → z_W g_z zX 47 [some (.ref 48), some (.ref o), some (.int dv), some (.int (nI 0))] [] 0 0 (z_up zS I1) := by
    cases dog with
    | true =>
      have hdv : dv = 1 := hdv
      subst hdv
      intro I1 hf hN_z
      refine z_s 48 hB_z dX1_open_47 rfl rfl ?_
      refine z_s 49 hB_z dX1_open_48 rfl rfl ?_
      refine z_getR 52 hB_z fX1_20 (L48 (zS := zS) hL) dX1_open_49 rfl rfl (r48_0 (zS := zS) hL) ?_
      refine z_getI 55 hB_z fX1_67 (L7 (zS := zS) hL) dX1_open_52 rfl rfl ?_
      refine z_b 58 129 hB_z dX1_open_55 rfl rfl (by decide) (fun c_55 => ?_) (fun c_55 => ?_)
      ·
        refine z_vret hM_z dX1_open_129 rfl ?_ rfl rfl
        exact ⟨rfl, I1, rfl, hf, hN_z⟩
      ·
        refine z_s 59 hB_z dX1_open_58 rfl rfl ?_
        refine z_b 62 129 hB_z dX1_open_59 rfl rfl (by decide) (fun c_59 => ?_) (fun c_59 => ?_)
        ·
          refine z_vret hM_z dX1_open_129 rfl ?_ rfl rfl
          exact ⟨rfl, I1, rfl, hf, hN_z⟩
        ·
          exact absurd c_59 (by decide)
    | false =>
      have hdv : dv = 0 := hdv
      subst hdv
      exact z_loop (fun j_z => ∀ I1, z_fr z_PN (z_I zS) I1 → z_rN I1 (z_wk zV zT j_z) z_N0 → z_W g_z zX 47 [some (.ref 48), some (.ref o), some (.int 0), some (.int (nI j_z))] [] 0 0 (z_up zS I1)) zV.2.1 (fun j_z hj ih_z I1 hf hN_z => by
        have hV1 : z_rV (z_I (z_up zS I1)) 7 zV := hV.fr hf z_PN7
        have hT1 : z_rT (z_I (z_up zS I1)) o zT := hT_z.fr hf ⟨z_PNo ho, z_PNo (by omega)⟩
        have hn1 : z_I (z_up zS I1) 7 9 = nI zV.2.1 := hV1.2.1
        refine z_s 48 hB_z dX1_open_47 rfl rfl ?_
        refine z_s 49 hB_z dX1_open_48 rfl rfl ?_
        refine z_getR 52 hB_z fX1_20 (L48 (zS := zS) hL) dX1_open_49 rfl rfl (r48_0 (zS := zS) hL) ?_
        refine z_getI 55 hB_z fX1_67 (L7 (zS := zS) hL) dX1_open_52 rfl rfl ?_
        refine z_b 58 129 hB_z dX1_open_55 rfl rfl (by decide) (fun c_55 => ?_) (fun c_55 => ?_)
        ·
          have hjs : zV.2.1 ≤ j_z := (nI_leI (by omega) (by omega)).mp (by rw [← hn1]; exact c_55)
          refine z_vret hM_z dX1_open_129 rfl ?_ rfl rfl
          rw [show j_z = zV.2.1 by omega] at hN_z
          exact ⟨rfl, I1, rfl, hf, hN_z⟩
        ·
          have hjs : j_z < zV.2.1 := (nI_ltI (by omega) (by omega)).mp (by rw [← hn1]; exact c_55)
          refine z_s 59 hB_z dX1_open_58 rfl rfl ?_
          refine z_b 62 129 hB_z dX1_open_59 rfl rfl (by decide) (fun c_59 => ?_) (fun c_59 => ?_)
          ·
            exact absurd rfl c_59
          ·
            refine z_s 63 hB_z dX1_open_62 rfl rfl ?_
            refine z_getR 66 hB_z fX1_20 (L48 (zS := zS) hL) dX1_open_63 rfl rfl (r48_0 (zS := zS) hL) ?_
            refine z_s 67 hB_z dX1_open_66 rfl rfl ?_
            refine z_s 68 hB_z dX1_open_67 rfl rfl ?_
            refine z_getI 71 hB_z fX1_28 hst.1 dX1_open_68 rfl rfl ?_
            refine z_callV 74 hB_z hM_z.2.1 kX1_70 dX1_open_71 rfl (L7 (zS := zS) hL) rfl (c_X5_isDue (zS := z_up zS I1) (d_z := 0) hL hV1 (by omega)) (by omega) rfl rfl (Nat.le_of_ble_eq_true rfl) ⟨Nat.le_refl _, Nat.le_refl _⟩ ?_
            rintro _ _ ⟨rfl, rfl⟩
            rw [show z_I (z_up zS I1) o 0 = zT 0 from hT1.1 0 (by decide)]
            refine z_b 77 123 hB_z dX1_open_74 rfl rfl (by decide) (fun c_74 => ?_) (fun c_74 => ?_)
            ·
              refine z_s 126 hB_z dX1_open_123 rfl rfl ?_
              refine z_j 47 hB_z dX1_open_126 (by decide) ?_
              exact z_eq (ih_z hjs I1 hf (by rw [z_wk_no (z_gF (Or.inl (z_if0 c_74)))]; exact hN_z)) (by rw [← z_inc]; rfl) rfl rfl
            ·
              refine z_s 78 hB_z dX1_open_77 rfl rfl ?_
              refine z_getR 81 hB_z fX1_73 hst.1 dX1_open_78 rfl rfl hst.2.1 ?_
              refine z_s 82 hB_z dX1_open_81 rfl rfl ?_
              refine z_callV 85 hB_z hM_z.2.1 kX1_76 dX1_open_82 rfl hst.2.2.1 rfl (c_at (zS := z_up zS I1) (d_z := 0) hst.2.2 (by decide) (by omega)) (by omega) rfl rfl (Nat.le_of_ble_eq_true rfl) ⟨Nat.le_refl _, Nat.le_refl _⟩ ?_
              rintro _ _ ⟨rfl, rfl⟩
              rw [show z_I (z_up zS I1) (o + 2) j_z = zT (6 + j_z) from hT1.2 j_z (by omega)]
              refine z_b 88 123 hB_z dX1_open_85 rfl rfl (by decide) (fun c_85 => ?_) (fun c_85 => ?_)
              ·
                refine z_s 126 hB_z dX1_open_123 rfl rfl ?_
                refine z_j 47 hB_z dX1_open_126 (by decide) ?_
                exact z_eq (ih_z hjs I1 hf (by rw [z_wk_no (z_gF (Or.inr (Or.inl (decide_eq_false c_85))))]; exact hN_z)) (by rw [← z_inc]; rfl) rfl rfl
              ·
                refine z_s 89 hB_z dX1_open_88 rfl rfl ?_
                refine z_getI 92 hB_z fX1_80 hst.1 dX1_open_89 rfl rfl ?_
                refine z_s 93 hB_z dX1_open_92 rfl rfl ?_
                refine z_callS 96 hB_z hM_z.2.1 kX1_83 dX1_open_93 rfl (c_has (d_z := 0)) (by omega) rfl rfl (Nat.le_of_ble_eq_true rfl) ⟨Nat.le_refl _, Nat.le_refl _⟩ ?_
                rintro _ _ ⟨rfl, rfl⟩
                rw [show z_I (z_up zS I1) o 5 = zT 5 from hT1.1 5 (by decide)]
                refine z_b 99 123 hB_z dX1_open_96 rfl rfl (by decide) (fun c_96 => ?_) (fun c_96 => ?_)
                ·
                  refine z_s 126 hB_z dX1_open_123 rfl rfl ?_
                  refine z_j 47 hB_z dX1_open_126 (by decide) ?_
                  exact z_eq (ih_z hjs I1 hf (by rw [z_wk_no (z_gF (Or.inr (Or.inr (Or.inl (z_if1 c_96)))))]; exact hN_z)) (by rw [← z_inc]; rfl) rfl rfl
                ·
                  refine z_s 100 hB_z dX1_open_99 rfl rfl ?_
                  refine z_s 101 hB_z dX1_open_100 rfl rfl ?_
                  refine z_s 102 hB_z dX1_open_101 rfl rfl ?_
                  refine z_getI 105 hB_z fX1_86 hst.1 dX1_open_102 rfl rfl ?_
                  refine z_callV 108 hB_z hM_z.2.1 kX1_89 dX1_open_105 rfl (L48 (zS := zS) hL) rfl (c_X1_isBarred (zS := z_up zS I1) (d_z := 0) hL (by omega)) (by omega) rfl rfl (Nat.le_of_ble_eq_true rfl) ⟨Nat.le_refl _, Nat.le_refl _⟩ ?_
                  rintro _ _ ⟨rfl, rfl⟩
                  rw [show z_I (z_up zS I1) o 4 = zT 4 from hT1.1 4 (by decide), show z_I (z_up zS I1) 48 2 = z_wk zV zT j_z from hN_z.1]
                  refine z_b 111 123 hB_z dX1_open_108 rfl rfl (by decide) (fun c_108 => ?_) (fun c_108 => ?_)
                  ·
                    refine z_s 126 hB_z dX1_open_123 rfl rfl ?_
                    refine z_j 47 hB_z dX1_open_126 (by decide) ?_
                    exact z_eq (ih_z hjs I1 hf (by rw [z_wk_no (z_gF (Or.inr (Or.inr (Or.inr (z_if1 c_108)))))]; exact hN_z)) (by rw [← z_inc]; rfl) rfl rfl
                  ·
                    refine z_s 112 hB_z dX1_open_111 rfl rfl ?_
                    refine z_s 113 hB_z dX1_open_112 rfl rfl ?_
                    refine z_getI 116 hB_z fX1_43 (L48 (zS := zS) hL) dX1_open_113 rfl rfl ?_
                    refine z_s 117 hB_z dX1_open_116 rfl rfl ?_
                    refine z_s 118 hB_z dX1_open_117 rfl rfl ?_
                    refine z_s 119 hB_z dX1_open_118 rfl rfl ?_
                    refine z_s 120 hB_z dX1_open_119 rfl rfl ?_
                    refine z_putI 123 hB_z fX1_43 (L48 (zS := zS) hL) dX1_open_120 rfl rfl rfl ?_
                    refine z_s 126 hB_z dX1_open_123 rfl rfl ?_
                    refine z_j 47 hB_z dX1_open_126 (by decide) ?_
                    have eg : z_goes zV zT (z_wk zV zT j_z) j_z = true := by
                      unfold z_goes
                      rw [z_if1 c_74, z_if0 c_96, z_if0 c_108, decide_eq_true c_85]
                      rfl
                    exact z_eq (ih_z hjs _ (hf.u2 (Or.inl rfl)) (by rw [z_wk_yes eg]; exact z_rN_w hN_z)) (by rw [← z_inc]; rfl) rfl (by rw [← hN_z.1]; rfl)) 0 (Nat.zero_le _)
  refine z_s 1 hB_z dX1_open_0 rfl rfl ?_
  refine z_s 2 hB_z dX1_open_1 rfl rfl ?_
  refine z_putI 5 hB_z fX1_43 (L48 (zS := zS) hL) dX1_open_2 rfl rfl rfl ?_
  refine z_s 6 hB_z dX1_open_5 rfl rfl ?_
  refine z_s 7 hB_z dX1_open_6 rfl rfl ?_
  refine z_putI 10 hB_z fX1_46 (L48 (zS := zS) hL) dX1_open_7 rfl rfl rfl ?_
  refine z_s 11 hB_z dX1_open_10 rfl rfl ?_
  refine z_s 12 hB_z dX1_open_11 rfl rfl ?_
  refine z_putI 15 hB_z fX1_49 (L48 (zS := zS) hL) dX1_open_12 rfl rfl rfl ?_
  refine z_s 16 hB_z dX1_open_15 rfl rfl ?_
  refine z_s 17 hB_z dX1_open_16 rfl rfl ?_
  refine z_putI 20 hB_z fX1_52 (L48 (zS := zS) hL) dX1_open_17 rfl rfl rfl ?_
  refine z_s 21 hB_z dX1_open_20 rfl rfl ?_
  refine z_s 23 hB_z dX1_open_21 rfl rfl ?_
  refine z_putI 26 hB_z fX1_55 (L48 (zS := zS) hL) dX1_open_23 rfl rfl rfl ?_
  refine z_s 27 hB_z dX1_open_26 rfl rfl ?_
  refine z_s 28 hB_z dX1_open_27 rfl rfl ?_
  refine z_putI 31 hB_z fX1_58 (L48 (zS := zS) hL) dX1_open_28 rfl rfl rfl ?_
  refine z_s 32 hB_z dX1_open_31 rfl rfl ?_
  refine z_s 33 hB_z dX1_open_32 rfl rfl ?_
  refine z_putI 36 hB_z fX1_61 (L48 (zS := zS) hL) dX1_open_33 rfl rfl rfl ?_
  refine z_s 37 hB_z dX1_open_36 rfl rfl ?_
  refine z_getR 40 hB_z fX1_14 (L48 (zS := zS) hL) dX1_open_37 rfl rfl (r48_1 (zS := zS) hL) ?_
  refine z_s 42 hB_z dX1_open_40 rfl rfl ?_
  refine z_callV 45 hB_z hM_z.2.1 kX1_64 dX1_open_42 rfl (L49 (zS := zS) hL) rfl (by refine c_X3_fill (d_z := 0) (o := 49) (a_z := 50) (n_z := 10) (v_z := -4) ?_ (by decide); exact w49 (zS := zS) hL) (by omega) rfl rfl (Nat.le_of_ble_eq_true rfl) ⟨Nat.le_refl _, Nat.le_refl _⟩ ?_
  rintro _ _ ⟨rfl, e9_z⟩
  subst e9_z
  refine z_s 46 hB_z dX1_open_45 rfl rfl ?_
  refine z_s 47 hB_z dX1_open_46 rfl rfl ?_
  exact z_eq (fin_z _ (by exact ((((((((z_fr.rf.u2 (Or.inl rfl)).u2 (Or.inl rfl)).u2 (Or.inl rfl)).u2 (Or.inl rfl)).u2 (Or.inl rfl)).u2 (Or.inl rfl)).u2 (Or.inl rfl)).sa (Or.inr rfl))) (by
    refine ⟨rfl, rfl, rfl, rfl, rfl, rfl, rfl, fun c_z hc_z => ?_⟩
    show z_sa _ 50 10 _ 50 c_z = _
    unfold z_sa
    rw [if_pos ⟨rfl, hc_z⟩]
    rfl)) rfl rfl rfl

theorem c_X1_play {g_z : z_U} {d_z : Nat} {zS : z_S} {zV : z_V} {zT : Nat → Int32} (hL : z_L zS) (hV : z_rV (z_I zS) 7 zV) {o : Nat} (ho : 51 ≤ o) (hst : z_st zS o) (hT_z : z_rT (z_I zS) o zT) {dog : Bool} {dv : Int32} (hdv : dv = if dog = true then 1 else 0) {e_z : Nat} (he : e_z ≤ 10) : z_C g_z (d_z + 3) 0 0 mX1_play [.ref 48, .ref o, .int dv, .int (nI e_z)] zS (fun r_z zS' => r_z = none ∧ ∃ zI', z_up zS zI' = zS' ∧ z_fr z_PN (z_I zS) zI' ∧ z_rN zI' (z_wlk zV zT dog) (z_day zV (zT 0) (z_wlk zV zT dog) e_z)) := by
  refine z_enter [some (.ref 48), some (.ref o), some (.int dv), some (.int (nI e_z)), none] rfl rfl (Nat.le_of_ble_eq_true rfl) rfl (fun zX hM_z => ?_)
  have hB_z : z_B g_z zX RX1 cX1_play 5 := hM_z.1
  have loop := z_loop (fun j_z => ∀ I1, z_fr z_PN (z_I zS) I1 → z_rN I1 (z_wlk zV zT dog) (z_day zV (zT 0) (z_wlk zV zT dog) j_z) → z_W g_z zX 9 [some (.ref 48), some (.ref o), some (.int dv), some (.int (nI e_z)), some (.int (nI j_z))] [] 0 0 (z_up zS I1)) e_z (fun j_z hj ih_z I1 hf hN_z => by
    have hV1 : z_rV (z_I (z_up zS I1)) 7 zV := hV.fr hf z_PN7
    have hT1 : z_rT (z_I (z_up zS I1)) o zT := hT_z.fr hf ⟨z_PNo ho, z_PNo (by omega)⟩
    have hn1 : z_I (z_up zS I1) 7 9 = nI zV.2.1 := hV1.2.1
    refine z_s 11 hB_z dX1_play_9 rfl rfl ?_
    refine z_s 12 hB_z dX1_play_11 rfl rfl ?_
    refine z_b 15 43 hB_z dX1_play_12 rfl rfl (by decide) (fun c_12 => ?_) (fun c_12 => ?_)
    ·
      have hjs : e_z ≤ j_z := (nI_leI (by omega) (by omega)).mp c_12
      refine z_vret hM_z dX1_play_43 rfl ?_ rfl rfl
      rw [show j_z = e_z by omega] at hN_z
      exact ⟨rfl, I1, rfl, hf, hN_z⟩
    ·
      have hjs : j_z < e_z := (nI_ltI (by omega) (by omega)).mp c_12
      refine z_s 16 hB_z dX1_play_15 rfl rfl ?_
      refine z_getR 19 hB_z fX1_20 (L48 (zS := zS) hL) dX1_play_16 rfl rfl (r48_0 (zS := zS) hL) ?_
      refine z_s 21 hB_z dX1_play_19 rfl rfl ?_
      refine z_s 22 hB_z dX1_play_21 rfl rfl ?_
      refine z_getI 25 hB_z fX1_28 hst.1 dX1_play_22 rfl rfl ?_
      refine z_callV 28 hB_z hM_z.2.1 kX1_34 dX1_play_25 rfl (L7 (zS := zS) hL) rfl (c_X5_comes (zS := z_up zS I1) (d_z := 0) hL hV1 (by omega)) (by omega) rfl rfl (Nat.le_of_ble_eq_true rfl) ⟨Nat.le_refl _, Nat.le_refl _⟩ ?_
      rintro _ _ ⟨rfl, rfl⟩
      rw [show z_I (z_up zS I1) o 0 = zT 0 from hT1.1 0 (by decide)]
      refine z_b 31 37 hB_z dX1_play_28 rfl rfl (by decide) (fun c_28 => ?_) (fun c_28 => ?_)
      ·
        refine z_s 40 hB_z dX1_play_37 rfl rfl ?_
        refine z_j 9 hB_z dX1_play_40 (by decide) ?_
        exact z_eq (ih_z hjs I1 hf (by unfold z_day; rw [z_if0 c_28, if_neg Bool.false_ne_true]; exact hN_z)) (by rw [← z_inc]; rfl) rfl rfl
      ·
        refine z_s 32 hB_z dX1_play_31 rfl rfl ?_
        refine z_s 34 hB_z dX1_play_32 rfl rfl ?_
        refine z_callV 37 hB_z hM_z.2.1 kX1_40 dX1_play_34 rfl (L48 (zS := zS) hL) rfl (c_X1_attend (zS := z_up zS I1) (d_z := 0) hL hV1 hN_z (by omega)) (by omega) rfl rfl (Nat.le_of_ble_eq_true rfl) ⟨Nat.le_refl _, Nat.le_refl _⟩ ?_
        rintro _ _ ⟨rfl, I2_z, rfl, hf2, hN2⟩
        refine z_s 40 hB_z dX1_play_37 rfl rfl ?_
        refine z_j 9 hB_z dX1_play_40 (by decide) ?_
        exact z_eq (ih_z hjs I2_z (hf.tr hf2) (by unfold z_day; rw [z_if1 c_28, if_pos rfl]; exact hN2)) (by rw [← z_inc]; rfl) rfl rfl) 0 (Nat.zero_le _)
  refine z_s 1 hB_z dX1_play_0 rfl rfl ?_
  refine z_s 2 hB_z dX1_play_1 rfl rfl ?_
  refine z_s 3 hB_z dX1_play_2 rfl rfl ?_
  refine z_callV 6 hB_z hM_z.2.1 kX1_24 dX1_play_3 rfl (L48 (zS := zS) hL) rfl (c_X1_open (d_z := 0) hL hV ho hst hT_z hdv) (by omega) rfl rfl (Nat.le_of_ble_eq_true rfl) ⟨Nat.le_refl _, Nat.le_refl _⟩ ?_
  rintro _ _ ⟨rfl, I1, rfl, hf, hN_z⟩
  refine z_s 7 hB_z dX1_play_6 rfl rfl ?_
  refine z_s 9 hB_z dX1_play_7 rfl rfl ?_
  exact z_eq (loop I1 hf hN_z) rfl rfl rfl

theorem z_close_fin {I1 : Nat → Nat → Int32} {o : Nat} {zV : z_V} {zT : Nat → Int32} {D_z : z_N} (h1 : ∀ k_z, k_z < 6 → I1 o k_z = zT k_z) (h2 : ∀ k_z, k_z < 6 → I1 (o + 2) k_z = if k_z < zV.2.1 then z_cls1 zV zT D_z (6 + k_z) else zT (6 + k_z)) :
    z_rT (z_u2 (z_u2 (z_u2 (z_u2 (z_u2 I1 o 5 0) o 1 (zT 1 + D_z.2.2.2.2.1)) o 2 (zT 2 + D_z.2.2.2.2.2.1)) o 3 (zT 3 + D_z.2.2.1)) o 0 (zT 0 + 1)) o (z_cls1 zV zT D_z) := by
  refine ⟨fun k_z hk => ?_, fun k_z hk => ?_⟩
  · rcases (show k_z = 0 ∨ k_z = 1 ∨ k_z = 2 ∨ k_z = 3 ∨ k_z = 4 ∨ k_z = 5 by omega) with rfl | rfl | rfl | rfl | rfl | rfl
    · exact z_u2_same _ _ _ _
    · exact (z_u2_ne (Or.inr (by decide))).trans ((z_u2_ne (Or.inr (by decide))).trans ((z_u2_ne (Or.inr (by decide))).trans (z_u2_same _ _ _ _)))
    · exact (z_u2_ne (Or.inr (by decide))).trans ((z_u2_ne (Or.inr (by decide))).trans (z_u2_same _ _ _ _))
    · exact (z_u2_ne (Or.inr (by decide))).trans (z_u2_same _ _ _ _)
    · exact (z_u2_ne (Or.inr (by decide))).trans ((z_u2_ne (Or.inr (by decide))).trans ((z_u2_ne (Or.inr (by decide))).trans ((z_u2_ne (Or.inr (by decide))).trans ((z_u2_ne (Or.inr (by decide))).trans (h1 4 (by decide))))))
    · exact (z_u2_ne (Or.inr (by decide))).trans ((z_u2_ne (Or.inr (by decide))).trans ((z_u2_ne (Or.inr (by decide))).trans ((z_u2_ne (Or.inr (by decide))).trans (z_u2_same _ _ _ _))))
  · have ne_z : o + 2 ≠ o := by omega
    rw [z_u2_ne (Or.inl ne_z), z_u2_ne (Or.inl ne_z), z_u2_ne (Or.inl ne_z), z_u2_ne (Or.inl ne_z), z_u2_ne (Or.inl ne_z), h2 k_z hk]
    by_cases q_z : k_z < zV.2.1
    · rw [if_pos q_z]
    · rw [if_neg q_z]
      unfold z_cls1
      rw [if_neg (by omega), if_neg (by omega), if_neg (by omega), if_neg (by omega), if_neg (by omega), if_neg (by omega), if_neg (by omega)]
theorem z_cls1_aw {zV : z_V} {zT : Nat → Int32} {D_z : z_N} {j_z : Nat} (hj : j_z < zV.2.1) : z_cls1 zV zT D_z (6 + j_z) = if z_hb D_z.1 j_z = true then 3 else if zT (6 + j_z) - 1 < 0 then 0 else zT (6 + j_z) - 1 := by
  unfold z_cls1
  rw [if_neg (by omega), if_neg (by omega), if_neg (by omega), if_neg (by omega), if_neg (by omega), if_neg (by omega), show 6 + j_z - 6 = j_z by omega, if_pos hj]
set_option maxHeartbeats 1000000 in
theorem c_X1_close {g_z : z_U} {d_z : Nat} {zS : z_S} {zV : z_V} {zT : Nat → Int32} {w_z : Int32} {D_z : z_N} (hL : z_L zS) (hV : z_rV (z_I zS) 7 zV) {o : Nat} (ho : 51 ≤ o) (hst : z_st zS o) (hT_z : z_rT (z_I zS) o zT) (hN_z : z_rN (z_I zS) w_z D_z) : z_C g_z (d_z + 1) 0 0 mX1_close [.ref 48, .ref o] zS (fun r_z zS' => r_z = none ∧ ∃ zI', z_up zS zI' = zS' ∧ z_fr (fun q_z => q_z = o ∨ q_z = o + 2) (z_I zS) zI' ∧ z_rT zI' o (z_cls1 zV zT D_z)) := by
  refine z_enter [some (.ref 48), some (.ref o), none, none] rfl rfl (Nat.le_of_ble_eq_true rfl) rfl (fun zX hM_z => ?_)
  have hB_z : z_B g_z zX RX1 cX1_close 4 := hM_z.1
  have hn : z_I zS 7 9 = nI zV.2.1 := hV.2.1
  have hn6 : zV.2.1 ≤ 6 := hV.2.2.2.2.1
  have hm10 : zV.2.2.1 ≤ 10 := hV.2.2.2.2.2
  have loop := z_loop (fun j_z => ∀ I1, z_fr (fun q_z => q_z = o ∨ q_z = o + 2) (z_I zS) I1 → (∀ k_z, k_z < 6 → I1 o k_z = zT k_z) → (∀ k_z, k_z < 6 → I1 (o + 2) k_z = if k_z < j_z then z_cls1 zV zT D_z (6 + k_z) else zT (6 + k_z)) → z_W g_z zX 2 [some (.ref 48), some (.ref o), some (.int (nI j_z)), none] [] 0 0 (z_up zS I1)) zV.2.1 (fun j_z hj ih_z I1 hf h1 h2 => by
    have hn1 : z_I (z_up zS I1) 7 9 = nI zV.2.1 := (hf 7 9 (by omega)).trans hn
    refine z_s 3 hB_z dX1_close_2 rfl rfl ?_
    refine z_s 4 hB_z dX1_close_3 rfl rfl ?_
    refine z_getR 7 hB_z fX1_20 (L48 (zS := zS) hL) dX1_close_4 rfl rfl (r48_0 (zS := zS) hL) ?_
    refine z_getI 10 hB_z fX1_67 (L7 (zS := zS) hL) dX1_close_7 rfl rfl ?_
    refine z_b 13 58 hB_z dX1_close_10 rfl rfl (by decide) (fun c_10 => ?_) (fun c_10 => ?_)
    ·
      have hjs : zV.2.1 ≤ j_z := (nI_leI (by omega) (by omega)).mp (by rw [← hn1]; exact c_10)
      refine z_s 59 hB_z dX1_close_58 rfl rfl ?_
      refine z_s 60 hB_z dX1_close_59 rfl rfl ?_
      refine z_putI 63 hB_z fX1_80 hst.1 dX1_close_60 rfl rfl rfl ?_
      refine z_s 64 hB_z dX1_close_63 rfl rfl ?_
      refine z_s 65 hB_z dX1_close_64 rfl rfl ?_
      refine z_getI 68 hB_z fX1_126 hst.1 dX1_close_65 rfl rfl ?_
      refine z_s 69 hB_z dX1_close_68 rfl rfl ?_
      refine z_getI 72 hB_z fX1_58 (L48 (zS := zS) hL) dX1_close_69 rfl rfl ?_
      refine z_s 73 hB_z dX1_close_72 rfl rfl ?_
      refine z_putI 76 hB_z fX1_126 hst.1 dX1_close_73 rfl rfl rfl ?_
      refine z_s 77 hB_z dX1_close_76 rfl rfl ?_
      refine z_s 78 hB_z dX1_close_77 rfl rfl ?_
      refine z_getI 81 hB_z fX1_127 hst.1 dX1_close_78 rfl rfl ?_
      refine z_s 82 hB_z dX1_close_81 rfl rfl ?_
      refine z_getI 85 hB_z fX1_61 (L48 (zS := zS) hL) dX1_close_82 rfl rfl ?_
      refine z_s 86 hB_z dX1_close_85 rfl rfl ?_
      refine z_putI 89 hB_z fX1_127 hst.1 dX1_close_86 rfl rfl rfl ?_
      refine z_s 90 hB_z dX1_close_89 rfl rfl ?_
      refine z_s 91 hB_z dX1_close_90 rfl rfl ?_
      refine z_getI 94 hB_z fX1_128 hst.1 dX1_close_91 rfl rfl ?_
      refine z_s 95 hB_z dX1_close_94 rfl rfl ?_
      refine z_getI 98 hB_z fX1_52 (L48 (zS := zS) hL) dX1_close_95 rfl rfl ?_
      refine z_s 99 hB_z dX1_close_98 rfl rfl ?_
      refine z_putI 102 hB_z fX1_128 hst.1 dX1_close_99 rfl rfl rfl ?_
      refine z_s 103 hB_z dX1_close_102 rfl rfl ?_
      refine z_s 104 hB_z dX1_close_103 rfl rfl ?_
      refine z_getI 107 hB_z fX1_28 hst.1 dX1_close_104 rfl rfl ?_
      refine z_s 108 hB_z dX1_close_107 rfl rfl ?_
      refine z_s 109 hB_z dX1_close_108 rfl rfl ?_
      refine z_putI 112 hB_z fX1_28 hst.1 dX1_close_109 rfl rfl rfl ?_
      refine z_vret hM_z dX1_close_112 rfl ?_ rfl rfl
      have hj2 : j_z = zV.2.1 := by omega
      rw [hj2] at h2
      have a7 : z_I (z_up zS I1) 48 7 = D_z.2.2.2.2.1 := (hf 48 7 (by omega)).trans hN_z.2.2.2.2.2.1
      have a8 : z_I (z_up zS I1) 48 8 = D_z.2.2.2.2.2.1 := (hf 48 8 (by omega)).trans hN_z.2.2.2.2.2.2.1
      have a5 : z_I (z_up zS I1) 48 5 = D_z.2.2.1 := (hf 48 5 (by omega)).trans hN_z.2.2.2.1
      have b1 := h1 1 (by decide)
      have b2 := h1 2 (by decide)
      have b3 := h1 3 (by decide)
      have b0 := h1 0 (by decide)
      refine ⟨rfl, z_u2 (z_u2 (z_u2 (z_u2 (z_u2 I1 o 5 0) o 1 (zT 1 + D_z.2.2.2.2.1)) o 2 (zT 2 + D_z.2.2.2.2.2.1)) o 3 (zT 3 + D_z.2.2.1)) o 0 (zT 0 + 1), ?_, ((((hf.u2 (Or.inl rfl)).u2 (Or.inl rfl)).u2 (Or.inl rfl)).u2 (Or.inl rfl)).u2 (Or.inl rfl), z_close_fin h1 h2⟩
      rw [z_Ine (o' := o) (k_z' := 0) (Or.inr (by decide)), z_Ine (o' := o) (k_z' := 0) (Or.inr (by decide)), z_Ine (o' := o) (k_z' := 0) (Or.inr (by decide)), z_Ine (o' := o) (k_z' := 0) (Or.inr (by decide))]
      rw [z_Ine (o' := 48) (k_z' := 5) (Or.inl (by omega)), z_Ine (o' := 48) (k_z' := 5) (Or.inl (by omega)), z_Ine (o' := 48) (k_z' := 5) (Or.inl (by omega)), z_Ine (o' := o) (k_z' := 3) (Or.inr (by decide)), z_Ine (o' := o) (k_z' := 3) (Or.inr (by decide)), z_Ine (o' := o) (k_z' := 3) (Or.inr (by decide))]
      rw [z_Ine (o' := 48) (k_z' := 8) (Or.inl (by omega)), z_Ine (o' := 48) (k_z' := 8) (Or.inl (by omega)), z_Ine (o' := o) (k_z' := 2) (Or.inr (by decide)), z_Ine (o' := o) (k_z' := 2) (Or.inr (by decide))]
      rw [z_Ine (o' := 48) (k_z' := 7) (Or.inl (by omega)), z_Ine (o' := o) (k_z' := 1) (Or.inr (by decide))]
      rw [a7, a8, a5, show z_I (z_up zS I1) o 1 = zT 1 from b1, show z_I (z_up zS I1) o 2 = zT 2 from b2, show z_I (z_up zS I1) o 3 = zT 3 from b3, show z_I (z_up zS I1) o 0 = zT 0 from b0]
      rfl
    ·
      have hjs : j_z < zV.2.1 := (nI_ltI (by omega) (by omega)).mp (by rw [← hn1]; exact c_10)
      refine z_s 14 hB_z dX1_close_13 rfl rfl ?_
      refine z_getR 17 hB_z fX1_73 hst.1 dX1_close_14 rfl rfl hst.2.1 ?_
      refine z_s 18 hB_z dX1_close_17 rfl rfl ?_
      refine z_callV 21 hB_z hM_z.2.1 kX1_76 dX1_close_18 rfl hst.2.2.1 rfl (c_at (zS := z_up zS I1) (d_z := 0) hst.2.2 (by decide) (by omega)) (by omega) rfl rfl (Nat.le_of_ble_eq_true rfl) ⟨Nat.le_refl _, Nat.le_refl _⟩ ?_
      rintro _ _ ⟨rfl, rfl⟩
      rw [show z_I (z_up zS I1) (o + 2) j_z = zT (6 + j_z) from (h2 j_z (by omega)).trans (if_neg (Nat.lt_irrefl j_z))]
      refine z_s 22 hB_z dX1_close_21 rfl rfl ?_
      refine z_s 23 hB_z dX1_close_22 rfl rfl ?_
      refine z_s 24 hB_z dX1_close_23 rfl rfl ?_
      refine z_max 27 hB_z hM_z.2.1 kX1_121 x_stat x_init x_code dX1_close_24 rfl (Nat.le_of_ble_eq_true rfl) ⟨Nat.le_refl _, Nat.le_refl _⟩ ?_
      refine z_s 28 hB_z dX1_close_27 rfl rfl ?_
      refine z_s 29 hB_z dX1_close_28 rfl rfl ?_
      refine z_getR 32 hB_z fX1_73 hst.1 dX1_close_29 rfl rfl hst.2.1 ?_
      refine z_s 33 hB_z dX1_close_32 rfl rfl ?_
      refine z_s 34 hB_z dX1_close_33 rfl rfl ?_
      refine z_getI 37 hB_z fX1_46 (L48 (zS := zS) hL) dX1_close_34 rfl rfl ?_
      refine z_s 38 hB_z dX1_close_37 rfl rfl ?_
      refine z_callS 41 hB_z hM_z.2.1 kX1_83 dX1_close_38 rfl (c_has (d_z := 0)) (by omega) rfl rfl (Nat.le_of_ble_eq_true rfl) ⟨Nat.le_refl _, Nat.le_refl _⟩ ?_
      rintro _ _ ⟨rfl, rfl⟩
      rw [show z_I (z_up zS I1) 48 3 = D_z.1 from (hf 48 3 (by omega)).trans hN_z.2.1]
      refine z_b 44 48 hB_z dX1_close_41 rfl rfl (by decide) (fun c_41 => ?_) (fun c_41 => ?_)
      ·
        refine z_s 49 hB_z dX1_close_48 rfl rfl ?_
        refine z_callV 52 hB_z hM_z.2.1 kX1_118 dX1_close_49 rfl hst.2.2.1 rfl (c_put (zS := z_up zS I1) (d_z := 0) hst.2.2 (by decide) (by omega)) (by omega) rfl rfl (Nat.le_of_ble_eq_true rfl) ⟨Nat.le_refl _, Nat.le_refl _⟩ ?_
        rintro _ _ ⟨rfl, rfl⟩
        refine z_s 55 hB_z dX1_close_52 rfl rfl ?_
        refine z_j 2 hB_z dX1_close_55 (by decide) ?_
        exact z_wkn (ih_z hjs (z_u2 I1 (o + 2) j_z _) (hf.u2 (Or.inr rfl)) (fun k_z hk => (z_u2_ne (Or.inl (by omega))).trans (h1 k_z hk)) (fun k_z hk => by
          by_cases q_z : k_z = j_z
          · rw [q_z, z_u2_same, if_pos (show j_z < j_z + 1 by omega), z_cls1_aw hjs]
            exact (if_neg (by rw [z_if0 c_41]; exact Bool.false_ne_true)).symm
          · rw [z_u2_ne (Or.inr q_z), h2 k_z hk]
            by_cases q2_z : k_z < j_z
            · rw [if_pos q2_z, if_pos (by omega)]
            · rw [if_neg q2_z, if_neg (by omega)])) ⟨rfl, rfl, congrArg (fun q_z => some (Value.int q_z)) (z_inc j_z), trivial⟩
      ·
        refine z_s 45 hB_z dX1_close_44 rfl rfl ?_
        refine z_j 49 hB_z dX1_close_45 (by decide) ?_
        refine z_callV 52 hB_z hM_z.2.1 kX1_118 dX1_close_49 rfl hst.2.2.1 rfl (c_put (zS := z_up zS I1) (d_z := 0) hst.2.2 (by decide) (by omega)) (by omega) rfl rfl (Nat.le_of_ble_eq_true rfl) ⟨Nat.le_refl _, Nat.le_refl _⟩ ?_
        rintro _ _ ⟨rfl, rfl⟩
        refine z_s 55 hB_z dX1_close_52 rfl rfl ?_
        refine z_j 2 hB_z dX1_close_55 (by decide) ?_
        exact z_wkn (ih_z hjs (z_u2 I1 (o + 2) j_z _) (hf.u2 (Or.inr rfl)) (fun k_z hk => (z_u2_ne (Or.inl (by omega))).trans (h1 k_z hk)) (fun k_z hk => by
          by_cases q_z : k_z = j_z
          · rw [q_z, z_u2_same, if_pos (show j_z < j_z + 1 by omega), z_cls1_aw hjs]
            exact (if_pos (z_if1 c_41)).symm
          · rw [z_u2_ne (Or.inr q_z), h2 k_z hk]
            by_cases q2_z : k_z < j_z
            · rw [if_pos q2_z, if_pos (by omega)]
            · rw [if_neg q2_z, if_neg (by omega)])) ⟨rfl, rfl, congrArg (fun q_z => some (Value.int q_z)) (z_inc j_z), trivial⟩) 0 (Nat.zero_le _)
  refine z_s 1 hB_z dX1_close_0 rfl rfl ?_
  refine z_s 2 hB_z dX1_close_1 rfl rfl ?_
  exact z_eq (loop (z_I zS) z_fr.rf hT_z.1 (fun k_z hk => by rw [if_neg (Nat.not_lt_zero k_z)]; exact hT_z.2 k_z hk)) rfl rfl rfl

