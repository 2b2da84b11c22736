/-! the law: its entry -/
theorem z_lwt1 {w : Cond} (i : Nat) (h : tables_1_1[i]? = some w) : w ∈ lw_tbl := List.mem_append_right _ (List.mem_append_left _ (List.mem_of_getElem? h))
theorem z_lwt2 {w : Cond} (i : Nat) (h : tables_1_2[i]? = some w) : w ∈ lw_tbl := List.mem_append_right _ (List.mem_append_right _ (List.mem_append_left _ (List.mem_of_getElem? h)))
theorem z_w_over : Cond.arrayOver (.object RX7) ∈ lw_tbl := z_lwt2 1 (by first | exact rfl | decide +kernel)
theorem z_w_text : Cond.stringRef RX9 80 z_tx ∈ lw_tbl := z_lwt2 48 (by first | exact rfl | decide +kernel)
theorem z_w_comp : Cond.laysStatic RJ0 "COMPACT_STRINGS" "Z" ∈ lw_tbl := z_lwt2 58 (by first | exact rfl | decide +kernel)
theorem z_w_form : Cond.laysStatic RJ3 "SIOOBE_FORMATTER" "Ljava/util/function/BiFunction;" ∈ lw_tbl := z_lwt2 74 (by first | exact rfl | decide +kernel)
theorem z_w_ini0 : Cond.initialized RJ0 ∈ lw_tbl := z_lwt1 11 (by first | exact rfl | decide +kernel)
theorem z_w_ini3 : Cond.initialized RJ3 ∈ lw_tbl := z_lwt1 13 (by first | exact rfl | decide +kernel)
def z_tmv : Term := .field (.string RX9 80) RJ0 "value" "[B"
theorem z_f_exa : Cond.exactly (.string RX9 80) RJ0 ∈ flatC (Jvm.Cond.and given_1 narrow_1) := by decide +kernel
theorem z_f_cod : Cond.eq (.field (.string RX9 80) RJ0 "coder" "B") (.int 0) ∈ flatC (Jvm.Cond.and given_1 narrow_1) := by decide +kernel
theorem z_f_arr : Cond.arrayOf z_tmv .byte ∈ flatC (Jvm.Cond.and given_1 narrow_1) := by decide +kernel
theorem z_f_len : Cond.eq (.length z_tmv) (.int (Int32.ofNat 125)) ∈ flatC (Jvm.Cond.and given_1 narrow_1) := by decide +kernel
theorem z_f_com : Cond.eq (.static RJ0 "COMPACT_STRINGS" "Z") (.int 1) ∈ flatC (Jvm.Cond.and given_1 narrow_1) := by decide +kernel
theorem z_f_for : Cond.isRef (.static RJ3 "SIOOBE_FORMATTER" "Ljava/util/function/BiFunction;") ∈ flatC (Jvm.Cond.and given_1 narrow_1) := by decide +kernel
theorem z_f_el : ∀ j, j < 125 → Cond.eq (.elem z_tmv (.int (Int32.ofNat j))) (.int (z_bl.getD j 0)) ∈ flatC (Jvm.Cond.and given_1 narrow_1) := by decide +kernel
/-- the classes, by number, can be made -/
theorem z_mkC : ∀ ci, ci < 11 → ∃ q : vw_C, z_cl[ci]? = some q ∧ Cond.instantiable q.1 q.2.2 ∈ z_tbl := by
  intro ci hci
  have k : ∀ {own : String} {idx : Nat}, z_CL own idx ci → ∃ q : vw_C, z_cl[ci]? = some q ∧ Cond.instantiable q.1 q.2.2 ∈ z_tbl := fun h => by
    obtain ⟨q, h1, h2, h3, h4⟩ := h
    exact ⟨q, h1, h3⟩
  rcases (show ci = 0 ∨ ci = 1 ∨ ci = 2 ∨ ci = 3 ∨ ci = 4 ∨ ci = 5 ∨ ci = 6 ∨ ci = 7 ∨ ci = 8 ∨ ci = 9 ∨ ci = 10 by omega) with rfl | rfl | rfl | rfl | rfl | rfl | rfl | rfl | rfl | rfl | rfl
  · exact k lX9_73
  · exact k lX9_35
  · exact k lX9_26
  · exact k lX5_9
  · exact k lX9_54
  · exact k lX9_16
  · exact k lX9_66
  · exact k lX9_44
  · exact k lX9_9
  · exact k lL_7
  · exact k lL_10
theorem z_known {s : State} {args : Array Value} (hts : ∀ w ∈ z_tbl, w.before args s = true) : ∃ D : va_G, ∀ (ci : Nat) (q : vw_C), z_cl[ci]? = some q → u_Kn s q.1 q.2.1 q.2.2 (D.1 ci) (D.2 ci) := by
  have h : ∀ ci : Nat, ∃ x : ClassId × (Nat → Nat), ∀ q : vw_C, z_cl[ci]? = some q → u_Kn s q.1 q.2.1 q.2.2 x.1 x.2 := by
    intro ci
    by_cases hci : ci < 11
    · obtain ⟨q, h1, h2⟩ := z_mkC ci hci
      obtain ⟨cC, iS, hK⟩ := u_known (ws := z_tbl) (C := q.1) (T := q.2.1) (N := q.2.2) hts (z_cls ci q h1).1 (hts _ h2)
      refine ⟨(cC, iS), fun q2 hq2 => ?_⟩
      have e : q = q2 := Option.some.inj (h1.symm.trans hq2)
      subst e
      exact hK
    · refine ⟨(0, fun _ => 0), fun q hq => ?_⟩
      have := (List.getElem?_eq_some_iff.mp hq).1
      exact absurd this hci
  obtain ⟨f, hf⟩ := Classical.axiomOfChoice h
  exact ⟨(fun ci => (f ci).1, fun ci => (f ci).2), hf⟩
/-- the entry: what the layer asks of the state -/
theorem z_entry {p : Program} {e : Env} {s : State} {m : MethodId} {below : List Frame} {meth : Method} {c : Code} (l : Launch) {b L : Nat} {xs : Nat → Int32} (C0 : lw_At p s m meth c b L xs) : ∃ g : z_U, g.1 = l ∧ z_old g 0 = b ∧ z_base g = s.heap.size ∧ z_B g (z_XL0 p e s m b below meth c) R_law code 4 ∧ z_Wd g z_S0 s.heap := by
  obtain ⟨hx, hb, hr, hml, hown, hts, hX, hbl, hlocks, hgv⟩ := C0
  have hA : ∀ a : Nat, a < s.heap.size → ¬ (fun q : Nat => s.heap.size ≤ q) a := fun a h => Nat.not_le.mpr h
  have htz : ∀ w ∈ z_tbl, w.before #[Value.ref b] s = true := fun w hw => hts w (List.mem_filter.mp hw).1
  have hs := flat_of_before _ hgv
  obtain ⟨D, hD⟩ := z_known htz
  obtain ⟨cI, kI, pI, i1, i2, i3⟩ := Cond.arrayClass_spec (htz _ a_int)
  obtain ⟨pS, cS, kS, s1, s2, s3, s4, s5⟩ := Cond.arrayOver_spec (hts _ z_w_over)
  obtain ⟨adK, adV, hE, hev⟩ := vk_Sof (args := #[Value.ref b]) (s := s) (N := 1) (tm := fun _ => .string RX9 80) (len := [125]) (byt := [z_bl]) (A := fun q : Nat => s.heap.size ≤ q) (fun i hi => by rcases (show i = 0 by omega) with rfl; decide) (fun i hi => hs _ z_f_exa) (fun i hi => hs _ z_f_cod) (fun i hi => hs _ z_f_arr) (fun i hi => by rcases (show i = 0 by omega) with rfl; exact hs _ z_f_len) (fun i hi j hj => by rcases (show i = 0 by omega) with rfl; exact hs _ (z_f_el j hj)) (fun i j hi hj hij => absurd (show i = j by omega) hij) hA
  have hcom := va_Zof (A := fun q : Nat => s.heap.size ≤ q) (hts _ z_w_comp) (hts _ z_w_ini0) (va_eqt (hs _ z_f_com)) hA
  have hfor := va_Zqof (A := fun q : Nat => s.heap.size ≤ q) (hts _ z_w_form) (hts _ z_w_ini3) (hs _ z_f_for) hA
  obtain ⟨fm, hfm⟩ : ∃ fm : Nat, va_Z RJ3 "SIOOBE_FORMATTER" "Ljava/util/function/BiFunction;" .null (fun q : Nat => s.heap.size ≤ q) s s.heap ∨ va_Z RJ3 "SIOOBE_FORMATTER" "Ljava/util/function/BiFunction;" (.ref fm) (fun q : Nat => s.heap.size ≤ q) s s.heap := by
    rcases hfor with h | ⟨t, h⟩
    · exact ⟨0, Or.inl h⟩
    · exact ⟨t, Or.inr h⟩
  refine ⟨(l, D, cI, cS, s.heap.size, (fun k => if k = 0 then b else if k = 1 then adK 0 else if k = 2 then adV 0 else fm), s.heap), rfl, rfl, rfl, ⟨hx, hb, hml, hown, htz, ⟨⟨hD, fun k q hk => ?_⟩, fun w hw => ?_, va_AO.of (hts _ z_w_over), ⟨vk_R.of (hts _ z_w_text) (hev 0 (by decide)), ⟨fun i hi => ?_, fun i j hi hj _ => by omega⟩, hcom, hfm⟩⟩, Nat.le_refl _, rfl⟩, ⟨rfl, fun k q hk => ?_, fun q hq => rfl⟩⟩
  · match k, hk with
    | 0, hk =>
      cases hk
      exact ⟨fun n z => ⟨fun k h => (by cases h), kI, i2, pI, i3⟩, i1⟩
    | 1, hk =>
      cases hk
      exact ⟨fun n z => ⟨fun k h => (by cases h), kS, s3, pS, s4⟩, kS, pS, s3, s4, s1, s5⟩
    | k + 2, hk => simp at hk
  · have hn := (List.mem_filter.mp hw).2
    have hk := hts w (List.mem_filter.mp hw).1
    cases w with
    | fieldLinkNest a i b n d q => exact va_Nw.of rfl hk
    | methodLinkNest a i x q => exact va_Nw.of rfl hk
    | _ => simp [z_isNest] at hn
  · rcases (show i = 0 by omega) with rfl
    have h := hE.1 0 (by decide)
    rw [z_by_bl]
    exact h
  · simp [z_ws, z_S0, z_nx] at hk
