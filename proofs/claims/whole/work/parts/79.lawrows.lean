/-! the law: its rows, its calls, its end -/
section ZLW
variable {g : z_U} {X : z_X} {own : String} {cc : ByteArray} {nL pc : Nat} {ls ls' : List (Option Value)} {st st' : List Value} {cl sl : Nat} {S : z_S} {o ci k idx : Nat} {d' mc' ms' np : Nat} {M : z_M} {av : List Value} {Post : Option Value → z_S → Prop}
theorem z_slen (n : Nat) {L : Nat} {xs : Nat → Int32} (hB : z_B g X own cc nL) (hX : va_X (z_old g 0) L xs (z_Xs X) (z_Xs X).heap) (hbl : z_old g 0 < (z_Xs X).heap.size) (hbs : z_base g = (z_Xs X).heap.size) (hd : decode cc pc = .ok (.arraylength, 1)) (hn : pc + 1 = n)
    (kk : z_W g X n ls (.int (nI L) :: st) cl sl S) : z_W g X pc ls (.ref 0 :: st) cl sl S := by
  subst hn
  intro H locs Ls hW hS hh
  exact va_slen hB.1 hB.2.1 hX hbl (show ¬ z_base g ≤ z_old g 0 by omega) hS hd (kk H locs Ls hW hS hh)
theorem z_sld (n : Nat) {L : Nat} {xs : Nat → Int32} {i : Int32} (hB : z_B g X own cc nL) (hX : va_X (z_old g 0) L xs (z_Xs X) (z_Xs X).heap) (hbl : z_old g 0 < (z_Xs X).heap.size) (hbs : z_base g = (z_Xs X).heap.size) (hd : decode cc pc = .ok (.iaload, 1)) (hn : pc + 1 = n) (hin : vp_in i L)
    (kk : z_W g X n ls (.int (xs i.toNatClampNeg) :: st) cl sl S) : z_W g X pc ls (.int i :: .ref 0 :: st) cl sl S := by
  subst hn
  intro H locs Ls hW hS hh
  exact va_sld hB.1 hB.2.1 hX hbl (show ¬ z_base g ≤ z_old g 0 by omega) hS hin hd (kk H locs Ls hW hS hh)
theorem z_roomL (hR : z_XR X = room_1) (hd' : d' < 9) (hm : M.2.2.1 ≤ 15) : (z_room d' mc' ms').frames + 1 ≤ (z_XR X).frames ∧ 8 + (M.2.2.1 + 11) + (z_room d' mc' ms').locals ≤ (z_XR X).locals := by
  rw [hR]
  simp only [z_room, room_1]
  omega
theorem z_callVL (n : Nat) {rest : List Value} {b : Nat} (hB : z_B g X own cc nL) (hR : z_XR X = room_1) (hm : z_MV own idx M np) (hd : decode cc pc = .ok (.invokevirtual idx, 3)) (hn : pc + 3 = n) (hb : z_is S b (0, ci)) (hci : (z_cl[ci]?).map (fun q => q.1) = some M.1.cls) (hc : z_C g d' mc' ms' M (.ref b :: av) S Post) (hd' : d' < 9) (hnp : av.length = np) (hst : st = av.reverse ++ .ref b :: rest) (hcat : (rest.map fun v => v.category).sum ≤ 8) (hcl : cl + mc' ≤ 600000 ∧ sl + ms' ≤ 7302250)
    (kk : ∀ r S', Post r S' → z_W g X n ls (r.toList ++ rest) (cl + mc') (sl + ms') S') : z_W g X pc ls st cl sl S := by
  subst hn; subst hst
  obtain ⟨⟨hl, hcode, hini, ⟨hy1, hy2, hy3⟩, hml⟩, hins, hsel⟩ := hm
  intro H locs Ls hW hS hh
  have hts := hB.2.2.2.2.1
  have hG := z_good hcode
  have hrm := z_roomL (X := X) (mc' := mc') (ms' := ms') hR hd' hml
  have hpre := z_pre (av := .ref b :: av) hB.2.2.2.2.2.1 hW
  obtain ⟨q, hq, hqc⟩ := Option.map_eq_some_iff.mp hci
  have he := z_ws_o (g := g) hb
  rw [z_ent_obj hb.1] at he
  have hcell := va_recv hB.2.2.2.2.2.1.1 hW.2.1 hq he
  rw [hqc] at hcell
  have hrest : 2 * (F0 (z_Xm X) pc Ls ((av.reverse ++ .ref b :: rest).map (z_val g))).monitorRoom + (((rest.map (z_val g))).map fun v => v.category).sum ≤ 8 := lv_room (by rw [z_catsum]; exact hcat)
  have hcl' : cl + mc' ≤ (z_XR X).cells ∧ sl + ms' ≤ (z_XR X).slots := by rw [hR]; exact hcl
  have hstk : (F0 (z_Xm X) pc Ls ((av.reverse ++ .ref b :: rest).map (z_val g))).stack = (av.map (z_val g)).reverse ++ .ref (z_ad g b) :: rest.map (z_val g) := by simp [z_val]
  have hsz : (F0 (z_Xm X) pc Ls ((av.reverse ++ .ref b :: rest).map (z_val g))).locals.size = nL := hh.2.1.trans hB.2.2.2.2.2.2.2
  rcases hl with hl | ⟨host, hl⟩
  · exact z_after (va_runV (z_fixed hB) hc ⟨callB_of np hts hG rfl rfl rfl (hts _ hini) (hts _ hl) ⟨hy1, hy2, hy3⟩ hrm, hts _ hins, hts _ hsel⟩ ⟨hpre.1, hcell, hpre.2⟩ rfl (by simpa using hnp) hsz hstk hrest hd hcl') hS hh kk
  · exact z_after (va_runVN (z_fixed hB) hc ⟨va_cnB np hts hG rfl rfl rfl (hB.2.2.2.2.2.1.2.1 _ hl) (hts _ hini) ⟨hy1, hy2, hy3⟩ hrm, hts _ hins, hts _ hsel⟩ ⟨hpre.1, hcell, hpre.2⟩ rfl (by simpa using hnp) hsz hstk hrest hd hcl') hS hh kk
theorem z_callIL (n : Nat) {rest : List Value} {b : Nat} (hB : z_B g X own cc nL) (hR : z_XR X = room_1) (hm : z_MI own idx M np) (hd : decode cc pc = .ok (.invokespecial idx, 3)) (hn : pc + 3 = n) (hc : z_C g d' mc' ms' M (.ref b :: av) S Post) (hd' : d' < 9) (hnp : av.length = np) (hst : st = av.reverse ++ .ref b :: rest) (hcat : (rest.map fun v => v.category).sum ≤ 8) (hcl : cl + mc' ≤ 600000 ∧ sl + ms' ≤ 7302250)
    (kk : ∀ r S', Post r S' → z_W g X n ls (r.toList ++ rest) (cl + mc') (sl + ms') S') : z_W g X pc ls st cl sl S := by
  subst hn; subst hst
  obtain ⟨yM, cM, lM, rM⟩ := M
  obtain ⟨⟨hl, hcode, hini, ⟨hy1, hy2, hy3⟩, hml⟩, hins, hnm, hret⟩ := hm
  dsimp only at hret
  subst hret
  intro H locs Ls hW hS hh
  have hts := hB.2.2.2.2.1
  have hG := z_good hcode
  have hrm := z_roomL (X := X) (mc' := mc') (ms' := ms') hR hd' hml
  have hpre := z_pre (av := .ref b :: av) hB.2.2.2.2.2.1 hW
  have hrest : 2 * (F0 (z_Xm X) pc Ls ((av.reverse ++ .ref b :: rest).map (z_val g))).monitorRoom + (((rest.map (z_val g))).map fun v => v.category).sum ≤ 8 := lv_room (by rw [z_catsum]; exact hcat)
  have hcl' : cl + mc' ≤ (z_XR X).cells ∧ sl + ms' ≤ (z_XR X).slots := by rw [hR]; exact hcl
  have hstk : (F0 (z_Xm X) pc Ls ((av.reverse ++ .ref b :: rest).map (z_val g))).stack = (av.map (z_val g)).reverse ++ .ref (z_ad g b) :: rest.map (z_val g) := by simp [z_val]
  have hsz : (F0 (z_Xm X) pc Ls ((av.reverse ++ .ref b :: rest).map (z_val g))).locals.size = nL := hh.2.1.trans hB.2.2.2.2.2.2.2
  rcases hl with hl | ⟨host, hl⟩
  · exact z_after (va_runI (z_fixed hB) hc ⟨callB_of np hts hG rfl rfl rfl (hts _ hini) (hts _ hl) ⟨hy1, hy2, hy3⟩ hrm, hnm, hts _ hins⟩ hpre rfl (by simpa using hnp) hsz hstk hrest hd hcl') hS hh kk
  · exact z_after (va_runIN (z_fixed hB) hc ⟨va_cnB np hts hG rfl rfl rfl (hB.2.2.2.2.2.1.2.1 _ hl) (hts _ hini) ⟨hy1, hy2, hy3⟩ hrm, hnm, hts _ hins⟩ hpre rfl (by simpa using hnp) hsz hstk hrest hd hcl') hS hh kk
theorem z_nobjL (n : Nat) (hB : z_B g X own cc nL) (hR : z_XR X = room_1) (hl : z_CL own idx ci) (hd : decode cc pc = .ok (.new idx, 3)) (hn : pc + 3 = n) (h1 : cl + 1 ≤ 600000) (h2 : sl + z_n ci ≤ 7302250)
    (kk : z_W g X n ls (.ref (z_nx S + 4) :: st) (cl + 1) (sl + z_n ci) (z_new S (0, ci))) : z_W g X pc ls st cl sl S := by
  subst hn
  obtain ⟨hx, hb, hml, hown, hts, hKn, -⟩ := hB
  obtain ⟨q, hq, hcl, hins, hini⟩ := hl
  obtain ⟨C, T, N⟩ := q
  have hN : z_n ci = N := z_n_of hq
  intro H locs Ls hW hS hh
  have hKc := hKn.1.1 ci _ hq
  obtain ⟨hin, -⟩ := z_cls ci _ hq
  obtain ⟨ty, hty, htyOK⟩ := z_clty ci _ hq
  refine W.newcK hx hb hown (hts _ hcl) (hts _ hins) (hts _ hini) rfl hd (by rw [hR]; exact h1) (by rw [hR]; show sl + N ≤ 7302250; rw [← hN]; exact h2) hKc.2.1 rfl fun H1 kC hkC e1 z1 o1 => ?_
  have ha : z_ad g (z_nx S + 4) = H.size := hW.1.symm
  have hI0 : z_I (z_new S (0, ci)) (z_nx S + 4) = fun _ => 0 := by funext j; simp [z_I, z_new, z_nx]
  have hR0 : z_R (z_new S (0, ci)) (z_nx S + 4) = fun _ => none := by funext j; simp [z_R, z_new, z_nx]
  have hk0 : z_kd (z_new S (0, ci)) (z_nx S + 4) = (0, ci) := by simp [z_kd, z_new, z_nx]
  have hW1 : z_Wd g (z_new S (0, ci)) H1 := by
    refine z_Wd_new hW z1 o1 ?_
    rw [z_ent_obj hk0, ha]
    refine ⟨_, hq, (u_born ty hts hin hKc hkC e1 hty).to (fun j hj => ?_)⟩
    have h3 := List.all_eq_true.mp htyOK j (List.mem_range.mpr hj)
    have hvp : vp_V ((List.range (z_n ci)).map (z_fld g (z_new S (0, ci)) ci (z_nx S + 4))) j = z_fld g (z_new S (0, ci)) ci (z_nx S + 4) j := by
      have hjr : j < (List.range (z_n ci)).length := by rw [List.length_range, hN]; exact hj
      unfold vp_V
      rw [List.getD_eq_getElem?_getD, List.getElem?_map, List.getElem?_eq_getElem hjr]
      simp
    rw [hvp]
    unfold z_fld
    rw [hI0, hR0]
    by_cases hi : z_isI ci j = true
    · rw [if_pos hi]
      have hi' := hi
      simp only [z_isI, hq] at hi'
      rw [if_pos hi'] at h3
      rw [beq_iff_eq.mp h3]
      rfl
    · rw [if_neg hi]
      have hi' := hi
      simp only [z_isI, hq] at hi'
      rw [if_neg hi'] at h3
      revert h3
      generalize ty j = t
      intro h3
      cases t <;> first | (simp [FieldType.isReference] at h3; done) | rfl
  have := kk H1 locs Ls hW1 (z_S_new hS z1 o1) hh
  rw [hN] at this
  have e4 : ((Value.ref (z_nx S + 4) :: st).map (z_val g)) = .ref H.size :: st.map (z_val g) := by
    rw [List.map_cons, ← ha]; rfl
  rw [e4] at this
  exact this
end ZLW
/-- the law's body, as the layer has it -/
def z_XL0 (p : Program) (e : Env) (s : State) (m : MethodId) (b : Nat) (below : List Frame) (meth : Method) (c : Code) : z_X := (p, e, room_1, s, m, #[Value.ref b], below, meth, c, lw_Z below #[Value.ref b] s, 4)
theorem z_lret {g : z_U} {p : Program} {e : Env} {s : State} {m : MethodId} {b : Nat} {below : List Frame} {meth : Method} {c : Code} {pc : Nat} {ls : List (Option Value)} {cl sl : Nat} {S : z_S} (hx : p.tables.exec = Jvm.exec) (hb : c.code = code) (hr : meth.sig.returnType = ret) (hlk : meth.locks = false) (hbs : z_base g = s.heap.size) (h1 : cl ≤ 600000) (h2 : sl ≤ 7302250) (hd : decode code pc = .ok (.ireturn, 1)) : z_W g (z_XL0 p e s m b below meth c) pc ls [.int 1] cl sl S := by
  intro H locs Ls hW hS hh
  refine va_forget (fun q hq => by have := hS.2.2 q hq; have h3 : z_base g ≤ q.base := this; rw [hbs] at h3; exact h3) ?_
  refine W.widen (k := 600000) (n := 7302250) h1 h2 ?_
  exact lw_ret hx hb hr hlk hd
