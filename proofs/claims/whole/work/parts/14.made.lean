/-! new cells -/
theorem z_ent_new {g : z_U} {S : z_S} {q : Nat × Nat} {o : Nat} (h : o < z_nx S + 4) : z_ent g (z_new S q) o = z_ent g S o := by
  have hne : ¬ o = S.2.2.2 + 4 := by
    have : z_nx S = S.2.2.2 := rfl
    omega
  have e1 : z_kd (z_new S q) o = z_kd S o := by simp [z_kd, z_new, hne]
  have e2 : z_I (z_new S q) o = z_I S o := by funext j; simp [z_I, z_new, hne]
  have e3 : z_R (z_new S q) o = z_R S o := by funext j; simp [z_R, z_new, hne]
  have e4 : ∀ ci, z_fld g (z_new S q) ci o = z_fld g S ci o := by
    intro ci
    funext j
    simp only [z_fld, e2, e3]
  unfold z_ent
  rw [e1, e2, e3]
  simp only [e4]
theorem z_ws_new {g : z_U} {S : z_S} {q : Nat × Nat} : z_ws g (z_new S q) = z_ws g S ++ [(z_ad g (z_nx S + 4), z_ent g (z_new S q) (z_nx S + 4))] := by
  have hnx : z_nx (z_new S q) = z_nx S + 1 := rfl
  unfold z_ws
  rw [hnx, List.range_succ, List.map_append]
  congr 1
  apply List.map_congr_left
  intro k hk
  rw [z_ent_new (by have := List.mem_range.mp hk; omega)]
theorem z_Wd_new {g : z_U} {S : z_S} {q : Nat × Nat} {H H1 : Heap} (hW : z_Wd g S H) (hz : H1.size = H.size + 1) (ho : ∀ x, x < H.size → H1[x]? = H[x]?) (he : va_at g.2.1 z_cl (z_ad g (z_nx S + 4), z_ent g (z_new S q) (z_nx S + 4)) H1) : z_Wd g (z_new S q) H1 := by
  refine ⟨by rw [hz, hW.1]; rfl, ?_, fun q hq => (ho q (by rw [hW.1]; omega)).trans (hW.2.2 q hq)⟩
  rw [z_ws_new]
  refine va_P.app (hW.2.1.kept (fun k x hx => ho _ ((hW.2.1 k x hx).lt))) (fun k x hx => ?_)
  have hz : k < 1 := (List.getElem?_eq_some_iff.mp hx).1
  rw [show k = 0 by omega] at hx
  cases hx
  exact he
theorem z_S_new {g : z_U} {H0 H H1 : Heap} {locs : List Loc} (hS : va_S (z_A g) H0 H locs) (hz : H1.size = H.size + 1) (ho : ∀ x, x < H.size → H1[x]? = H[x]?) : va_S (z_A g) H0 H1 locs :=
  ⟨Nat.le_trans hS.1 (by omega), fun x h1 h2 => (ho x (Nat.lt_of_lt_of_le h1 hS.1)).trans (hS.2.1 x h1 h2), hS.2.2⟩
section ZN
variable {g : z_U} {X : z_X} {own : String} {cc : ByteArray} {nL pc : Nat} {ls ls' : List (Option Value)} {st st' : List Value} {cl sl : Nat} {S : z_S} {o ci k idx : Nat} {d mc ms : Nat}
theorem z_nobj (n : Nat) (hB : z_B g X own cc nL) (hR : z_XR X = z_room d mc ms) (hl : z_CL own idx ci) (hd : decode cc pc = .ok (.new idx, 3)) (hn : pc + 3 = n) (h1 : cl + 1 ≤ mc) (h2 : sl + z_n ci ≤ ms)
    (kk : z_W g X n ls (.ref (z_nx S + 4) :: st) (cl + 1) (sl + z_n ci) (z_new S (0, ci))) : z_W g X pc ls st cl sl S := by
  subst hn
  obtain ⟨hx, hb, hml, hown, hts, hKn, -⟩ := hB
  obtain ⟨q, hq, hcl, hins, hini⟩ := hl
  obtain ⟨C, T, N⟩ := q
  have hN : z_n ci = N := z_n_of hq
  intro H locs Ls hW hS hh
  have hKc := hKn.1.1 ci _ hq
  obtain ⟨hin, -⟩ := z_cls ci _ hq
  obtain ⟨ty, hty, htyOK⟩ := z_clty ci _ hq
  refine W.newcK hx hb hown (hts _ hcl) (hts _ hins) (hts _ hini) rfl hd (by rw [hR]; exact h1) (by rw [hR]; show sl + N ≤ ms; rw [← hN]; exact h2) hKc.2.1 rfl fun H1 kC hkC e1 z1 o1 => ?_
  have ha : z_ad g (z_nx S + 4) = H.size := hW.1.symm
  have hI0 : z_I (z_new S (0, ci)) (z_nx S + 4) = fun _ => 0 := by funext j; simp [z_I, z_new, z_nx]
  have hR0 : z_R (z_new S (0, ci)) (z_nx S + 4) = fun _ => none := by funext j; simp [z_R, z_new, z_nx]
  have hk0 : z_kd (z_new S (0, ci)) (z_nx S + 4) = (0, ci) := by simp [z_kd, z_new, z_nx]
  have hW1 : z_Wd g (z_new S (0, ci)) H1 := by
    refine z_Wd_new hW z1 o1 ?_
    rw [z_ent_obj hk0, ha]
    refine ⟨_, hq, (u_born ty hts hin hKc hkC e1 hty).to (fun j hj => ?_)⟩
    have h3 := List.all_eq_true.mp htyOK j (List.mem_range.mpr hj)
    have hvp : vp_V ((List.range (z_n ci)).map (z_fld g (z_new S (0, ci)) ci (z_nx S + 4))) j = z_fld g (z_new S (0, ci)) ci (z_nx S + 4) j := by
      have hjr : j < (List.range (z_n ci)).length := by rw [List.length_range, hN]; exact hj
      unfold vp_V
      rw [List.getD_eq_getElem?_getD, List.getElem?_map, List.getElem?_eq_getElem hjr]
      simp
    rw [hvp]
    unfold z_fld
    rw [hI0, hR0]
    by_cases hi : z_isI ci j = true
    · rw [if_pos hi]
      have hi' := hi
      simp only [z_isI, hq] at hi'
      rw [if_pos hi'] at h3
      rw [beq_iff_eq.mp h3]
      rfl
    · rw [if_neg hi]
      have hi' := hi
      simp only [z_isI, hq] at hi'
      rw [if_neg hi'] at h3
      revert h3
      generalize ty j = t
      intro h3
      cases t <;> first | (simp [FieldType.isReference] at h3; done) | rfl
  have := kk H1 locs Ls hW1 (z_S_new hS z1 o1) hh
  rw [hN] at this
  have e4 : ((Value.ref (z_nx S + 4) :: st).map (z_val g)) = .ref H.size :: st.map (z_val g) := by
    rw [List.map_cons, ← ha]; rfl
  rw [e4] at this
  exact this
theorem z_nrow (n : Nat) {x : Int32} {N : Nat} (hB : z_B g X own cc nL) (hR : z_XR X = z_room d mc ms) (hac : Cond.arrayClass .int ∈ z_tbl) (hd : decode cc pc = .ok (.newarray .int, 2)) (hn : pc + 2 = n) (hx0 : ¬ x < 0) (hxN : x.toNatClampNeg = N) (hbig : N * 4 ≤ 536870912) (h1 : cl + 1 ≤ mc) (h2 : sl + N ≤ ms)
    (kk : z_W g X n ls (.ref (z_nx S + 4) :: st) (cl + 1) (sl + N) (z_new S (1, N))) : z_W g X pc ls (.int x :: st) cl sl S := by
  subst hn
  intro H locs Ls hW hS hh
  refine va_newaK (atype := .int) hB.1 hB.2.1 (hB.2.2.2.2.1 _ hac) rfl hd rfl hx0 hxN hbig (by rw [hR]; exact h1) (by rw [hR]; exact h2) rfl fun H1 cA e1 z1 o1 hAr hNm => ?_
  have hcA : cA = g.2.2.1 := by
    have h3 := (hB.2.2.2.2.2.1.1.2 0 _ rfl).2
    exact (Option.some.inj (h3.symm.trans hNm)).symm
  subst hcA
  have ha : z_ad g (z_nx S + 4) = H.size := hW.1.symm
  have hI0 : z_I (z_new S (1, N)) (z_nx S + 4) = fun _ => 0 := by funext j; simp [z_I, z_new, z_nx]
  have hk0 : z_kd (z_new S (1, N)) (z_nx S + 4) = (1, N) := by simp [z_kd, z_new, z_nx]
  have hW1 : z_Wd g (z_new S (1, N)) H1 := by
    refine z_Wd_new hW z1 o1 ?_
    rw [z_ent_row hk0, ha, hI0]
    exact e1
  have := kk H1 locs Ls hW1 (z_S_new hS z1 o1) hh
  have e4 : ((Value.ref (z_nx S + 4) :: st).map (z_val g)) = .ref H.size :: st.map (z_val g) := by
    rw [List.map_cons, ← ha]; rfl
  rw [e4] at this
  exact this
end ZN
section ZNQ
variable {g : z_U} {X : z_X} {own : String} {cc : ByteArray} {nL pc : Nat} {ls ls' : List (Option Value)} {st st' : List Value} {cl sl : Nat} {S : z_S} {o ci k idx : Nat} {d mc ms : Nat}
theorem z_nrefs (n : Nat) {x : Int32} {N : Nat} (hB : z_B g X own cc nL) (hR : z_XR X = z_room d mc ms) (hcl : Cond.classLink own idx RX7 ∈ z_tbl) (hd : decode cc pc = .ok (.anewarray idx, 3)) (hn : pc + 3 = n) (hx0 : ¬ x < 0) (hxN : x.toNatClampNeg = N) (hbig : N * 4 ≤ 536870912) (h1 : cl + 1 ≤ mc) (h2 : sl + N ≤ ms)
    (kk : z_W g X n ls (.ref (z_nx S + 4) :: st) (cl + 1) (sl + N) (z_new S (2, N))) : z_W g X pc ls (.int x :: st) cl sl S := by
  subst hn; subst hxN
  intro H locs Ls hW hS hh
  refine W.anew hB.1 hB.2.1 hB.2.2.2.1 (hB.2.2.2.2.1 _ hcl) (va_AO.use hB.2.2.2.2.2.1.2.2.1) rfl hd rfl hx0 hbig (by rw [hR]; exact h1) (by rw [hR]; exact h2) fun cA kA comp f1 f2 f3 f4 => ?_
  have hcA : cA = g.2.2.2.1 := by
    obtain ⟨_, _, _, _, _, h3⟩ := (hB.2.2.2.2.2.1.1.2 1 _ rfl).2
    exact (Option.some.inj (h3.symm.trans f1)).symm
  subst hcA
  generalize hH1 : H.push ({ cls := g.2.2.2.1, slots := Array.replicate x.toNatClampNeg .null, vm := .none } : Cell) = H1
  have z1 : H1.size = H.size + 1 := by rw [← hH1, Array.size_push]
  have e1 : H1[H.size]? = some (arrV g.2.2.2.1 x.toNatClampNeg (fun _ => .null)) := by rw [← hH1, Array.getElem?_push_size, ← arrV_new]
  have o1 : ∀ q : Nat, q < H.size → H1[q]? = H[q]? := fun q hq => by rw [← hH1, Array.getElem?_push, if_neg (Nat.ne_of_lt hq)]
  have ha : z_ad g (z_nx S + 4) = H.size := hW.1.symm
  have hR0 : z_R (z_new S (2, x.toNatClampNeg)) (z_nx S + 4) = fun _ => none := by funext j; simp [z_R, z_new, z_nx]
  have hk0 : z_kd (z_new S (2, x.toNatClampNeg)) (z_nx S + 4) = (2, x.toNatClampNeg) := by simp [z_kd, z_new, z_nx]
  have hW1 : z_Wd g (z_new S (2, x.toNatClampNeg)) H1 := by
    refine z_Wd_new hW z1 o1 ?_
    rw [z_ent_refs hk0, ha, hR0]
    show H1[H.size]? = some (vp_cell _ _)
    rw [vp_cell_q]
    exact e1
  have := kk H1 locs Ls hW1 (z_S_new hS z1 o1) hh
  have e4 : ((Value.ref (z_nx S + 4) :: st).map (z_val g)) = .ref H.size :: st.map (z_val g) := by
    rw [List.map_cons, ← ha]; rfl
  rw [e4] at this
  exact this
end ZNQ
