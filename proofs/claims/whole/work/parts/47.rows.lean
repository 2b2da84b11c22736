/-! rows for the one text constant -/
theorem z_i38 : Cond.fieldLink RJ0 38 RJ0 "COMPACT_STRINGS" "Z" ∈ z_tbl := z_tb2 57 (by first | exact rfl | decide +kernel) rfl
theorem z_i1053 : Cond.fieldLink RJ0 1053 RJ3 "SIOOBE_FORMATTER" "Ljava/util/function/BiFunction;" ∈ z_tbl := z_tb2 73 (by first | exact rfl | decide +kernel) rfl
theorem z_i9 : Cond.fieldLink RJ0 9 RJ0 "value" "[B" ∈ z_tbl := z_tb5 115 (by first | exact rfl | decide +kernel) rfl
theorem z_i15 : Cond.fieldLink RJ0 15 RJ0 "coder" "B" ∈ z_tbl := z_tb5 116 (by first | exact rfl | decide +kernel) rfl
section ZT
variable {g : z_U} {X : z_X} {own : String} {cc : ByteArray} {nL pc : Nat} {ls ls' : List (Option Value)} {st st' : List Value} {cl sl : Nat} {S : z_S} {o ci k idx : Nat} {d mc ms d' mc' ms' np : Nat} {M : z_M} {av : List Value} {Post : Option Value → z_S → Prop}
theorem z_hp {H : Heap} {locs : List Loc} (hB : z_B g X own cc nL) (hW : z_Wd g S H) (hS : va_S (z_A g) (z_Xs X).heap H locs) : ∀ a : Nat, a < (z_H0 g).size → ¬ z_A g a → (z_Xs X).heap[a]? = (z_H0 g)[a]? := fun a _ hA => by
  have hb : a < z_base g := Nat.not_le.mp hA
  exact (hS.2.1 a (Nat.lt_of_lt_of_le hb hB.2.2.2.2.2.2.1) hA).symm.trans (hW.2.2 a hb)
theorem z_ldcS (n : Nat) (hB : z_B g X RX9 cc nL) (hd : decode cc pc = .ok (.ldc 80, 2)) (hn : pc + 2 = n) (kk : z_W g X n ls (.ref 1 :: st) cl sl S) : z_W g X pc ls st cl sl S := by
  subst hn
  intro H locs Ls hW hS hh
  exact va_ldcS hB.1 hB.2.1 hB.2.2.2.1 hB.2.2.2.2.2.1.2.2.2.1 hd (kk H locs Ls hW hS hh)
theorem z_coder (n : Nat) (hB : z_B g X RJ0 cc nL) (hd : decode cc pc = .ok (.getfield 15, 3)) (hn : pc + 3 = n) (kk : z_W g X n ls (.int 0 :: st) cl sl S) : z_W g X pc ls (.ref 1 :: st) cl sl S := by
  subst hn
  intro H locs Ls hW hS hh
  exact vk_getf hB.1 hB.2.1 ((vk_S.kept hB.2.2.2.2.2.1.2.2.2.2.1 (z_hp hB hW hS)).1 0 (by decide)).2.1 hS hB.2.2.2.1 (hB.2.2.2.2.1 _ z_i15) (fun _ h => h) hd (kk H locs Ls hW hS hh)
theorem z_value (n : Nat) (hB : z_B g X RJ0 cc nL) (hd : decode cc pc = .ok (.getfield 9, 3)) (hn : pc + 3 = n) (kk : z_W g X n ls (.ref 2 :: st) cl sl S) : z_W g X pc ls (.ref 1 :: st) cl sl S := by
  subst hn
  intro H locs Ls hW hS hh
  exact vk_getf hB.1 hB.2.1 ((vk_S.kept hB.2.2.2.2.2.1.2.2.2.2.1 (z_hp hB hW hS)).1 0 (by decide)).2.2.1 hS hB.2.2.2.1 (hB.2.2.2.2.1 _ z_i9) (fun _ h => h) hd (kk H locs Ls hW hS hh)
theorem z_lenB (n : Nat) (hB : z_B g X own cc nL) (hd : decode cc pc = .ok (.arraylength, 1)) (hn : pc + 1 = n) (kk : z_W g X n ls (.int 125 :: st) cl sl S) : z_W g X pc ls (.ref 2 :: st) cl sl S := by
  subst hn
  intro H locs Ls hW hS hh
  exact va_tlen hB.1 hB.2.1 ((vk_S.kept hB.2.2.2.2.2.1.2.2.2.2.1 (z_hp hB hW hS)).1 0 (by decide)).2.2.2 hS (v := 125) rfl hd (kk H locs Ls hW hS hh)
theorem z_baldB (n : Nat) {j : Nat} (hj : j < 125) (hB : z_B g X own cc nL) (hd : decode cc pc = .ok (.baload, 1)) (hn : pc + 1 = n) (kk : z_W g X n ls (.int (z_by.getD j 0) :: st) cl sl S) : z_W g X pc ls (.int (nI j) :: .ref 2 :: st) cl sl S := by
  subst hn
  intro H locs Ls hW hS hh
  exact va_tb hB.1 hB.2.1 ((vk_S.kept hB.2.2.2.2.2.1.2.2.2.2.1 (z_hp hB hW hS)).1 0 (by decide)).2.2.2 hS (vp_in_nI hj (by decide)) (v := .int (z_by.getD j 0)) (by rw [nI_clamp (by omega)]; rfl) hd (kk H locs Ls hW hS hh)
theorem z_getC (n : Nat) (hB : z_B g X RJ0 cc nL) (hd : decode cc pc = .ok (.getstatic 38, 3)) (hn : pc + 3 = n) (kk : z_W g X n ls (.int 1 :: st) cl sl S) : z_W g X pc ls st cl sl S := by
  subst hn
  intro H locs Ls hW hS hh
  exact va_gets hB.1 hB.2.1 (va_Z.kept hB.2.2.2.2.2.1.2.2.2.2.2.1 (z_hp hB hW hS)) hS hB.2.2.2.1 (hB.2.2.2.2.1 _ z_i38) (fun _ h => h) hd (kk H locs Ls hW hS hh)
theorem z_getF (n : Nat) (hB : z_B g X RJ0 cc nL) (hd : decode cc pc = .ok (.getstatic 1053, 3)) (hn : pc + 3 = n) (k1 : z_W g X n ls (.null :: st) cl sl S) (k2 : z_W g X n ls (.ref 3 :: st) cl sl S) : z_W g X pc ls st cl sl S := by
  subst hn
  intro H locs Ls hW hS hh
  rcases hB.2.2.2.2.2.1.2.2.2.2.2.2 with h | h
  · exact va_gets hB.1 hB.2.1 (va_Z.kept h (z_hp hB hW hS)) hS hB.2.2.2.1 (hB.2.2.2.2.1 _ z_i1053) (fun _ h => h) hd (k1 H locs Ls hW hS hh)
  · exact va_gets hB.1 hB.2.1 (va_Z.kept h (z_hp hB hW hS)) hS hB.2.2.2.1 (hB.2.2.2.2.1 _ z_i1053) (fun _ h => h) hd (k2 H locs Ls hW hS hh)
theorem z_i2c (n : Nat) {x v : Int32} (hB : z_B g X own cc nL) (hd : decode cc pc = .ok (.i2c, 1)) (hv : (x.toUInt32 % 65536).toInt32 = v) (hn : pc + 1 = n) (kk : z_W g X n ls (.int v :: st) cl sl S) : z_W g X pc ls (.int x :: st) cl sl S := by
  subst hn
  intro H locs Ls hW hS hh
  exact lv_i2c hB.1 hB.2.1 hd hv (kk H locs Ls hW hS hh)
theorem z_nret {x : Int32} {ty : FieldType} (hM : z_BM g X d mc ms M Post) (hd : decode M.2.1 pc = .ok (.ireturn, 1)) (hr : M.2.2.2 = some ty) (hx : narrow ty (.int x) = .int x) (hP : Post (some (.int x)) S) (h1 : cl = mc) (h2 : sl = ms) : z_W g X pc ls [.int x] cl sl S := by
  subst h1; subst h2
  obtain ⟨hB, hR, hret, hlk, hQ, -⟩ := hM
  intro H locs Ls hW hS hh
  rw [hQ]
  exact W.zret hB.1 hB.2.1 (hret.trans hr) hx (fun t ht _ => ⟨⟨some (.int x), S, rfl, hP, by rw [ht]; exact hW⟩, hS.F ht⟩) hS.2.2 hd hlk
theorem z_callT (n : Nat) {rest : List Value} (hB : z_B g X own cc nL) (hR : z_XR X = z_room d mc ms) (hm : z_MV own idx M np) (hd : decode cc pc = .ok (.invokevirtual idx, 3)) (hn : pc + 3 = n) (hci : M.1.cls = RJ0) (hc : z_C g d' mc' ms' M (.ref 1 :: av) S Post) (hd' : d' < d) (hnp : av.length = np) (hst : st = av.reverse ++ .ref 1 :: rest) (hcat : (rest.map fun v => v.category).sum ≤ 8) (hcl : cl + mc' ≤ mc ∧ sl + ms' ≤ ms)
    (kk : ∀ r S', Post r S' → z_W g X n ls (r.toList ++ rest) (cl + mc') (sl + ms') S') : z_W g X pc ls st cl sl S := by
  subst hn; subst hst
  obtain ⟨⟨hl, hcode, hini, ⟨hy1, hy2, hy3⟩, hml⟩, hins, hsel⟩ := hm
  intro H locs Ls hW hS hh
  have hts := hB.2.2.2.2.1
  have hG := z_good hcode
  have hrm := z_roomOK (X := X) (mc' := mc') (ms' := ms') hR hd' hml
  have hpre := z_pre (av := .ref 1 :: av) hB.2.2.2.2.2.1 hW
  have hcell := vk_recv (vk_S.kept hB.2.2.2.2.2.1.2.2.2.2.1 (z_hp hB hW hS)) (i := 0) (by decide) hS
  rw [show "java/lang/String" = M.1.cls from hci.symm] at hcell
  have hrest : 2 * (F0 (z_Xm X) pc Ls ((av.reverse ++ .ref 1 :: rest).map (z_val g))).monitorRoom + (((rest.map (z_val g))).map fun v => v.category).sum ≤ 8 := lv_room (by rw [z_catsum]; exact hcat)
  have hcl' : cl + mc' ≤ (z_XR X).cells ∧ sl + ms' ≤ (z_XR X).slots := by rw [hR]; exact hcl
  have hstk : (F0 (z_Xm X) pc Ls ((av.reverse ++ .ref 1 :: rest).map (z_val g))).stack = (av.map (z_val g)).reverse ++ .ref (z_ad g 1) :: rest.map (z_val g) := by simp [z_val]
  have hsz : (F0 (z_Xm X) pc Ls ((av.reverse ++ .ref 1 :: rest).map (z_val g))).locals.size = nL := hh.2.1.trans hB.2.2.2.2.2.2.2
  rcases hl with hl | ⟨host, hl⟩
  · exact z_after (va_runV (z_fixed hB) hc ⟨callB_of np hts hG rfl rfl rfl (hts _ hini) (hts _ hl) ⟨hy1, hy2, hy3⟩ hrm, hts _ hins, hts _ hsel⟩ ⟨hpre.1, hcell, hpre.2⟩ rfl (by simpa using hnp) hsz hstk hrest hd hcl') hS hh kk
  · exact z_after (va_runVN (z_fixed hB) hc ⟨va_cnB np hts hG rfl rfl rfl (hB.2.2.2.2.2.1.2.1 _ hl) (hts _ hini) ⟨hy1, hy2, hy3⟩ hrm, hts _ hins, hts _ hsel⟩ ⟨hpre.1, hcell, hpre.2⟩ rfl (by simpa using hnp) hsz hstk hrest hd hcl') hS hh kk
end ZT
theorem z_by_ok : ∀ j, j < 125 → 0 ≤ z_by.getD j 0 ∧ ((z_by.getD j 0 &&& 255).toUInt32 % 65536).toInt32 = z_by.getD j 0 ∧ narrow .char (.int (z_by.getD j 0)) = .int (z_by.getD j 0) := by decide +kernel
