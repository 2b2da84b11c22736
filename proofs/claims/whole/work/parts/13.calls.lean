/-! contracts, calls, ends, new cells -/
def z_room (d mc ms : Nat) : Room := { frames := d, cells := mc, slots := ms, locals := 12 + 34 * d }
def z_Q (g : z_U) (Post : Option Value → z_S → Prop) : Array Value → State → Outcome → State → Prop := fun _ st oc t => (∃ (r : Option Value) (S' : z_S), oc = .returned (r.map (z_val g)) ∧ Post r S' ∧ z_Wd g S' t.heap) ∧ va_F (z_A g) st t
def z_wl (M : z_M) : List Cond := .code M.1 M.2.1 M.2.2.1 M.2.2.2 :: z_tbl
/-- THE CONTRACT of a method, called with av in the world S: it returns, and Post holds of its answer and the world behind it; mc cells of ms slots are new; it calls at most d deep -/
def z_C (g : z_U) (d mc ms : Nat) (M : z_M) (av : List Value) (S : z_S) (Post : Option Value → z_S → Prop) : Prop :=
  Met g.1 M.1 (z_wl M) (z_room d mc ms) (va_Pc (av.map (z_val g)) (fun U => z_Wd g S U.heap ∧ z_Kn g U)) (z_Q g Post) mc ms (z_A g)
def z_BM (g : z_U) (X : z_X) (d mc ms : Nat) (M : z_M) (Post : Option Value → z_S → Prop) : Prop :=
  z_B g X M.1.cls M.2.1 M.2.2.1 ∧ z_XR X = z_room d mc ms ∧ (z_Xh X).sig.returnType = M.2.2.2 ∧ (z_Xh X).locks = false ∧ z_XQ X = MQ (z_Xb X) (z_Q g Post) (z_Xa X) (z_Xs X) mc ms (z_A g) ∧ (z_Xh X).name = M.1.name
theorem z_args (vs : List Value) : ∀ (i : Nat), (∀ v ∈ vs, v.category = 1) → lv_args i vs = (List.range vs.length).filterMap (fun k => (vs[k]?).map (fun v => (i + k, v))) := by
  induction vs with
  | nil => intro i _; rfl
  | cons v vs ih =>
    intro i h
    have hv := h v List.mem_cons_self
    rw [lv_args, if_neg (by omega), ih (i + 1) (fun w hw => h w (List.mem_cons_of_mem _ hw))]
    rw [List.length_cons, List.range_succ_eq_map, List.filterMap_cons]
    simp only [List.getElem?_cons_zero, Option.map_some, Nat.add_zero]
    rw [List.filterMap_map]
    congr 2
    funext k
    simp only [Function.comp, List.getElem?_cons_succ, show i + 1 + k = i + (k + 1) by omega]
theorem z_sl1 (vs : List Value) (h : ∀ v ∈ vs, v.category = 1) : (lg_sl vs).length = vs.length := by
  induction vs with
  | nil => rfl
  | cons v vs ih =>
    have hv := h v List.mem_cons_self
    have e : lg_sl (v :: vs) = .val v :: lg_sl vs := by
      show List.flatMap _ (v :: vs) = _
      rw [List.flatMap_cons, if_neg (by omega)]
      rfl
    rw [e, List.length_cons, List.length_cons, ih (fun w hw => h w (List.mem_cons_of_mem _ hw))]
theorem z_enter {g : z_U} {d mc ms : Nat} {M : z_M} {av : List Value} {S : z_S} {Post : Option Value → z_S → Prop} (ls : List (Option Value)) (hpl : plainName M.1.cls = true) (hc : av.all (fun v => decide (v.category = 1)) = true) (hlen : av.length ≤ M.2.2.1) (hls : av.map some ++ List.replicate (M.2.2.1 - av.length) none = ls)
    (body : ∀ X : z_X, z_BM g X d mc ms M Post → z_W g X 0 ls [] 0 0 S) : z_C g d mc ms M av S Post := by
  subst hls
  refine Met.ofW (cc := M.2.1) (maxL := M.2.2.1) (ret := M.2.2.2) hpl rfl ?_
  intro p e s m args below meth c s₁ B hml hv
  obtain ⟨rfl, hW, hKn⟩ := hv
  have hcat : ∀ v ∈ av.map (z_val g), v.category = 1 := by
    intro v hv
    obtain ⟨w, hw, rfl⟩ := List.mem_map.mp hv
    rw [z_cat]
    simpa using List.all_eq_true.mp hc w hw
  have hts := atoms_spec (ws := z_wl M) B.pre
  have X1 : z_BM g (p, e, (headSpec (z_wl M) (z_room d mc ms)).room, s, m, (av.map (z_val g)).toArray, below, meth, c, MQ below (z_Q g Post) (av.map (z_val g)).toArray s mc ms (z_A g), M.2.2.1) d mc ms M Post :=
    ⟨⟨B.exec, B.bytes, hml, findClass_of_methodNamed B.named, fun w hw => hts w (List.mem_cons_of_mem _ hw), hKn, by show z_base g ≤ s.heap.size; rw [hW.1]; omega, rfl⟩, rfl, B.returns, B.notSynchronized, rfl, (name_of_methodNamed B.named B.method).1⟩
  have hl := lv_entry (av.map (z_val g)) (n := M.2.2.1) (by rw [z_sl1 _ hcat]; simpa using hlen)
  rw [lg_entry_eq]
  refine body _ X1 s.heap [] _ hW va_S.rf ⟨by show (av.map some ++ List.replicate (M.2.2.1 - av.length) none).length = M.2.2.1; simp; omega, ?_⟩
  refine ⟨hl.1, hl.2.1, fun q hq => hl.2.2 q ?_⟩
  obtain ⟨v, h1, h2⟩ := z_as_mem.mp hq
  rw [z_args _ 0 hcat]
  have hlt : q.1 < av.length := by
    rcases Nat.lt_or_ge q.1 av.length with z | z
    · exact z
    · rw [List.getElem?_append_right (by simpa using z), List.getElem?_replicate] at h1
      split at h1 <;> simp at h1
  rw [List.getElem?_append_left (by simpa using hlt), List.getElem?_map, List.getElem?_eq_getElem hlt] at h1
  have hv : av[q.1] = v := by simpa using h1
  refine List.mem_filterMap.mpr ⟨q.1, List.mem_range.mpr (by simpa using hlt), ?_⟩
  rw [List.getElem?_map, List.getElem?_eq_getElem hlt, hv]
  show some (0 + q.1, z_val g v) = some q
  rw [Nat.zero_add, ← h2]
theorem z_good {M : z_M} (h : Cond.code M.1 M.2.1 M.2.2.1 M.2.2.2 ∈ z_tbl) : GoodIn z_tbl (z_wl M) := by
  intro w hw
  have hm : w ∈ z_tbl := by
    rcases List.mem_cons.mp hw with e | e
    · rw [e]; exact h
    · exact e
  exact ⟨hm, good_of_word (List.mem_filter.mp hm).2⟩
section ZC
variable {g : z_U} {X : z_X} {own : String} {cc : ByteArray} {nL pc : Nat} {ls ls' : List (Option Value)} {st st' : List Value} {cl sl : Nat} {S : z_S} {o ci k idx : Nat} {d mc ms d' mc' ms' np : Nat} {M : z_M} {av : List Value} {Post : Option Value → z_S → Prop}
theorem z_pre {H : Heap} (hKn : z_Kn g (z_Xs X)) (hW : z_Wd g S H) : PreS (z_Xs X) H (va_Pc (av.map (z_val g)) (fun U => z_Wd g S U.heap ∧ z_Kn g U)) (av.map (z_val g)) :=
  ⟨fun a U q mk h => ⟨h.1, h.2.1, z_Kn.same (s := U) (U := U.calling q mk a) rfl h.2.2⟩, fun U hU hW1 => ⟨rfl, by rw [hU]; exact hW, z_Kn.warm hW1 hKn⟩⟩
theorem z_after {H : Heap} {locs : List Loc} {Ls : Array Slot} {stk : List Value} {a : Array Value} (hr : va_Run (z_Xp X) g.1 (z_Xe X) (z_XR X) (z_Xs X) (z_Xm X) (z_Xa X) (z_Xb X) (z_Xh X) (z_Xc X) H locs cl sl mc' ms' (F0 (z_Xm X) pc Ls stk) (st.map (z_val g)) (z_Q g Post a) (z_A g)) (hS : va_S (z_A g) (z_Xs X).heap H locs) (hh : z_has g ls Ls (z_XL X))
    (kk : ∀ r S', Post r S' → z_W g X (pc + 3) ls (r.toList ++ st) (cl + mc') (sl + ms') S') : W (z_Xp X) g.1 (z_Xe X) (z_XR X) (z_Xs X) (z_Xm X) (z_Xa X) (z_Xb X) (z_Xh X) (z_Xc X) H locs cl sl (z_XQ X) (F0 (z_Xm X) pc Ls stk) := by
  intro T hT Y
  obtain ⟨v, st₀, t, T', L, h0, X', hL, e1, e2, ⟨⟨r, S', hv, hp, hw⟩, hz, hk⟩, sx⟩ := hr T hT Y
  cases hv
  rw [h0] at hz hk
  have hS1 : va_S (z_A g) (z_Xs X).heap T'.heap (locs ++ L) := ⟨Nat.le_trans hS.1 (by rw [e1]; exact hz), fun q h1 h2 => by rw [e1, hk q (Nat.lt_of_lt_of_le h1 hS.1) h2]; exact hS.2.1 q h1 h2, fun q hq => by
      rcases List.mem_append.mp hq with h | h
      · exact hS.2.2 q h
      · exact hL q h⟩
  obtain ⟨t2, a1, b1⟩ := kk r S' hp T'.heap (locs ++ L) Ls (by rw [e1]; exact hw) hS1 hh T' rfl X'
  refine ⟨t2, sx t2 ?_, b1⟩
  have e3 : (r.toList ++ st).map (z_val g) = (r.map (z_val g)).toList ++ st.map (z_val g) := by cases r <;> simp
  rw [← e3]
  exact a1
theorem z_fixed (hB : z_B g X own cc nL) : CallFix (z_Xp X) (z_Xm X) (z_Xc X) cc nL (z_Xs X) (z_Xa X) z_tbl own := ⟨hB.1, hB.2.1, hB.2.2.1, hB.2.2.2.1, hB.2.2.2.2.1⟩
theorem z_roomOK (hR : z_XR X = z_room d mc ms) (hd' : d' < d) (hm : M.2.2.1 ≤ 15) : (z_room d' mc' ms').frames + 1 ≤ (z_XR X).frames ∧ 8 + (M.2.2.1 + 11) + (z_room d' mc' ms').locals ≤ (z_XR X).locals := by
  rw [hR]
  simp only [z_room]
  omega
theorem z_catsum {l : List Value} : ((l.map (z_val g)).map fun v => v.category).sum = (l.map fun v => v.category).sum := by
  induction l with
  | nil => rfl
  | cons a l ih => simp only [List.map_cons, List.sum_cons, ih, z_cat]
theorem z_callS (n : Nat) {rest : List Value} (hB : z_B g X own cc nL) (hR : z_XR X = z_room d mc ms) (hm : z_MS own idx M np) (hd : decode cc pc = .ok (.invokestatic idx, 3)) (hn : pc + 3 = n) (hc : z_C g d' mc' ms' M av S Post) (hd' : d' < d) (hnp : av.length = np) (hst : st = av.reverse ++ rest) (hcat : (rest.map fun v => v.category).sum ≤ 8) (hcl : cl + mc' ≤ mc ∧ sl + ms' ≤ ms)
    (kk : ∀ r S', Post r S' → z_W g X n ls (r.toList ++ rest) (cl + mc') (sl + ms') S') : z_W g X pc ls st cl sl S := by
  subst hn; subst hst
  obtain ⟨⟨hl, hcode, hini, ⟨hy1, hy2, hy3⟩, hml⟩, hsta⟩ := hm
  intro H locs Ls hW hS hh
  have hts := hB.2.2.2.2.1
  have hG := z_good hcode
  have hrm := z_roomOK (X := X) (mc' := mc') (ms' := ms') hR hd' hml
  have hpre := z_pre (av := av) hB.2.2.2.2.2.1 hW
  have hrest : 2 * (F0 (z_Xm X) pc Ls ((av.reverse ++ rest).map (z_val g))).monitorRoom + (((rest.map (z_val g))).map fun v => v.category).sum ≤ 8 := lv_room (by rw [z_catsum]; exact hcat)
  have hcl' : cl + mc' ≤ (z_XR X).cells ∧ sl + ms' ≤ (z_XR X).slots := by rw [hR]; exact hcl
  have hstk : (F0 (z_Xm X) pc Ls ((av.reverse ++ rest).map (z_val g))).stack = (av.map (z_val g)).reverse ++ rest.map (z_val g) := by simp
  have hsz : (F0 (z_Xm X) pc Ls ((av.reverse ++ rest).map (z_val g))).locals.size = nL := hh.2.1.trans hB.2.2.2.2.2.2.2
  rcases hl with hl | ⟨host, hl⟩
  · exact z_after (va_runS (z_fixed hB) hc ⟨callB_of np hts hG rfl rfl rfl (hts _ hini) (hts _ hl) ⟨hy1, hy2, hy3⟩ hrm, hts _ hsta⟩ hpre rfl (by simpa using hnp) hsz hstk hrest hd hcl') hS hh kk
  · exact z_after (va_runSN (z_fixed hB) hc ⟨va_cnB np hts hG rfl rfl rfl (hB.2.2.2.2.2.1.2.1 _ hl) (hts _ hini) ⟨hy1, hy2, hy3⟩ hrm, hts _ hsta, trivial⟩ hpre rfl (by simpa using hnp) hsz hstk hrest hd hcl') hS hh kk
theorem z_callV (n : Nat) {rest : List Value} {b : Nat} (hB : z_B g X own cc nL) (hR : z_XR X = z_room d mc ms) (hm : z_MV own idx M np) (hd : decode cc pc = .ok (.invokevirtual idx, 3)) (hn : pc + 3 = n) (hb : z_is S b (0, ci)) (hci : (z_cl[ci]?).map (fun q => q.1) = some M.1.cls) (hc : z_C g d' mc' ms' M (.ref b :: av) S Post) (hd' : d' < d) (hnp : av.length = np) (hst : st = av.reverse ++ .ref b :: rest) (hcat : (rest.map fun v => v.category).sum ≤ 8) (hcl : cl + mc' ≤ mc ∧ sl + ms' ≤ ms)
    (kk : ∀ r S', Post r S' → z_W g X n ls (r.toList ++ rest) (cl + mc') (sl + ms') S') : z_W g X pc ls st cl sl S := by
  subst hn; subst hst
  obtain ⟨⟨hl, hcode, hini, ⟨hy1, hy2, hy3⟩, hml⟩, hins, hsel⟩ := hm
  intro H locs Ls hW hS hh
  have hts := hB.2.2.2.2.1
  have hG := z_good hcode
  have hrm := z_roomOK (X := X) (mc' := mc') (ms' := ms') hR hd' hml
  have hpre := z_pre (av := .ref b :: av) hB.2.2.2.2.2.1 hW
  obtain ⟨q, hq, hqc⟩ := Option.map_eq_some_iff.mp hci
  have he := z_ws_o (g := g) hb
  rw [z_ent_obj hb.1] at he
  have hcell := va_recv hB.2.2.2.2.2.1.1 hW.2.1 hq he
  rw [hqc] at hcell
  have hrest : 2 * (F0 (z_Xm X) pc Ls ((av.reverse ++ .ref b :: rest).map (z_val g))).monitorRoom + (((rest.map (z_val g))).map fun v => v.category).sum ≤ 8 := lv_room (by rw [z_catsum]; exact hcat)
  have hcl' : cl + mc' ≤ (z_XR X).cells ∧ sl + ms' ≤ (z_XR X).slots := by rw [hR]; exact hcl
  have hstk : (F0 (z_Xm X) pc Ls ((av.reverse ++ .ref b :: rest).map (z_val g))).stack = (av.map (z_val g)).reverse ++ .ref (z_ad g b) :: rest.map (z_val g) := by simp [z_val]
  have hsz : (F0 (z_Xm X) pc Ls ((av.reverse ++ .ref b :: rest).map (z_val g))).locals.size = nL := hh.2.1.trans hB.2.2.2.2.2.2.2
  rcases hl with hl | ⟨host, hl⟩
  · exact z_after (va_runV (z_fixed hB) hc ⟨callB_of np hts hG rfl rfl rfl (hts _ hini) (hts _ hl) ⟨hy1, hy2, hy3⟩ hrm, hts _ hins, hts _ hsel⟩ ⟨hpre.1, hcell, hpre.2⟩ rfl (by simpa using hnp) hsz hstk hrest hd hcl') hS hh kk
  · exact z_after (va_runVN (z_fixed hB) hc ⟨va_cnB np hts hG rfl rfl rfl (hB.2.2.2.2.2.1.2.1 _ hl) (hts _ hini) ⟨hy1, hy2, hy3⟩ hrm, hts _ hins, hts _ hsel⟩ ⟨hpre.1, hcell, hpre.2⟩ rfl (by simpa using hnp) hsz hstk hrest hd hcl') hS hh kk
theorem z_callI (n : Nat) {rest : List Value} {b : Nat} (hB : z_B g X own cc nL) (hR : z_XR X = z_room d mc ms) (hm : z_MI own idx M np) (hd : decode cc pc = .ok (.invokespecial idx, 3)) (hn : pc + 3 = n) (hc : z_C g d' mc' ms' M (.ref b :: av) S Post) (hd' : d' < d) (hnp : av.length = np) (hst : st = av.reverse ++ .ref b :: rest) (hcat : (rest.map fun v => v.category).sum ≤ 8) (hcl : cl + mc' ≤ mc ∧ sl + ms' ≤ ms)
    (kk : ∀ r S', Post r S' → z_W g X n ls (r.toList ++ rest) (cl + mc') (sl + ms') S') : z_W g X pc ls st cl sl S := by
  subst hn; subst hst
  obtain ⟨yM, cM, lM, rM⟩ := M
  obtain ⟨⟨hl, hcode, hini, ⟨hy1, hy2, hy3⟩, hml⟩, hins, hnm, hret⟩ := hm
  dsimp only at hret
  subst hret
  intro H locs Ls hW hS hh
  have hts := hB.2.2.2.2.1
  have hG := z_good hcode
  have hrm := z_roomOK (X := X) (mc' := mc') (ms' := ms') hR hd' hml
  have hpre := z_pre (av := .ref b :: av) hB.2.2.2.2.2.1 hW
  have hrest : 2 * (F0 (z_Xm X) pc Ls ((av.reverse ++ .ref b :: rest).map (z_val g))).monitorRoom + (((rest.map (z_val g))).map fun v => v.category).sum ≤ 8 := lv_room (by rw [z_catsum]; exact hcat)
  have hcl' : cl + mc' ≤ (z_XR X).cells ∧ sl + ms' ≤ (z_XR X).slots := by rw [hR]; exact hcl
  have hstk : (F0 (z_Xm X) pc Ls ((av.reverse ++ .ref b :: rest).map (z_val g))).stack = (av.map (z_val g)).reverse ++ .ref (z_ad g b) :: rest.map (z_val g) := by simp [z_val]
  have hsz : (F0 (z_Xm X) pc Ls ((av.reverse ++ .ref b :: rest).map (z_val g))).locals.size = nL := hh.2.1.trans hB.2.2.2.2.2.2.2
  rcases hl with hl | ⟨host, hl⟩
  · exact z_after (va_runI (z_fixed hB) hc ⟨callB_of np hts hG rfl rfl rfl (hts _ hini) (hts _ hl) ⟨hy1, hy2, hy3⟩ hrm, hnm, hts _ hins⟩ hpre rfl (by simpa using hnp) hsz hstk hrest hd hcl') hS hh kk
  · exact z_after (va_runIN (z_fixed hB) hc ⟨va_cnB np hts hG rfl rfl rfl (hB.2.2.2.2.2.1.2.1 _ hl) (hts _ hini) ⟨hy1, hy2, hy3⟩ hrm, hnm, hts _ hins⟩ hpre rfl (by simpa using hnp) hsz hstk hrest hd hcl') hS hh kk
/-- ends -/
theorem z_iret {x : Int32} (hM : z_BM g X d mc ms M Post) (hd : decode M.2.1 pc = .ok (.ireturn, 1)) (hr : M.2.2.2 = some .int) (hP : Post (some (.int x)) S) (h1 : cl = mc) (h2 : sl = ms) : z_W g X pc ls [.int x] cl sl S := by
  subst h1; subst h2
  obtain ⟨hB, hR, hret, hlk, hQ, -⟩ := hM
  intro H locs Ls hW hS hh
  rw [hQ]
  exact W.iret hB.1 hB.2.1 (hret.trans hr) (fun t ht _ => ⟨⟨some (.int x), S, rfl, hP, by rw [ht]; exact hW⟩, hS.F ht⟩) hS.2.2 hd hlk
theorem z_zret {x : Int32} (hM : z_BM g X d mc ms M Post) (hd : decode M.2.1 pc = .ok (.ireturn, 1)) (hr : M.2.2.2 = some .boolean) (hx : x &&& 1 = x) (hP : Post (some (.int x)) S) (h1 : cl = mc) (h2 : sl = ms) : z_W g X pc ls [.int x] cl sl S := by
  subst h1; subst h2
  obtain ⟨hB, hR, hret, hlk, hQ, -⟩ := hM
  intro H locs Ls hW hS hh
  rw [hQ]
  exact W.zret hB.1 hB.2.1 (hret.trans hr) (by show Value.int (x &&& 1) = _; rw [hx]) (fun t ht _ => ⟨⟨some (.int x), S, rfl, hP, by rw [ht]; exact hW⟩, hS.F ht⟩) hS.2.2 hd hlk
theorem z_vret (hM : z_BM g X d mc ms M Post) (hd : decode M.2.1 pc = .ok (.return_, 1)) (hr : M.2.2.2 = none) (hP : Post none S) (h1 : cl = mc) (h2 : sl = ms) : z_W g X pc ls [] cl sl S := by
  subst h1; subst h2
  obtain ⟨hB, hR, hret, hlk, hQ, -⟩ := hM
  intro H locs Ls hW hS hh
  rw [hQ]
  exact W.vret hB.1 hB.2.1 (hret.trans hr) (fun t ht _ => ⟨⟨none, S, rfl, hP, by rw [ht]; exact hW⟩, hS.F ht⟩) hS.2.2 hd hlk
/-- Object's constructor, and the larger of two -/
theorem z_objI (n : Nat) {r : Nat} (hB : z_B g X own cc nL) (hR : z_XR X = z_room (d + 1) mc ms) (hl : Cond.methodLink own idx Lib.objectInit ∈ z_tbl) (hi : Cond.instanceMethod Lib.objectInit ∈ z_tbl) (hcd : Cond.code Lib.objectInit ⟨#[0xb1]⟩ 1 none ∈ z_tbl) (hd : decode cc pc = .ok (.invokespecial idx, 3)) (hn : pc + 3 = n) (hcat : (st.map fun v => v.category).sum ≤ 8)
    (kk : z_W g X n ls st cl sl S) : z_W g X pc ls (.ref r :: st) cl sl S := by
  subst hn
  intro H locs Ls hW hS hh
  have hts := hB.2.2.2.2.1
  have hsum := z_catsum (g := g) (l := st)
  exact W.objInit hB.1 hB.2.1 hB.2.2.2.1 (hts _ hl) (hts _ hi) (hts _ hcd) rfl (hh.2.1.trans (hB.2.2.2.2.2.2.2.trans hB.2.2.1.symm)) rfl hd (by rw [hR]; simp [z_room]) (by
    have : 2 * (F0 (z_Xm X) pc Ls ((Value.ref r :: st).map (z_val g))).monitorRoom + ((st.map (z_val g)).map fun v => v.category).sum ≤ 8 := lv_room (by rw [hsum]; exact hcat)
    rw [hR]; simp only [z_room]; omega) (kk H locs Ls hW hS hh)
theorem z_max (n : Nat) {x y : Int32} (hB : z_B g X own cc nL) (hR : z_XR X = z_room (d + 1) mc ms) (hl : Cond.methodLink own idx Lib.Math.max.name ∈ z_tbl) (hs : Cond.static Lib.Math.max.name ∈ z_tbl) (hi : Cond.initialized "java/lang/Math" ∈ z_tbl) (hcd : Cond.code Lib.Math.max.name Lib.Math.max.code 2 (some .int) ∈ z_tbl) (hd : decode cc pc = .ok (.invokestatic idx, 3)) (hn : pc + 3 = n) (hcat : (st.map fun v => v.category).sum ≤ 8) (hcl : cl ≤ mc ∧ sl ≤ ms)
    (kk : z_W g X n ls (.int (if x < y then y else x) :: st) cl sl S) : z_W g X pc ls (.int y :: .int x :: st) cl sl S := by
  subst hn
  intro H locs Ls hW hS hh
  have hts := hB.2.2.2.2.1
  have hsum := z_catsum (g := g) (l := st)
  exact va_mmax hB.1 hB.2.1 (hB.2.2.1.trans (hB.2.2.2.2.2.2.2.symm.trans hh.2.1.symm)) hB.2.2.2.1 (hts _ hl) (hts _ hs) (hts _ hi) (hts _ hcd) (by rw [hR]; simp [z_room]) (by rw [hR, hsum]; simp only [z_room]; omega) (by rw [hR]; exact hcl.1) (by rw [hR]; exact hcl.2) hd (kk H locs Ls hW hS hh)
end ZC
