/-! the heap's rows, and calls -/
theorem z_cls : ∀ (ci : Nat) (q : vw_C), z_cl[ci]? = some q → (∀ w ∈ u_ws q.1 q.2.1 q.2.2, w ∈ z_tbl) ∧ (∀ a, a < q.2.2 → ∀ b, b < q.2.2 → a ≠ b → (q.2.1 a).2.1 ≠ (q.2.1 b).2.1) := by
  have key : ∀ ws : List Cond, ws.all (fun w => decide (w ∈ lw_tbl) && goodWord w) = true → ∀ w ∈ ws, w ∈ z_tbl := fun ws h w hw => by
    have h1 := List.all_eq_true.mp h w hw
    simp only [Bool.and_eq_true, decide_eq_true_eq] at h1
    exact List.mem_filter.mpr ⟨h1.1, h1.2⟩
  intro ci q hq
  match ci, hq with
  | 0, hq => cases hq; exact ⟨key _ (by decide +kernel), nmX0⟩
  | 1, hq => cases hq; exact ⟨key _ (by decide +kernel), nmX1⟩
  | 2, hq => cases hq; exact ⟨key _ (by decide +kernel), nmX2⟩
  | 3, hq => cases hq; exact ⟨key _ (by decide +kernel), nmX3⟩
  | 4, hq => cases hq; exact ⟨key _ (by decide +kernel), nmX4⟩
  | 5, hq => cases hq; exact ⟨key _ (by decide +kernel), nmX5⟩
  | 6, hq => cases hq; exact ⟨key _ (by decide +kernel), nmX6⟩
  | 7, hq => cases hq; exact ⟨key _ (by decide +kernel), nmX7⟩
  | 8, hq => cases hq; exact ⟨key _ (by decide +kernel), nmX8⟩
  | 9, hq => cases hq; exact ⟨key _ (by decide +kernel), nmX9⟩
  | 10, hq => cases hq; exact ⟨key _ (by decide +kernel), nmX10⟩
  | k + 11, hq => simp [z_cl] at hq
/-- the fields' types: whole numbers, and references -/
def z_tyOK (q : vw_C) (ty : Nat → FieldType) : Bool := (List.range q.2.2).all (fun k => if (q.2.1 k).2.2.1 == "I" then ty k == .int else (ty k).isReference)
theorem z_clty : ∀ (ci : Nat) (q : vw_C), z_cl[ci]? = some q → ∃ ty : Nat → FieldType, (∀ k, k < q.2.2 → parseFieldDescriptor (q.2.1 k).2.2.1 = some (ty k)) ∧ z_tyOK q ty = true := by
  intro ci q hq
  match ci, hq with
  | 0, hq => cases hq; exact ⟨_, tyX0_ok, by decide +kernel⟩
  | 1, hq => cases hq; exact ⟨_, tyX1_ok, by decide +kernel⟩
  | 2, hq => cases hq; exact ⟨_, tyX2_ok, by decide +kernel⟩
  | 3, hq => cases hq; exact ⟨_, tyX3_ok, by decide +kernel⟩
  | 4, hq => cases hq; exact ⟨_, tyX4_ok, by decide +kernel⟩
  | 5, hq => cases hq; exact ⟨_, tyX5_ok, by decide +kernel⟩
  | 6, hq => cases hq; exact ⟨_, tyX6_ok, by decide +kernel⟩
  | 7, hq => cases hq; exact ⟨_, tyX7_ok, by decide +kernel⟩
  | 8, hq => cases hq; exact ⟨_, tyX8_ok, by decide +kernel⟩
  | 9, hq => cases hq; exact ⟨_, tyX9_ok, by decide +kernel⟩
  | 10, hq => cases hq; exact ⟨_, tyX10_ok, by decide +kernel⟩
  | k + 11, hq => simp [z_cl] at hq
theorem z_tyI {ci k : Nat} {q : vw_C} (hq : z_cl[ci]? = some q) (hk : k < q.2.2) (hi : z_isI ci k = true) : parseFieldDescriptor (q.2.1 k).2.2.1 = some .int := by
  obtain ⟨ty, h1, h2⟩ := z_clty ci q hq
  have h3 := List.all_eq_true.mp h2 k (List.mem_range.mpr hk)
  simp only [z_isI, hq] at hi
  rw [if_pos hi] at h3
  rw [h1 k hk, beq_iff_eq.mp h3]
theorem z_tyR {ci k : Nat} {q : vw_C} (hq : z_cl[ci]? = some q) (hk : k < q.2.2) (hi : z_isI ci k = false) : ∃ ty, parseFieldDescriptor (q.2.1 k).2.2.1 = some ty ∧ ∀ r : Option Nat, narrow ty (va_rf r) = va_rf r ∧ fits ty (va_rf r) = true := by
  obtain ⟨ty, h1, h2⟩ := z_clty ci q hq
  have h3 := List.all_eq_true.mp h2 k (List.mem_range.mpr hk)
  simp only [z_isI, hq] at hi
  rw [if_neg (by rw [hi]; exact Bool.false_ne_true)] at h3
  refine ⟨ty k, h1 k hk, fun r => ?_⟩
  revert h3
  generalize ty k = t
  intro h3
  cases t <;> first | (simp [FieldType.isReference] at h3; done) | (cases r <;> exact ⟨rfl, rfl⟩)
def z_fin (ci k : Nat) : Bool := match z_cl[ci]? with
  | some q => (q.2.1 k).2.2.2
  | none => true
theorem z_adge {g : z_U} {S : z_S} {o : Nat} {q : Nat × Nat} (h : z_is S o q) : z_base g ≤ z_ad g o := by
  obtain ⟨-, h1, -⟩ := h
  obtain ⟨k, rfl⟩ : ∃ k, o = k + 4 := ⟨o - 4, by omega⟩
  show z_base g ≤ z_base g + k
  omega
theorem z_oldS {g : z_U} {S : z_S} {H H1 : Heap} {a : Nat} (hW : z_Wd g S H) (ha : z_base g ≤ a) (oq : ∀ x, x ≠ a → H1[x]? = H[x]?) : ∀ q : Nat, q < z_base g → H1[q]? = (z_H0 g)[q]? :=
  fun q hq => (oq q (by omega)).trans (hW.2.2 q hq)
theorem z_n_of {ci : Nat} {q : vw_C} (h : z_cl[ci]? = some q) : z_n ci = q.2.2 := by simp [z_n, h]
section ZH
variable {g : z_U} {X : z_X} {own : String} {cc : ByteArray} {nL pc : Nat} {ls ls' : List (Option Value)} {st st' : List Value} {cl sl : Nat} {S : z_S} {o ci k idx : Nat}
theorem z_getV (n : Nat) (hB : z_B g X own cc nL) (hf : z_FL own idx ci k) (ho : z_is S o (0, ci)) (hd : decode cc pc = .ok (.getfield idx, 3)) (hn : pc + 3 = n) {v : Value} (hv : z_fld g S ci o k = z_val g v)
    (kk : z_W g X n ls (v :: st) cl sl S) : z_W g X pc ls (.ref o :: st) cl sl S := by
  subst hn
  obtain ⟨hx, hb, hml, hown, hts, hKn, -⟩ := hB
  obtain ⟨q, hq, hk, hC, hlink⟩ := hf
  intro H locs Ls hW hS hh
  have he := z_ws_o (g := g) ho
  rw [z_ent_obj ho.1] at he
  have hc := (z_cls ci q hq).1
  have hfv : ((List.range (z_n ci)).map (z_fld g S ci o))[k]? = some (z_val g v) := by
    rw [List.getElem?_map, List.getElem?_range (by rw [z_n_of hq]; exact hk), ← hv]; rfl
  have hgo := kk H locs Ls hW hS hh
  rcases hlink with hl | ⟨host, hl⟩
  · exact va_get hx hb hts hc hown hKn.1 hW.2.1 (o - 4) he hq k hk (hts _ hl) (fun x h => by rw [← hC]; rw [hC] at h ⊢; exact h) hfv hd hgo
  · exact va_getN hx hb hts hc hown hKn.1 hW.2.1 (o - 4) he hq k hk (va_Nw.use rfl (hKn.2.1 _ hl)) (fun x h => by rw [← hC]; rw [hC] at h ⊢; exact h) hfv hd hgo
theorem z_getI (n : Nat) (hB : z_B g X own cc nL) (hf : z_FL own idx ci k) (ho : z_is S o (0, ci)) (hd : decode cc pc = .ok (.getfield idx, 3)) (hn : pc + 3 = n) (hi : z_isI ci k = true)
    (kk : z_W g X n ls (.int (z_I S o k) :: st) cl sl S) : z_W g X pc ls (.ref o :: st) cl sl S :=
  z_getV n hB hf ho hd hn (v := .int (z_I S o k)) (by simp [z_fld, hi, z_val]) kk
theorem z_getR (n : Nat) {r : Nat} (hB : z_B g X own cc nL) (hf : z_FL own idx ci k) (ho : z_is S o (0, ci)) (hd : decode cc pc = .ok (.getfield idx, 3)) (hn : pc + 3 = n) (hi : z_isI ci k = false) (hr : z_R S o k = some r)
    (kk : z_W g X n ls (.ref r :: st) cl sl S) : z_W g X pc ls (.ref o :: st) cl sl S :=
  z_getV n hB hf ho hd hn (v := .ref r) (by simp [z_fld, hi, z_val, hr, va_rf]) kk
/-- a put: every field, by its link -/
theorem z_putV (n : Nat) {v v' : Value} (hB : z_B g X own cc nL) (hf : z_FL own idx ci k) (ho : z_is S o (0, ci)) (hd : decode cc pc = .ok (.putfield idx, 3)) (hn : pc + 3 = n) (hfin : z_fin ci k = false ∨ ((z_Xh X).name = "<init>" ∧ (z_cl[ci]?).map (fun q => q.1) = some own)) {S' : z_S} (hv : v' = z_val g v)
    (hty : ∀ q : vw_C, z_cl[ci]? = some q → k < q.2.2 → ∃ ty, parseFieldDescriptor (q.2.1 k).2.2.1 = some ty ∧ narrow ty v' = v' ∧ fits ty v' = true) (hnx : z_nx S' = z_nx S)
    (hset : ∀ q : vw_C, z_cl[ci]? = some q → k < q.2.2 → (z_ws g S).set (o - 4) (z_ad g o, .inr (ci, ((List.range (z_n ci)).map (z_fld g S ci o)).set k v')) = z_ws g S')
    (kk : z_W g X n ls st cl sl S') : z_W g X pc ls (v :: .ref o :: st) cl sl S := by
  subst hn
  subst hv
  obtain ⟨hx, hb, hml, hown, hts, hKn, -⟩ := hB
  obtain ⟨q, hq, hk, hC, hlink⟩ := hf
  obtain ⟨C, T, N⟩ := q
  dsimp only at hk hC hlink
  intro H locs Ls hW hS hh
  have he := z_ws_o (g := g) ho
  rw [z_ent_obj ho.1] at he
  obtain ⟨hin, hnm⟩ := z_cls ci _ hq
  obtain ⟨ty0, hty0, -⟩ := z_clty ci _ hq
  obtain ⟨ty, hd1, hn1, hfit⟩ := hty _ hq hk
  have hN := z_n_of hq
  have hset' := hset _ hq hk
  dsimp only at hN hin hnm hty0 hd1
  have hkl : k < ((List.range (z_n ci)).map (z_fld g S ci o)).length := by simp [hN, hk]
  have hap := va_apart (own := own) hts hin ty0 hty0 hnm hKn.1 hq
  obtain ⟨r, h1, cell, q1, q2, q3, q4⟩ := hW.2.1 (o - 4) _ he
  have hr : r = (C, T, N) := Option.some.inj (h1.symm.trans hq)
  subst hr
  obtain ⟨hSl, hfc, kC, hkC, hkind⟩ := hKn.1.1 ci _ hq
  obtain ⟨cf, kf, fi, f, hi, hsl⟩ := hSl k hk
  have hst := (u_facts hfc hkC (u_lays hts hin hk) hi).1
  have hsame : (z_Xs X).fieldFound? C (T k).2.1 (T k).2.2.1 = some (cf, kf, fi, f) := by rw [← hC]; exact hi
  have fin : ∀ H1 : Heap, H1[z_ad g o]? = some (cell.setSlot f.slot (z_val g v)) → H1.size = H.size → (∀ x, x ≠ z_ad g o → H1[x]? = H[x]?) → W (z_Xp X) g.1 (z_Xe X) (z_XR X) (z_Xs X) (z_Xm X) (z_Xa X) (z_Xb X) (z_Xh X) (z_Xc X) H1 (locs ++ [⟨z_ad g o, f.slot⟩]) cl sl (z_XQ X) (F0 (z_Xm X) (pc + 3) Ls (st.map (z_val g))) := by
    intro H1 e1 e2 e3
    rw [hsl] at e1
    have hP1 := hW.2.1.set (z_D g S) he (e := .inr (ci, ((List.range (z_n ci)).map (z_fld g S ci o)).set k (z_val g v))) ⟨_, hq, t_OB.to (V := updV (vp_V ((List.range (z_n ci)).map (z_fld g S ci o))) k (z_val g v)) ⟨_, e1, q2, q3, t_set q4 hap hk (z_val g v)⟩ (fun j _ => vp_updV_set hkl (z_val g v) j)⟩ e3
    rw [hset'] at hP1
    exact kk H1 _ Ls ⟨by rw [e2, hnx]; exact hW.1, hP1, z_oldS hW (z_adge ho) e3⟩ (hS.put e2 e3 ((z_D g S).2 (o - 4) _ he)) hh
  have hlt : f.slot < cell.slots.size := by rw [hsl]; exact k2_hasslot (q4 k hk)
  by_cases hf0 : (T k).2.2.2 = false
  · have hlay := hts _ (hin _ (u_in_lay hk))
    unfold u_lay at hlay
    rw [if_neg (by rw [hf0]; decide)] at hlay
    have h6 := u_store hfc hkC hkind hlay hi hd1 hn1 hfit
    rcases hlink with hl | ⟨host, hl⟩
    · exact W.putK hx hb (f := f) ⟨hown, hts _ hl, ⟨_, _, _, hsame⟩, hst⟩ (by rw [q2]; exact h6) q1 q3 hlt rfl rfl hd fin
    · exact va_WputK hx hb (f := f) hown (va_Nw.use rfl (hKn.2.1 _ hl)) hsame hst (by rw [q2]; exact h6) q1 q3 hlt rfl rfl hd fin
  · have hf1 : (T k).2.2.2 = true := by simpa using hf0
    rcases hfin with hf2 | ⟨hin2, hown2⟩
    · simp [z_fin, hq, hf1] at hf2
    have hCo : C = own := by simpa [hq] using hown2
    have hlay := hts _ (hin _ (u_in_lay hk))
    unfold u_lay at hlay
    rw [if_pos hf1] at hlay
    have hcf : (z_Xm X).cls = cf := by
      obtain ⟨_, _, c', _, _, _, -, -, hf', -, -, -, hown3, -⟩ := Cond.laysFinal_spec hlay
      have e1 : c' = cf := by have := hi.symm.trans hf'; simp at this; exact this.1.symm
      rw [hC, hCo] at hown3
      rw [← e1]; exact Option.some.inj (hown.symm.trans hown3)
    have h6 := u_fits hfc hkC hkind (Or.inr hlay) hi hd1 hn1 hfit
    rcases hlink with hl | ⟨host, hl⟩
    · exact W.putFinK hx hb hown (hts _ hl) hsame hst hcf hin2 (by rw [q2]; exact h6) q1 q3 hlt rfl rfl hd fin
    · exact va_Wputf hx hb hown (va_Nw.use rfl (hKn.2.1 _ hl)) hsame hst (Or.inr ⟨hcf, hin2⟩) q1 (by rw [q3]; exact fun h => by cases h) hlt h6.1 (by rw [q2, q3]; exact h6.2) rfl rfl hd (fin _ (by simp [Array.getElem?_setIfInBounds, (Array.getElem?_eq_some_iff.mp q1).1]) (by simp) (fun x hx' => by simp [Array.getElem?_setIfInBounds, Ne.symm hx']))
theorem z_putI (n : Nat) {x : Int32} (hB : z_B g X own cc nL) (hf : z_FL own idx ci k) (ho : z_is S o (0, ci)) (hd : decode cc pc = .ok (.putfield idx, 3)) (hn : pc + 3 = n) (hi : z_isI ci k = true) (hfin : z_fin ci k = false)
    (kk : z_W g X n ls st cl sl (z_pI S o k x)) : z_W g X pc ls (.int x :: .ref o :: st) cl sl S :=
  z_putV n hB hf ho hd hn (Or.inl hfin) (v' := .int x) (S' := z_pI S o k x) rfl (fun q hq hk => ⟨.int, z_tyI hq hk hi, rfl, rfl⟩) rfl (fun q hq hk => z_setI ho (by rw [z_n_of hq]; exact hk) hi) kk
theorem z_putR (n : Nat) {r : Nat} (hB : z_B g X own cc nL) (hf : z_FL own idx ci k) (ho : z_is S o (0, ci)) (hd : decode cc pc = .ok (.putfield idx, 3)) (hn : pc + 3 = n) (hi : z_isI ci k = false) (hfin : z_fin ci k = false ∨ ((z_Xh X).name = "<init>" ∧ (z_cl[ci]?).map (fun q => q.1) = some own))
    (kk : z_W g X n ls st cl sl (z_pR S o k (some r))) : z_W g X pc ls (.ref r :: .ref o :: st) cl sl S :=
  z_putV n hB hf ho hd hn hfin (v' := .ref (z_ad g r)) (S' := z_pR S o k (some r)) rfl (fun q hq hk => by
    obtain ⟨ty, h1, h2⟩ := z_tyR hq hk hi
    exact ⟨ty, h1, h2 (some (z_ad g r))⟩) rfl (fun q hq hk => z_setR (v := some r) ho (by rw [z_n_of hq]; exact hk) hi) kk
theorem z_ald (n : Nat) {i : Int32} {N : Nat} (hB : z_B g X own cc nL) (ho : z_is S o (1, N)) (hd : decode cc pc = .ok (.iaload, 1)) (hn : pc + 1 = n) (hin : vp_in i N)
    (kk : z_W g X n ls (.int (z_I S o i.toNatClampNeg) :: st) cl sl S) : z_W g X pc ls (.int i :: .ref o :: st) cl sl S := by
  subst hn
  intro H locs Ls hW hS hh
  have he := z_ws_o (g := g) ho
  rw [z_ent_row ho.1] at he
  exact va_iald hB.1 hB.2.1 hB.2.2.2.2.2.1.1 hW.2.1 (o - 4) 0 he rfl hin hd (kk H locs Ls hW hS hh)
theorem z_alen (n : Nat) {N : Nat} (hB : z_B g X own cc nL) (ho : z_is S o (1, N)) (hd : decode cc pc = .ok (.arraylength, 1)) (hn : pc + 1 = n)
    (kk : z_W g X n ls (.int (Int32.ofNat N) :: st) cl sl S) : z_W g X pc ls (.ref o :: st) cl sl S := by
  subst hn
  intro H locs Ls hW hS hh
  have he := z_ws_o (g := g) ho
  rw [z_ent_row ho.1] at he
  exact va_alen hB.1 hB.2.1 hB.2.2.2.2.2.1.1 hW.2.1 (o - 4) 0 he (ty := .int) rfl rfl hd (kk H locs Ls hW hS hh)
theorem z_alenQ (n : Nat) {N : Nat} (hB : z_B g X own cc nL) (ho : z_is S o (2, N)) (hd : decode cc pc = .ok (.arraylength, 1)) (hn : pc + 1 = n)
    (kk : z_W g X n ls (.int (Int32.ofNat N) :: st) cl sl S) : z_W g X pc ls (.ref o :: st) cl sl S := by
  subst hn
  intro H locs Ls hW hS hh
  have he := z_ws_o (g := g) ho
  rw [z_ent_refs ho.1] at he
  exact va_alen hB.1 hB.2.1 hB.2.2.2.2.2.1.1 hW.2.1 (o - 4) 1 he (ty := .object RX7) rfl rfl hd (kk H locs Ls hW hS hh)
theorem z_ast (n : Nat) {i x : Int32} {N : Nat} (hB : z_B g X own cc nL) (ho : z_is S o (1, N)) (hd : decode cc pc = .ok (.iastore, 1)) (hn : pc + 1 = n) (hin : vp_in i N)
    (kk : z_W g X n ls st cl sl (z_pI S o i.toNatClampNeg x)) : z_W g X pc ls (.int x :: .int i :: .ref o :: st) cl sl S := by
  subst hn
  intro H locs Ls hW hS hh
  have he := z_ws_o (g := g) ho
  rw [z_ent_row ho.1] at he
  have hK := hB.2.2.2.2.2.1.1
  refine W.iast hB.1 hB.2.1 (hW.2.1 (o - 4) _ he) ((hK.2 0 _ rfl).1 N (fun j => .int (z_I S o j))) (fun q => by cases q) (by show ¬ (i < 0 ∨ (arrV _ _ _).slots.size ≤ _); rw [arrV_size]; exact hin) rfl rfl hd fun H1 e z oq => ?_
  have hP1 := hW.2.1.set (z_D g S) he (e := .inl (g.2.2.1, N, .inl (upd (z_I S o) i.toNatClampNeg x))) (by
    show H1[z_ad g o]? = some (vp_cell _ _)
    rw [e]
    rw [vp_cell_i, vp_cell_i, arrV_store]
    congr 2
    funext q
    by_cases hq : q = i.toNatClampNeg
    · subst hq
      simp [updV, upd]
    · simp [updV, upd, hq]) oq
  rw [z_setA ho] at hP1
  exact kk H1 _ Ls ⟨by rw [z]; exact hW.1, hP1, z_oldS hW (z_adge ho) oq⟩ (hS.put z oq ((z_D g S).2 (o - 4) _ he)) hh
theorem z_aldQ (n : Nat) {i : Int32} {N r : Nat} (hB : z_B g X own cc nL) (ho : z_is S o (2, N)) (hd : decode cc pc = .ok (.aaload, 1)) (hn : pc + 1 = n) (hin : vp_in i N) (hr : z_R S o i.toNatClampNeg = some r)
    (kk : z_W g X n ls (.ref r :: st) cl sl S) : z_W g X pc ls (.int i :: .ref o :: st) cl sl S := by
  subst hn
  intro H locs Ls hW hS hh
  have he := z_ws_o (g := g) ho
  rw [z_ent_refs ho.1] at he
  have hgo := kk H locs Ls hW hS hh
  refine va_aldq hB.1 hB.2.1 hB.2.2.2.2.2.1.1 hW.2.1 (o - 4) 1 he rfl hin hd ?_
  show W _ _ _ _ _ _ _ _ _ _ _ _ _ _ _ (F0 _ _ _ (va_rf ((z_R S o i.toNatClampNeg).map (z_ad g)) :: _))
  rw [hr]
  exact hgo
theorem z_astQ (n : Nat) {i : Int32} {N r : Nat} (hB : z_B g X own cc nL) (ho : z_is S o (2, N)) (hv : z_is S r (0, 7)) (hd : decode cc pc = .ok (.aastore, 1)) (hn : pc + 1 = n) (hin : vp_in i N)
    (kk : z_W g X n ls st cl sl (z_pR S o i.toNatClampNeg (some r))) : z_W g X pc ls (.ref r :: .int i :: .ref o :: st) cl sl S := by
  subst hn
  intro H locs Ls hW hS hh
  have he := z_ws_o (g := g) ho
  rw [z_ent_refs ho.1] at he
  have hev := z_ws_o (g := g) hv
  rw [z_ent_obj hv.1] at hev
  have hK := hB.2.2.2.2.2.1.1
  have hlt : i.toNatClampNeg < N := Nat.not_le.mp fun q => hin (Or.inr q)
  have h0 : ¬ i < 0 := fun q => hin (Or.inl q)
  obtain ⟨r', hr', cellV, g1, g2, g3, -⟩ := hW.2.1 (r - 4) _ hev
  have hcls := (hK.1 7 (RX7, TX7, 7) rfl).2
  obtain ⟨kA, comp, k1, k2, k3, -⟩ := (hK.2 1 _ rfl).2
  have hcomp : comp = g.2.1.1 7 := Option.some.inj (k3.symm.trans hcls.1)
  subst hcomp
  obtain ⟨kC, hkC, -⟩ := hcls.2
  refine W.aast hB.1 hB.2.1 (hW.2.1 (o - 4) _ he) (fun q h => by cases h) (fun h => by cases h) k1 k2 rfl hkC ⟨h0, by show _ < (arrV _ _ _).slots.size; rw [arrV_size]; exact hlt⟩ g1 (fun q h => by rw [g3] at h; cases h) (by rw [g2]; exact hkC) (by rw [g2]; exact va_assign hcls) rfl rfl hd fun H1 e z oq => ?_
  have hP1 := hW.2.1.set (z_D g S) he (e := .inl (g.2.2.2.1, N, .inr (.inr (.inr (.inr (va_up (fun j => (z_R S o j).map (z_ad g)) i.toNatClampNeg ((some r).map (z_ad g)))))))) (by
    show H1[z_ad g o]? = some (vp_cell _ _)
    rw [e]
    rw [vp_cell_q, vp_cell_q, arrV_store]
    congr 2
    funext q
    by_cases hq : q = i.toNatClampNeg
    · subst hq
      simp [updV, va_up, va_rf]
    · simp [updV, va_up, hq]) oq
  rw [z_setQ ho] at hP1
  exact kk H1 _ Ls ⟨by rw [z]; exact hW.1, hP1, z_oldS hW (z_adge ho) oq⟩ (hS.put z oq ((z_D g S).2 (o - 4) _ he)) hh
end ZH
