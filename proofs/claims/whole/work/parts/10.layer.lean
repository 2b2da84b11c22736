/-! THE LAYER: a world of numbered cells (id 0: the script; ids 1, 2, ..: the cells in the order of their making, at base, base + 1, ..), and the kit's walk over it with all that it carries put away. -/
/-- kinds (0: object of a class; 1: int row of a length; 2: row of States), numbers, references, how many -/
abbrev z_S : Type := (Nat → Nat × Nat) × (Nat → Nat → Int32) × (Nat → Nat → Option Nat) × Nat
def z_kd (S : z_S) : Nat → Nat × Nat := S.1
def z_I (S : z_S) : Nat → Nat → Int32 := S.2.1
def z_R (S : z_S) : Nat → Nat → Option Nat := S.2.2.1
def z_nx (S : z_S) : Nat := S.2.2.2
def z_u2 {α : Type} (f : Nat → Nat → α) (o k : Nat) (v : α) : Nat → Nat → α := fun o' k' => if o' = o ∧ k' = k then v else f o' k'
def z_pI (S : z_S) (o k : Nat) (v : Int32) : z_S := (S.1, z_u2 S.2.1 o k v, S.2.2)
def z_pR (S : z_S) (o k : Nat) (v : Option Nat) : z_S := (S.1, S.2.1, z_u2 S.2.2.1 o k v, S.2.2.2)
/-- a new cell: its numbers 0, its references null -/
def z_new (S : z_S) (q : Nat × Nat) : z_S := (fun o => if o = S.2.2.2 + 4 then q else S.1 o, fun o k => if o = S.2.2.2 + 4 then 0 else S.2.1 o k, fun o k => if o = S.2.2.2 + 4 then none else S.2.2.1 o k, S.2.2.2 + 1)
/-- launch, the tables' numbers, the int rows' class, the State rows' class, base; the four old cells that are spoken of (script, text, its bytes, a formatter); the heap at the law's entry -/
abbrev z_U : Type := Launch × va_G × ClassId × ClassId × Nat × (Nat → Nat) × Heap
def z_base (g : z_U) : Nat := g.2.2.2.2.1
def z_old (g : z_U) : Nat → Nat := g.2.2.2.2.2.1
def z_H0 (g : z_U) : Heap := g.2.2.2.2.2.2
def z_ad (g : z_U) (o : Nat) : Nat := match o with
  | 0 => z_old g 0
  | 1 => z_old g 1
  | 2 => z_old g 2
  | 3 => z_old g 3
  | k + 4 => z_base g + k
def z_val (g : z_U) (v : Value) : Value := match v with
  | .ref o => .ref (z_ad g o)
  | w => w
def z_n (ci : Nat) : Nat := match z_cl[ci]? with
  | some q => q.2.2
  | none => 0
def z_isI (ci k : Nat) : Bool := match z_cl[ci]? with
  | some q => (q.2.1 k).2.2.1 == "I"
  | none => false
def z_fld (g : z_U) (S : z_S) (ci o k : Nat) : Value := if z_isI ci k = true then .int (z_I S o k) else va_rf ((z_R S o k).map (z_ad g))
def z_ent (g : z_U) (S : z_S) (o : Nat) : va_E := match z_kd S o with
  | (0, ci) => .inr (ci, (List.range (z_n ci)).map (z_fld g S ci o))
  | (1, n) => .inl (g.2.2.1, n, .inl (z_I S o))
  | (_, n) => .inl (g.2.2.2.1, n, .inr (.inr (.inr (.inr (fun j => (z_R S o j).map (z_ad g))))))
def z_ws (g : z_U) (S : z_S) : va_W := (List.range (z_nx S)).map (fun k => (z_ad g (k + 4), z_ent g S (k + 4)))
def z_A (g : z_U) : Nat → Prop := fun q => z_base g ≤ q
def z_Wd (g : z_U) (S : z_S) (H : Heap) : Prop := H.size = z_base g + z_nx S ∧ va_P g.2.1 z_cl (z_ws g S) H ∧ ∀ q : Nat, q < z_base g → H[q]? = (z_H0 g)[q]?
abbrev z_tys (g : z_U) : List (ClassId × FieldType) := [(g.2.2.1, .int), (g.2.2.2.1, .object RX7)]
/-- what is known of the one text, and of three statics -/
def z_tx : String := "s0,1,2,0;s1,2,3,1;s2,1,1,0;s3,4,2,1;s0,2,4,2;q0,2;q1,3;c0,1,0,12;c0,2,1,5;c1,4,2,30;c1,1,1,8;c2,2,0,9;c3,4,3,20;c4,1,2,15;h5;"
def z_by : List Int32 := (z_tx.toUTF8.toList).map (fun c => c.toUInt32.toInt32)
def z_KS (g : z_U) (U : State) : Prop := vk_R RX9 80 z_tx (z_old g 1) U ∧ vk_S 1 [125] [z_by] (fun _ => z_old g 1) (fun _ => z_old g 2) (z_A g) U (z_H0 g) ∧ va_Z RJ0 "COMPACT_STRINGS" "Z" (.int 1) (z_A g) U (z_H0 g) ∧ (va_Z RJ3 "SIOOBE_FORMATTER" "Ljava/util/function/BiFunction;" .null (z_A g) U (z_H0 g) ∨ va_Z RJ3 "SIOOBE_FORMATTER" "Ljava/util/function/BiFunction;" (.ref (z_old g 3)) (z_A g) U (z_H0 g))
def z_Kn (g : z_U) (U : State) : Prop := va_K g.2.1 z_cl (z_tys g) U ∧ (∀ w ∈ z_nst, va_Nw w U) ∧ va_AO RX7 U ∧ z_KS g U
theorem z_KS.moved {g : z_U} {s U : State} (hA : s.vm.Alike U.vm) (hR : vk_R RX9 80 z_tx (z_old g 1) U) (h : z_KS g s) : z_KS g U :=
  ⟨hR, vk_S.moved hA h.2.1, va_Z.moved hA h.2.2.1, h.2.2.2.imp (fun q => va_Z.moved hA q) (fun q => va_Z.moved hA q)⟩
theorem z_Kn.warm {g : z_U} {s U : State} (hW : s.WarmedH U.vm) (h : z_Kn g s) : z_Kn g U := by
  refine ⟨va_K.moved hW.alike h.1, fun w hw => ?_, va_AO.moved hW.alike h.2.2.1, z_KS.moved hW.alike (vk_R.warm hW h.2.2.2.1) h.2.2.2⟩
  have hn := (List.mem_filter.mp hw).2
  have hk := h.2.1 w hw
  cases w with
  | fieldLinkNest a i b n d q => exact va_Nw.warmF hW hk
  | methodLinkNest a i x q => exact va_Nw.warmM hW hk
  | _ => simp [z_isNest] at hn
theorem z_Kn.same {g : z_U} {s U : State} (hv : s.vm = U.vm) (h : z_Kn g s) : z_Kn g U := by
  have hA : s.vm.Alike U.vm := by rw [hv]; exact Vm.Alike.refl _
  refine ⟨va_K.moved hA h.1, fun w hw => ?_, va_AO.moved hA h.2.2.1, z_KS.moved hA (vk_R.same hv.symm h.2.2.2.1) h.2.2.2⟩
  have hn := (List.mem_filter.mp hw).2
  have hk := h.2.1 w hw
  cases w with
  | fieldLinkNest a i b n d q => exact va_Nw.same rfl hv hk
  | methodLinkNest a i x q => exact va_Nw.same rfl hv hk
  | _ => simp [z_isNest] at hn
/-- a cell of a kind -/
def z_is (S : z_S) (o : Nat) (q : Nat × Nat) : Prop := z_kd S o = q ∧ 4 ≤ o ∧ o < z_nx S + 4
theorem z_ws_len (g : z_U) (S : z_S) : (z_ws g S).length = z_nx S := by simp [z_ws]
theorem z_ws_at {g : z_U} {S : z_S} {k : Nat} (h : k < z_nx S) : (z_ws g S)[k]? = some (z_ad g (k + 4), z_ent g S (k + 4)) := by
  simp [z_ws, List.getElem?_map, List.getElem?_range h]
theorem z_ws_of {g : z_U} {S : z_S} {k : Nat} {q : Nat × va_E} (h : (z_ws g S)[k]? = some q) : k < z_nx S ∧ q = (z_ad g (k + 4), z_ent g S (k + 4)) := by
  have hl : k < z_nx S := by rw [← z_ws_len g S]; exact (List.getElem?_eq_some_iff.mp h).1
  exact ⟨hl, (Option.some.inj ((z_ws_at hl).symm.trans h)).symm⟩
theorem z_ws_o {g : z_U} {S : z_S} {o : Nat} {q : Nat × Nat} (h : z_is S o q) : (z_ws g S)[o - 4]? = some (z_ad g o, z_ent g S o) := by
  obtain ⟨-, h1, h2⟩ := h
  have := z_ws_at (g := g) (S := S) (k := o - 4) (by omega)
  rwa [show o - 4 + 4 = o by omega] at this
theorem z_D (g : z_U) (S : z_S) : va_D (z_A g) (z_ws g S) := by
  refine ⟨fun i j p q hi hj he => ?_, fun k q hk => ?_⟩
  · obtain ⟨-, rfl⟩ := z_ws_of hi
    obtain ⟨-, rfl⟩ := z_ws_of hj
    simp only [z_ad] at he
    omega
  · obtain ⟨-, rfl⟩ := z_ws_of hk
    show z_base g ≤ z_base g + k
    omega
/-- one cell set: the world of the new store -/
theorem z_ws_set {g : z_U} {S S' : z_S} {o : Nat} (h1 : 4 ≤ o) (h2 : o < z_nx S + 4) (hn : z_nx S' = z_nx S) (hoff : ∀ q, q ≠ o → z_ent g S' q = z_ent g S q) : (z_ws g S).set (o - 4) (z_ad g o, z_ent g S' o) = z_ws g S' := by
  apply List.ext_getElem?
  intro k
  by_cases hk : k = o - 4
  · subst hk
    rw [List.getElem?_set_self (by rw [z_ws_len]; omega), z_ws_at (by omega), show o - 4 + 4 = o by omega]
  · rw [List.getElem?_set_ne (Ne.symm hk)]
    by_cases hl : k < z_nx S
    · rw [z_ws_at hl, z_ws_at (by omega), hoff (k + 4) (by omega)]
    · rw [List.getElem?_eq_none (by rw [z_ws_len]; omega), List.getElem?_eq_none (by rw [z_ws_len]; omega)]
theorem z_ent_obj {g : z_U} {S : z_S} {o ci : Nat} (h : z_kd S o = (0, ci)) : z_ent g S o = .inr (ci, (List.range (z_n ci)).map (z_fld g S ci o)) := by
  unfold z_ent; rw [h]; rfl
theorem z_ent_row {g : z_U} {S : z_S} {o n : Nat} (h : z_kd S o = (1, n)) : z_ent g S o = .inl (g.2.2.1, n, .inl (z_I S o)) := by
  unfold z_ent; rw [h]; rfl
theorem z_ent_refs {g : z_U} {S : z_S} {o n : Nat} (h : z_kd S o = (2, n)) : z_ent g S o = .inl (g.2.2.2.1, n, .inr (.inr (.inr (.inr (fun j => (z_R S o j).map (z_ad g)))))) := by
  unfold z_ent; rw [h]; rfl
/-- the other cells don't see a put -/
theorem z_ent_pI {g : z_U} {S : z_S} {o k q : Nat} {v : Int32} (h : q ≠ o) : z_ent g (z_pI S o k v) q = z_ent g S q := by
  have hI : z_I (z_pI S o k v) q = z_I S q := by
    funext j
    simp [z_I, z_pI, z_u2, h]
  unfold z_ent
  have e1 : z_kd (z_pI S o k v) q = z_kd S q := rfl
  rw [e1, hI]
  have e2 : z_fld g (z_pI S o k v) = fun ci q' k' => if z_isI ci k' = true then .int (z_I (z_pI S o k v) q' k') else va_rf ((z_R S q' k').map (z_ad g)) := rfl
  have e3 : ∀ ci, z_fld g (z_pI S o k v) ci q = z_fld g S ci q := by
    intro ci
    funext j
    simp only [z_fld]
    rw [hI]
    rfl
  have e4 : z_R (z_pI S o k v) q = z_R S q := rfl
  simp only [e3, e4]
theorem z_ent_pR {g : z_U} {S : z_S} {o k q : Nat} {v : Option Nat} (h : q ≠ o) : z_ent g (z_pR S o k v) q = z_ent g S q := by
  have hI : z_R (z_pR S o k v) q = z_R S q := by
    funext j
    simp [z_R, z_pR, z_u2, h]
  unfold z_ent
  have e1 : z_kd (z_pR S o k v) q = z_kd S q := rfl
  have e3 : ∀ ci, z_fld g (z_pR S o k v) ci q = z_fld g S ci q := by
    intro ci
    funext j
    simp only [z_fld]
    rw [hI]
    rfl
  have e4 : z_I (z_pR S o k v) q = z_I S q := rfl
  rw [e1, hI, e4]
  simp only [e3]
theorem z_fs_setI {g : z_U} {S : z_S} {ci o k : Nat} {v : Int32} (hk : k < z_n ci) (hi : z_isI ci k = true) : ((List.range (z_n ci)).map (z_fld g S ci o)).set k (.int v) = (List.range (z_n ci)).map (z_fld g (z_pI S o k v) ci o) := by
  apply List.ext_getElem?
  intro j
  by_cases hj : j = k
  · subst hj
    rw [List.getElem?_set_self (by simpa using hk)]
    simp [List.getElem?_map, List.getElem?_range hk, z_fld, hi, z_I, z_pI, z_u2]
  · rw [List.getElem?_set_ne (Ne.symm hj)]
    by_cases hl : j < z_n ci
    · simp [List.getElem?_map, List.getElem?_range hl, z_fld, z_I, z_pI, z_u2, hj, z_R]
    · simp [List.getElem?_map, List.getElem?_eq_none, hl]
theorem z_fs_setR {g : z_U} {S : z_S} {ci o k : Nat} {v : Option Nat} (hk : k < z_n ci) (hi : z_isI ci k = false) : ((List.range (z_n ci)).map (z_fld g S ci o)).set k (va_rf (v.map (z_ad g))) = (List.range (z_n ci)).map (z_fld g (z_pR S o k v) ci o) := by
  apply List.ext_getElem?
  intro j
  by_cases hj : j = k
  · subst hj
    rw [List.getElem?_set_self (by simpa using hk)]
    simp [List.getElem?_map, List.getElem?_range hk, z_fld, hi, z_R, z_pR, z_u2]
  · rw [List.getElem?_set_ne (Ne.symm hj)]
    by_cases hl : j < z_n ci
    · simp [List.getElem?_map, List.getElem?_range hl, z_fld, z_I, z_pR, z_u2, hj, z_R]
    · simp [List.getElem?_map, List.getElem?_eq_none, hl]
theorem z_setI {g : z_U} {S : z_S} {ci o k : Nat} {v : Int32} (h : z_is S o (0, ci)) (hk : k < z_n ci) (hi : z_isI ci k = true) : (z_ws g S).set (o - 4) (z_ad g o, .inr (ci, ((List.range (z_n ci)).map (z_fld g S ci o)).set k (.int v))) = z_ws g (z_pI S o k v) := by
  rw [z_fs_setI hk hi, ← z_ent_obj (g := g) (S := z_pI S o k v) (o := o) h.1]
  exact z_ws_set h.2.1 h.2.2 rfl (fun q hq => z_ent_pI hq)
theorem z_setR {g : z_U} {S : z_S} {ci o k : Nat} {v : Option Nat} (h : z_is S o (0, ci)) (hk : k < z_n ci) (hi : z_isI ci k = false) : (z_ws g S).set (o - 4) (z_ad g o, .inr (ci, ((List.range (z_n ci)).map (z_fld g S ci o)).set k (va_rf (v.map (z_ad g))))) = z_ws g (z_pR S o k v) := by
  rw [z_fs_setR hk hi, ← z_ent_obj (g := g) (S := z_pR S o k v) (o := o) h.1]
  exact z_ws_set h.2.1 h.2.2 rfl (fun q hq => z_ent_pR hq)
theorem z_setA {g : z_U} {S : z_S} {n o k : Nat} {v : Int32} (h : z_is S o (1, n)) : (z_ws g S).set (o - 4) (z_ad g o, .inl (g.2.2.1, n, .inl (upd (z_I S o) k v))) = z_ws g (z_pI S o k v) := by
  have e : upd (z_I S o) k v = z_I (z_pI S o k v) o := by
    funext j
    simp [upd, z_I, z_pI, z_u2]
  rw [e, ← z_ent_row (g := g) (S := z_pI S o k v) (o := o) h.1]
  exact z_ws_set h.2.1 h.2.2 rfl (fun q hq => z_ent_pI hq)
theorem z_setQ {g : z_U} {S : z_S} {n o k : Nat} {v : Option Nat} (h : z_is S o (2, n)) : (z_ws g S).set (o - 4) (z_ad g o, .inl (g.2.2.2.1, n, .inr (.inr (.inr (.inr (va_up (fun j => (z_R S o j).map (z_ad g)) k (v.map (z_ad g)))))))) = z_ws g (z_pR S o k v) := by
  have e : va_up (fun j => (z_R S o j).map (z_ad g)) k (v.map (z_ad g)) = fun j => (z_R (z_pR S o k v) o j).map (z_ad g) := by
    funext j
    by_cases hj : j = k <;> simp [va_up, z_R, z_pR, z_u2, hj]
  rw [e, ← z_ent_refs (g := g) (S := z_pR S o k v) (o := o) h.1]
  exact z_ws_set h.2.1 h.2.2 rfl (fun q hq => z_ent_pR hq)
/-- locals by their places -/
def z_as (g : z_U) (ls : List (Option Value)) : List (Nat × Value) := (List.range ls.length).filterMap (fun k => match ls[k]? with
  | some (some v) => some (k, z_val g v)
  | _ => none)
theorem z_as_mem {g : z_U} {ls : List (Option Value)} {q : Nat × Value} : q ∈ z_as g ls ↔ ∃ v, ls[q.1]? = some (some v) ∧ q.2 = z_val g v := by
  unfold z_as
  rw [List.mem_filterMap]
  constructor
  · rintro ⟨k, hk, h⟩
    split at h
    next v hv => cases h; exact ⟨v, hv, rfl⟩
    next => cases h
  · rintro ⟨v, h1, h2⟩
    refine ⟨q.1, List.mem_range.mpr (List.getElem?_eq_some_iff.mp h1).1, ?_⟩
    rw [h1]
    show some (q.1, z_val g v) = some q
    rw [← h2]
theorem z_cat {g : z_U} {v : Value} : (z_val g v).category = v.category := by cases v <;> rfl
def z_has (g : z_U) (ls : List (Option Value)) (Ls : Array Slot) (nL : Nat) : Prop := ls.length = nL ∧ lv_has Ls nL (z_as g ls)
theorem z_has.at {g : z_U} {ls : List (Option Value)} {Ls : Array Slot} {nL i : Nat} {v : Value} (h : z_has g ls Ls nL) (hi : ls[i]? = some (some v)) : Ls[i]? = some (.val (z_val g v)) := h.2.2.2 (i, z_val g v) (z_as_mem.mpr ⟨v, hi, rfl⟩)
/-- the local ahead isn't a long -/
def z_ok1 (ls : List (Option Value)) (i : Nat) : Bool := match i with
  | 0 => true
  | j + 1 => match ls[j]? with
    | some (some (.long _)) => false
    | some (some (.double _)) => false
    | _ => true
theorem z_ok1_cat {ls : List (Option Value)} {j i : Nat} {v : Value} (h : z_ok1 ls i = true) (hj : j + 1 = i) (hv : ls[j]? = some (some v)) : ¬ v.category = 2 := by
  subst hj
  simp only [z_ok1, hv] at h
  cases v <;> simp_all [Value.category]
theorem z_has.set1 {g : z_U} {ls : List (Option Value)} {Ls : Array Slot} {nL i : Nat} {v : Value} (hlen : ls.length = nL) (hok : z_ok1 ls i = true) (hc : v.category = 1)
    (h : lv_has Ls nL ((i, z_val g v) :: (z_as g ls).filter (fun q => !(q.1 == i) && !(q.1 + 1 == i && q.2.category == 2)))) : z_has g (ls.set i (some v)) Ls nL := by
  refine ⟨by simpa using hlen, h.1, h.2.1, fun q hq => h.2.2 q ?_⟩
  obtain ⟨w, h1, h2⟩ := z_as_mem.mp hq
  by_cases hqi : q.1 = i
  · rw [hqi, List.getElem?_set] at h1
    split at h1
    · split at h1
      · cases h1
        rw [show q = (i, z_val g v) from Prod.ext hqi h2]
        exact List.mem_cons_self
      · cases h1
    · next hne => exact absurd rfl hne
  · rw [List.getElem?_set_ne (Ne.symm hqi)] at h1
    refine List.mem_cons_of_mem _ (List.mem_filter.mpr ⟨z_as_mem.mpr ⟨w, h1, h2⟩, ?_⟩)
    have h3 : ¬ (q.1 + 1 = i ∧ q.2.category = 2) := by
      rintro ⟨e1, e2⟩
      rw [h2, z_cat] at e2
      exact z_ok1_cat hok e1 h1 e2
    simp only [Bool.and_eq_true, Bool.not_eq_true', beq_eq_false_iff_ne, ne_eq, Bool.and_eq_false_iff]
    refine ⟨hqi, ?_⟩
    by_cases e : q.1 + 1 = i
    · exact Or.inr (fun z => h3 ⟨e, z⟩)
    · exact Or.inl e
theorem z_has.set2 {g : z_U} {ls : List (Option Value)} {Ls : Array Slot} {nL i : Nat} {v : Value} (hlen : ls.length = nL) (hok : z_ok1 ls i = true) (hc : v.category = 2)
    (h : lv_has Ls nL ((i, z_val g v) :: (z_as g ls).filter (fun q => !(q.1 == i) && (!(q.1 == i + 1) && !(q.1 + 1 == i && q.2.category == 2))))) : z_has g ((ls.set i (some v)).set (i + 1) none) Ls nL := by
  refine ⟨by simpa using hlen, h.1, h.2.1, fun q hq => h.2.2 q ?_⟩
  obtain ⟨w, h1, h2⟩ := z_as_mem.mp hq
  by_cases hq1 : q.1 = i + 1
  · rw [hq1, List.getElem?_set] at h1
    split at h1
    · split at h1 <;> simp at h1
    · next hne => exact absurd rfl hne
  rw [List.getElem?_set_ne (Ne.symm hq1)] at h1
  by_cases hqi : q.1 = i
  · rw [hqi, List.getElem?_set] at h1
    split at h1
    · split at h1
      · cases h1
        rw [show q = (i, z_val g v) from Prod.ext hqi h2]
        exact List.mem_cons_self
      · cases h1
    · next hne => exact absurd rfl hne
  · rw [List.getElem?_set_ne (Ne.symm hqi)] at h1
    refine List.mem_cons_of_mem _ (List.mem_filter.mpr ⟨z_as_mem.mpr ⟨w, h1, h2⟩, ?_⟩)
    have h3 : ¬ (q.1 + 1 = i ∧ q.2.category = 2) := by
      rintro ⟨e1, e2⟩
      rw [h2, z_cat] at e2
      exact z_ok1_cat hok e1 h1 e2
    simp only [Bool.and_eq_true, Bool.not_eq_true', beq_eq_false_iff_ne, ne_eq, Bool.and_eq_false_iff]
    refine ⟨hqi, hq1, ?_⟩
    by_cases e : q.1 + 1 = i
    · exact Or.inr (fun z => h3 ⟨e, z⟩)
    · exact Or.inl e
