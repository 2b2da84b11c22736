/-! what links say -/
def z_cl : List vw_C := [(RX0, TX0, 2), (RX1, TX1, 9), (RX2, TX2, 4), (RX3, TX3, 1), (RX4, TX4, 2), (RX5, TX5, 13), (RX6, TX6, 4), (RX7, TX7, 7), (RX8, TX8, 2), (RX9, TX9, 11), (RX10, TX10, 30)]
def z_isNest : Cond → Bool
  | .fieldLinkNest .. => true
  | .methodLinkNest .. => true
  | _ => false
def z_tbl : List Cond := lw_tbl.filter goodWord
def z_nst : List Cond := lw_tbl.filter z_isNest
theorem z_tblI {w : Cond} (i : Nat) (h : lw_tbl[i]? = some w) (hg : goodWord w = true) : w ∈ z_tbl := List.mem_filter.mpr ⟨List.mem_of_getElem? h, hg⟩
theorem z_nstI {w : Cond} (i : Nat) (h : lw_tbl[i]? = some w) (hg : z_isNest w = true) : w ∈ z_nst := List.mem_filter.mpr ⟨List.mem_of_getElem? h, hg⟩
theorem z_tb1 {w : Cond} (i : Nat) (h : tables_1_1[i]? = some w) (hg : goodWord w = true) : w ∈ z_tbl := List.mem_filter.mpr ⟨List.mem_append_right _ (List.mem_append_left _ (List.mem_of_getElem? h)), hg⟩
theorem z_ns1 {w : Cond} (i : Nat) (h : tables_1_1[i]? = some w) (hg : z_isNest w = true) : w ∈ z_nst := List.mem_filter.mpr ⟨List.mem_append_right _ (List.mem_append_left _ (List.mem_of_getElem? h)), hg⟩
theorem z_tb2 {w : Cond} (i : Nat) (h : tables_1_2[i]? = some w) (hg : goodWord w = true) : w ∈ z_tbl := List.mem_filter.mpr ⟨List.mem_append_right _ (List.mem_append_right _ (List.mem_append_left _ (List.mem_of_getElem? h))), hg⟩
theorem z_ns2 {w : Cond} (i : Nat) (h : tables_1_2[i]? = some w) (hg : z_isNest w = true) : w ∈ z_nst := List.mem_filter.mpr ⟨List.mem_append_right _ (List.mem_append_right _ (List.mem_append_left _ (List.mem_of_getElem? h))), hg⟩
theorem z_tb3 {w : Cond} (i : Nat) (h : tables_1_3[i]? = some w) (hg : goodWord w = true) : w ∈ z_tbl := List.mem_filter.mpr ⟨List.mem_append_right _ (List.mem_append_right _ (List.mem_append_right _ (List.mem_append_left _ (List.mem_of_getElem? h)))), hg⟩
theorem z_ns3 {w : Cond} (i : Nat) (h : tables_1_3[i]? = some w) (hg : z_isNest w = true) : w ∈ z_nst := List.mem_filter.mpr ⟨List.mem_append_right _ (List.mem_append_right _ (List.mem_append_right _ (List.mem_append_left _ (List.mem_of_getElem? h)))), hg⟩
theorem z_tb4 {w : Cond} (i : Nat) (h : tables_1_4[i]? = some w) (hg : goodWord w = true) : w ∈ z_tbl := List.mem_filter.mpr ⟨List.mem_append_right _ (List.mem_append_right _ (List.mem_append_right _ (List.mem_append_right _ (List.mem_append_left _ (List.mem_of_getElem? h))))), hg⟩
theorem z_ns4 {w : Cond} (i : Nat) (h : tables_1_4[i]? = some w) (hg : z_isNest w = true) : w ∈ z_nst := List.mem_filter.mpr ⟨List.mem_append_right _ (List.mem_append_right _ (List.mem_append_right _ (List.mem_append_right _ (List.mem_append_left _ (List.mem_of_getElem? h))))), hg⟩
theorem z_tb5 {w : Cond} (i : Nat) (h : tables_1_5[i]? = some w) (hg : goodWord w = true) : w ∈ z_tbl := List.mem_filter.mpr ⟨List.mem_append_right _ (List.mem_append_right _ (List.mem_append_right _ (List.mem_append_right _ (List.mem_append_right _ (List.mem_of_getElem? h))))), hg⟩
theorem z_ns5 {w : Cond} (i : Nat) (h : tables_1_5[i]? = some w) (hg : z_isNest w = true) : w ∈ z_nst := List.mem_filter.mpr ⟨List.mem_append_right _ (List.mem_append_right _ (List.mem_append_right _ (List.mem_append_right _ (List.mem_append_right _ (List.mem_of_getElem? h))))), hg⟩
def z_FL (own : String) (idx ci k : Nat) : Prop := ∃ q : vw_C, z_cl[ci]? = some q ∧ k < q.2.2 ∧ (q.2.1 k).1 = q.1 ∧ (Cond.fieldLink own idx q.1 (q.2.1 k).2.1 (q.2.1 k).2.2.1 ∈ z_tbl ∨ ∃ host, Cond.fieldLinkNest own idx q.1 (q.2.1 k).2.1 (q.2.1 k).2.2.1 host ∈ z_nst)
def z_ML (own : String) (idx : Nat) (M : z_M) (np : Nat) : Prop :=
  (Cond.methodLink own idx M.1 ∈ z_tbl ∨ ∃ host, Cond.methodLinkNest own idx M.1 host ∈ z_nst) ∧ Cond.code M.1 M.2.1 M.2.2.1 M.2.2.2 ∈ z_tbl ∧ Cond.initialized M.1.cls ∈ z_tbl ∧ (M.1.cls ≠ "java/lang/invoke/MethodHandle" ∧ M.1.cls ≠ "java/lang/invoke/VarHandle" ∧ (parseMethodDescriptor M.1.desc).map (fun d => d.parameters.length) = some np) ∧ M.2.2.1 ≤ 15
def z_MS (own : String) (idx : Nat) (M : z_M) (np : Nat) : Prop := z_ML own idx M np ∧ Cond.static M.1 ∈ z_tbl
def z_MV (own : String) (idx : Nat) (M : z_M) (np : Nat) : Prop := z_ML own idx M np ∧ Cond.instanceMethod M.1 ∈ z_tbl ∧ Cond.selects M.1.cls M.1 M.1 ∈ z_tbl
def z_MI (own : String) (idx : Nat) (M : z_M) (np : Nat) : Prop := z_ML own idx M np ∧ Cond.instanceMethod M.1 ∈ z_tbl ∧ M.1.name = "<init>" ∧ M.2.2.2 = none
def z_CL (own : String) (idx ci : Nat) : Prop := ∃ q : vw_C, z_cl[ci]? = some q ∧ Cond.classLink own idx q.1 ∈ z_tbl ∧ Cond.instantiable q.1 q.2.2 ∈ z_tbl ∧ Cond.initialized q.1 ∈ z_tbl
