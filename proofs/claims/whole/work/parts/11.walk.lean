/-! THE WALK over numbered cells: what stays for a method's whole body is put into one bundle. -/
abbrev z_X : Type := Program × Env × Room × State × MethodId × Array Value × List Frame × Method × Code × (State → Prop) × Nat
def z_Xp (X : z_X) : Program := X.1
def z_Xe (X : z_X) : Env := X.2.1
def z_XR (X : z_X) : Room := X.2.2.1
def z_Xs (X : z_X) : State := X.2.2.2.1
def z_Xm (X : z_X) : MethodId := X.2.2.2.2.1
def z_Xa (X : z_X) : Array Value := X.2.2.2.2.2.1
def z_Xb (X : z_X) : List Frame := X.2.2.2.2.2.2.1
def z_Xh (X : z_X) : Method := X.2.2.2.2.2.2.2.1
def z_Xc (X : z_X) : Code := X.2.2.2.2.2.2.2.2.1
def z_XQ (X : z_X) : State → Prop := X.2.2.2.2.2.2.2.2.2.1
def z_XL (X : z_X) : Nat := X.2.2.2.2.2.2.2.2.2.2
def z_W (g : z_U) (X : z_X) (pc : Nat) (ls : List (Option Value)) (st : List Value) (cl sl : Nat) (S : z_S) : Prop :=
  ∀ (H : Heap) (locs : List Loc) (Ls : Array Slot), z_Wd g S H → va_S (z_A g) (z_Xs X).heap H locs → z_has g ls Ls (z_XL X) →
    W (z_Xp X) g.1 (z_Xe X) (z_XR X) (z_Xs X) (z_Xm X) (z_Xa X) (z_Xb X) (z_Xh X) (z_Xc X) H locs cl sl (z_XQ X) (F0 (z_Xm X) pc Ls (st.map (z_val g)))
def z_B (g : z_U) (X : z_X) (own : String) (cc : ByteArray) (nL : Nat) : Prop :=
  (z_Xp X).tables.exec = Jvm.exec ∧ (z_Xc X).code = cc ∧ (z_Xc X).maxLocals = nL ∧ (z_Xs X).vm.findClass own = some (z_Xm X).cls ∧ (∀ w ∈ z_tbl, w.before (z_Xa X) (z_Xs X) = true) ∧ z_Kn g (z_Xs X) ∧ z_base g ≤ (z_Xs X).heap.size ∧ z_XL X = nL
/-- written numbers, as numerals -/
def z_k1 {α : Type} (n : Int) (f : Int32 → α) (h : Int32) : α := match n with
  | .ofNat m => match m with
    | 0 => f 0
    | 1 => f 1
    | 2 => f 2
    | 3 => f 3
    | 4 => f 4
    | 5 => f 5
    | _ => f h
  | .negSucc m => match m with
    | 0 => f (-1)
    | _ => f h
def z_k2 {α : Type} (n : Int) (f : Int32 → α) (h : Int32) : α := match n with
  | .ofNat m => match m with
    | 6 => f 6
    | 7 => f 7
    | 8 => f 8
    | 9 => f 9
    | 10 => f 10
    | 11 => f 11
    | 12 => f 12
    | 13 => f 13
    | 14 => f 14
    | 15 => f 15
    | 16 => f 16
    | 17 => f 17
    | 20 => f 20
    | 24 => f 24
    | 28 => f 28
    | 30 => f 30
    | 31 => f 31
    | 32 => f 32
    | 34 => f 34
    | 40 => f 40
    | 44 => f 44
    | 48 => f 48
    | 57 => f 57
    | 59 => f 59
    | 60 => f 60
    | 63 => f 63
    | 99 => f 99
    | 100 => f 100
    | 104 => f 104
    | 113 => f 113
    | 115 => f 115
    | 119 => f 119
    | 126 => f 126
    | _ => f h
  | .negSucc m => match m with
    | 3 => f (-4)
    | 2 => f (-3)
    | 1 => f (-2)
    | _ => f h
def z_k3 {α : Type} (n : Int) (f : Int32 → α) (h : Int32) : α := match n with
  | .ofNat m => match m with
    | 136 => f 136
    | 200 => f 200
    | 255 => f 255
    | 9999 => f 9999
    | _ => f h
  | .negSucc _ => f h
theorem z_k1_eq {α : Type} (n : Int) (f : Int32 → α) : z_k1 n f (Int32.ofInt n) = f (Int32.ofInt n) := by
  unfold z_k1
  split
  · split <;> rfl
  · split <;> rfl
theorem z_k2_eq {α : Type} (n : Int) (f : Int32 → α) : z_k2 n f (Int8.ofInt n).toInt32 = f (Int8.ofInt n).toInt32 := by
  unfold z_k2
  split
  · split <;> rfl
  · first | (split <;> rfl) | rfl
theorem z_k3_eq {α : Type} (n : Int) (f : Int32 → α) : z_k3 n f (Int16.ofInt n).toInt32 = f (Int16.ofInt n).toInt32 := by
  unfold z_k3
  split
  · split <;> rfl
  · first | (split <;> rfl) | rfl
/-- one instruction on stack and locals -/
def z_sx (ins : Instr) (ls : List (Option Value)) (st : List Value) : Option (List (Option Value) × List Value) :=
  match ins with
  | .iconst n => z_k1 n (fun v => some (ls, .int v :: st)) (Int32.ofInt n)
  | .bipush n => z_k2 n (fun v => some (ls, .int v :: st)) (Int8.ofInt n).toInt32
  | .sipush n => z_k3 n (fun v => some (ls, .int v :: st)) (Int16.ofInt n).toInt32
  | .lconst n => some (ls, .long (Int64.ofNat (n : Nat)) :: st)
  | .iload_n k => match ls[(k : Nat)]? with
    | some (some (.int x)) => some (ls, .int x :: st)
    | _ => none
  | .iload k => match ls[k]? with
    | some (some (.int x)) => some (ls, .int x :: st)
    | _ => none
  | .aload_n k => match ls[(k : Nat)]? with
    | some (some (.ref x)) => some (ls, .ref x :: st)
    | _ => none
  | .aload k => match ls[k]? with
    | some (some (.ref x)) => some (ls, .ref x :: st)
    | _ => none
  | .lload_n k => match ls[(k : Nat)]? with
    | some (some (.long x)) => some (ls, .long x :: st)
    | _ => none
  | .lload k => match ls[k]? with
    | some (some (.long x)) => some (ls, .long x :: st)
    | _ => none
  | .istore_n k => match st with
    | .int x :: r => if (z_ok1 ls k && decide ((k : Nat) < ls.length)) = true then some (ls.set k (some (.int x)), r) else none
    | _ => none
  | .istore k => match st with
    | .int x :: r => if (z_ok1 ls k && decide ((k : Nat) < ls.length)) = true then some (ls.set k (some (.int x)), r) else none
    | _ => none
  | .astore_n k => match st with
    | .ref x :: r => if (z_ok1 ls k && decide ((k : Nat) < ls.length)) = true then some (ls.set k (some (.ref x)), r) else none
    | _ => none
  | .astore k => match st with
    | .ref x :: r => if (z_ok1 ls k && decide ((k : Nat) < ls.length)) = true then some (ls.set k (some (.ref x)), r) else none
    | _ => none
  | .lstore_n k => match st with
    | .long x :: r => if (z_ok1 ls k && decide (k + 1 < ls.length)) = true then some ((ls.set k (some (.long x))).set (k + 1) none, r) else none
    | _ => none
  | .lstore k => match st with
    | .long x :: r => if (z_ok1 ls k && decide (k + 1 < ls.length)) = true then some ((ls.set k (some (.long x))).set (k + 1) none, r) else none
    | _ => none
  | .iinc k n => match ls[k]? with
    | some (some (.int x)) => if (z_ok1 ls k && decide ((k : Nat) < ls.length)) = true then z_k1 n (fun v => some (ls.set k (some (.int (x + v))), st)) (Int32.ofInt n) else none
    | _ => none
  | .iadd => match st with
    | .int y :: .int x :: r => some (ls, .int (x + y) :: r)
    | _ => none
  | .isub => match st with
    | .int y :: .int x :: r => some (ls, .int (x - y) :: r)
    | _ => none
  | .imul => match st with
    | .int y :: .int x :: r => some (ls, .int (x * y) :: r)
    | _ => none
  | .iand => match st with
    | .int y :: .int x :: r => some (ls, .int (x &&& y) :: r)
    | _ => none
  | .ior => match st with
    | .int y :: .int x :: r => some (ls, .int (x ||| y) :: r)
    | _ => none
  | .ixor => match st with
    | .int y :: .int x :: r => some (ls, .int (x ^^^ y) :: r)
    | _ => none
  | .ishl => match st with
    | .int y :: .int x :: r => some (ls, .int (x <<< (y &&& 31)) :: r)
    | _ => none
  | .ishr => match st with
    | .int y :: .int x :: r => some (ls, .int (x >>> (y &&& 31)) :: r)
    | _ => none
  | .iushr => match st with
    | .int y :: .int x :: r => some (ls, .int (x.toUInt32 >>> (y.toUInt32 &&& Int32.toUInt32 31)).toInt32 :: r)
    | _ => none
  | .ladd => match st with
    | .long y :: .long x :: r => some (ls, .long (x + y) :: r)
    | _ => none
  | .lmul => match st with
    | .long y :: .long x :: r => some (ls, .long (x * y) :: r)
    | _ => none
  | .i2l => match st with
    | .int x :: r => some (ls, .long x.toInt64 :: r)
    | _ => none
  | .l2i => match st with
    | .long x :: r => some (ls, .int x.toInt32 :: r)
    | _ => none
  | .dup => match st with
    | .int x :: r => some (ls, .int x :: .int x :: r)
    | .ref x :: r => some (ls, .ref x :: .ref x :: r)
    | _ => none
  | .pop => match st with
    | .int x :: r => some (ls, r)
    | .ref x :: r => some (ls, r)
    | _ => none
  | .dup2 => match st with
    | .int y :: .ref x :: r => some (ls, .int y :: .ref x :: .int y :: .ref x :: r)
    | .long x :: r => some (ls, .long x :: .long x :: r)
    | _ => none
  | _ => none
def z_len (ins : Instr) : Nat := match ins with
  | .iload _ | .istore _ | .aload _ | .astore _ | .lload _ | .lstore _ | .bipush _ => 2
  | .sipush _ | .iinc _ _ => 3
  | _ => 1
section ZW
variable {g : z_U} {X : z_X} {own : String} {cc : ByteArray} {nL pc : Nat} {ls ls' : List (Option Value)} {st st' : List Value} {cl sl : Nat} {S : z_S}
set_option maxHeartbeats 4000000 in
theorem z_s (n : Nat) {ins : Instr} (hB : z_B g X own cc nL) (hd : decode cc pc = .ok (ins, z_len ins)) (hs : z_sx ins ls st = some (ls', st')) (hn : pc + z_len ins = n)
    (k : z_W g X n ls' st' cl sl S) : z_W g X pc ls st cl sl S := by
  obtain ⟨hx, hb, hml, -⟩ := hB
  subst hn
  intro H locs Ls hW hS hh
  have hlen := hh.1
  cases ins with
  | iconst n =>
    simp only [z_sx, z_k1_eq] at hs
    cases hs
    exact lv_iconst hx hb hd rfl (k H locs Ls hW hS hh)
  | bipush n =>
    simp only [z_sx, z_k2_eq] at hs
    cases hs
    exact lv_bipush hx hb hd rfl (k H locs Ls hW hS hh)
  | sipush n =>
    simp only [z_sx, z_k3_eq] at hs
    cases hs
    exact lv_sipush hx hb hd rfl (k H locs Ls hW hS hh)
  | lconst n =>
    simp only [z_sx] at hs
    cases hs
    exact lv_lconst hx hb hd rfl (k H locs Ls hW hS hh)
  | iload_n q =>
    simp only [z_sx] at hs
    split at hs
    next x hx' => cases hs; exact lv_iload_n hx hb hd rfl (hh.at hx') (k H locs Ls hW hS hh)
    next => cases hs
  | iload q =>
    simp only [z_sx] at hs
    split at hs
    next x hx' => cases hs; exact lv_iload hx hb hd (hh.at hx') (k H locs Ls hW hS hh)
    next => cases hs
  | aload_n q =>
    simp only [z_sx] at hs
    split at hs
    next x hx' => cases hs; exact lv_aload_n hx hb hd rfl (hh.at hx') (k H locs Ls hW hS hh)
    next => cases hs
  | aload q =>
    simp only [z_sx] at hs
    split at hs
    next x hx' => cases hs; exact lv_aload hx hb hd (hh.at hx') (k H locs Ls hW hS hh)
    next => cases hs
  | lload_n q =>
    simp only [z_sx] at hs
    split at hs
    next x hx' => cases hs; exact lv_lload_n hx hb hd rfl (hh.at hx') (k H locs Ls hW hS hh)
    next => cases hs
  | lload q =>
    simp only [z_sx] at hs
    split at hs
    next x hx' => cases hs; exact lv_lload hx hb hd (hh.at hx') (k H locs Ls hW hS hh)
    next => cases hs
  | istore_n q =>
    simp only [z_sx] at hs
    split at hs
    next x r =>
      split at hs
      next hok =>
        cases hs
        simp only [Bool.and_eq_true, decide_eq_true_eq] at hok
        exact lv_istore_n hx hb hd rfl hh.2 (by omega) rfl (fun Ls' h' => k H locs Ls' hW hS (z_has.set1 (v := .int x) hlen hok.1 rfl h'))
      next => cases hs
    next => cases hs
  | istore q =>
    simp only [z_sx] at hs
    split at hs
    next x r =>
      split at hs
      next hok =>
        cases hs
        simp only [Bool.and_eq_true, decide_eq_true_eq] at hok
        exact lv_istore hx hb hd hh.2 (by omega) rfl (fun Ls' h' => k H locs Ls' hW hS (z_has.set1 (v := .int x) hlen hok.1 rfl h'))
      next => cases hs
    next => cases hs
  | astore_n q =>
    simp only [z_sx] at hs
    split at hs
    next x r =>
      split at hs
      next hok =>
        cases hs
        simp only [Bool.and_eq_true, decide_eq_true_eq] at hok
        exact lv_astore_n hx hb hd rfl hh.2 (by omega) rfl (fun Ls' h' => k H locs Ls' hW hS (z_has.set1 (v := .ref x) hlen hok.1 rfl h'))
      next => cases hs
    next => cases hs
  | astore q =>
    simp only [z_sx] at hs
    split at hs
    next x r =>
      split at hs
      next hok =>
        cases hs
        simp only [Bool.and_eq_true, decide_eq_true_eq] at hok
        exact lv_astore hx hb hd hh.2 (by omega) rfl (fun Ls' h' => k H locs Ls' hW hS (z_has.set1 (v := .ref x) hlen hok.1 rfl h'))
      next => cases hs
    next => cases hs
  | lstore_n q =>
    simp only [z_sx] at hs
    split at hs
    next x r =>
      split at hs
      next hok =>
        cases hs
        simp only [Bool.and_eq_true, decide_eq_true_eq] at hok
        exact lv_lstore_n hx hb hd rfl hh.2 (by omega) rfl (fun Ls' h' => k H locs Ls' hW hS (z_has.set2 (v := .long x) hlen hok.1 rfl h'))
      next => cases hs
    next => cases hs
  | lstore q =>
    simp only [z_sx] at hs
    split at hs
    next x r =>
      split at hs
      next hok =>
        cases hs
        simp only [Bool.and_eq_true, decide_eq_true_eq] at hok
        exact lv_lstore hx hb hd hh.2 (by omega) rfl (fun Ls' h' => k H locs Ls' hW hS (z_has.set2 (v := .long x) hlen hok.1 rfl h'))
      next => cases hs
    next => cases hs
  | iinc q n =>
    simp only [z_sx, z_k1_eq] at hs
    split at hs
    next x hx' =>
      split at hs
      next hok =>
        cases hs
        simp only [Bool.and_eq_true, decide_eq_true_eq] at hok
        obtain ⟨j, hj⟩ := List.getElem?_of_mem (z_as_mem (g := g) (q := (q, .int x)).mpr ⟨.int x, hx', rfl⟩)
        exact lv_iinc hx hb hd hh.2 hj rfl (by omega) rfl (fun Ls' h' => k H locs Ls' hW hS (z_has.set1 (v := .int (x + Int32.ofInt n)) hlen hok.1 rfl h'))
      next => cases hs
    next => cases hs
  | iadd =>
    simp only [z_sx] at hs
    split at hs
    next => cases hs; exact lv_iadd hx hb hd (k H locs Ls hW hS hh)
    next => cases hs
  | isub =>
    simp only [z_sx] at hs
    split at hs
    next => cases hs; exact lv_isub hx hb hd (k H locs Ls hW hS hh)
    next => cases hs
  | imul =>
    simp only [z_sx] at hs
    split at hs
    next => cases hs; exact lv_imul hx hb hd (k H locs Ls hW hS hh)
    next => cases hs
  | iand =>
    simp only [z_sx] at hs
    split at hs
    next => cases hs; exact lv_iand hx hb hd (k H locs Ls hW hS hh)
    next => cases hs
  | ior =>
    simp only [z_sx] at hs
    split at hs
    next => cases hs; exact lv_ior hx hb hd (k H locs Ls hW hS hh)
    next => cases hs
  | ixor =>
    simp only [z_sx] at hs
    split at hs
    next => cases hs; exact lv_ixor hx hb hd (k H locs Ls hW hS hh)
    next => cases hs
  | ishl =>
    simp only [z_sx] at hs
    split at hs
    next => cases hs; exact lv_ishl hx hb hd (k H locs Ls hW hS hh)
    next => cases hs
  | ishr =>
    simp only [z_sx] at hs
    split at hs
    next => cases hs; exact lv_ishr hx hb hd (k H locs Ls hW hS hh)
    next => cases hs
  | ladd =>
    simp only [z_sx] at hs
    split at hs
    next => cases hs; exact lv_ladd hx hb hd (k H locs Ls hW hS hh)
    next => cases hs
  | lmul =>
    simp only [z_sx] at hs
    split at hs
    next => cases hs; exact lv_lmul hx hb hd (k H locs Ls hW hS hh)
    next => cases hs
  | iushr =>
    simp only [z_sx] at hs
    split at hs
    next => cases hs; exact lv_iushr hx hb hd rfl (k H locs Ls hW hS hh)
    next => cases hs
  | i2l =>
    simp only [z_sx] at hs
    split at hs
    next => cases hs; exact lv_i2l hx hb hd rfl (k H locs Ls hW hS hh)
    next => cases hs
  | l2i =>
    simp only [z_sx] at hs
    split at hs
    next => cases hs; exact lv_l2i hx hb hd rfl (k H locs Ls hW hS hh)
    next => cases hs
  | dup =>
    simp only [z_sx] at hs
    split at hs
    next => cases hs; exact lv_dup hx hb hd rfl (k H locs Ls hW hS hh)
    next => cases hs; exact lv_dup hx hb hd rfl (k H locs Ls hW hS hh)
    next => cases hs
  | pop =>
    simp only [z_sx] at hs
    split at hs
    next => cases hs; exact lv_pop hx hb hd rfl (k H locs Ls hW hS hh)
    next => cases hs; exact lv_pop hx hb hd rfl (k H locs Ls hW hS hh)
    next => cases hs
  | dup2 =>
    simp only [z_sx] at hs
    split at hs
    next => cases hs; exact lv_dup2_11 hx hb hd rfl rfl (k H locs Ls hW hS hh)
    next => cases hs; exact lv_dup2_2 hx hb hd rfl (k H locs Ls hW hS hh)
    next => cases hs
  | _ => simp [z_sx] at hs
theorem z_lt1 {x y : Int32} (h : ¬ x ≤ y) : y < x := Int32.not_le.mp h
theorem z_le1 {x y : Int32} (h : ¬ x < y) : y ≤ x := Int32.not_lt.mp h
/-- branches: what holds where it is taken, and where it isn't; the offset; what stays -/
def z_bx (ins : Instr) (st : List Value) : Option (Prop × Prop × Int × List Value) :=
  match ins with
  | .ifCond .eq o => match st with
    | .int x :: r => some (x = 0, ¬ x = 0, o, r)
    | _ => none
  | .ifCond .ne o => match st with
    | .int x :: r => some (¬ x = 0, x = 0, o, r)
    | _ => none
  | .ifCond .lt o => match st with
    | .int x :: r => some (x < 0, 0 ≤ x, o, r)
    | _ => none
  | .ifCond .ge o => match st with
    | .int x :: r => some (0 ≤ x, x < 0, o, r)
    | _ => none
  | .ifCond .gt o => match st with
    | .int x :: r => some (0 < x, x ≤ 0, o, r)
    | _ => none
  | .ifCond .le o => match st with
    | .int x :: r => some (x ≤ 0, 0 < x, o, r)
    | _ => none
  | .if_icmp .eq o => match st with
    | .int y :: .int x :: r => some (x = y, ¬ x = y, o, r)
    | _ => none
  | .if_icmp .ne o => match st with
    | .int y :: .int x :: r => some (¬ x = y, x = y, o, r)
    | _ => none
  | .if_icmp .lt o => match st with
    | .int y :: .int x :: r => some (x < y, y ≤ x, o, r)
    | _ => none
  | .if_icmp .ge o => match st with
    | .int y :: .int x :: r => some (y ≤ x, x < y, o, r)
    | _ => none
  | .if_icmp .gt o => match st with
    | .int y :: .int x :: r => some (y < x, x ≤ y, o, r)
    | _ => none
  | .if_icmp .le o => match st with
    | .int y :: .int x :: r => some (x ≤ y, y < x, o, r)
    | _ => none
  | .ifnull o => match st with
    | .ref x :: r => some (False, True, o, r)
    | .null :: r => some (True, False, o, r)
    | _ => none
  | _ => none
set_option maxHeartbeats 4000000 in
theorem z_b (n t : Nat) {ins : Instr} {c c' : Prop} {off : Int} (hB : z_B g X own cc nL) (hd : decode cc pc = .ok (ins, 3)) (hs : z_bx ins st = some (c, c', off, st')) (hn : pc + 3 = n) (ht : (pc : Int) + off = (t : Int))
    (kt : c → z_W g X t ls st' cl sl S) (kf : c' → z_W g X n ls st' cl sl S) : z_W g X pc ls st cl sl S := by
  obtain ⟨hx, hb, hml, -⟩ := hB
  subst hn
  intro H locs Ls hW hS hh
  cases ins with
  | ifCond q o =>
    cases q with
    | eq =>
      simp only [z_bx] at hs
      split at hs
      next => cases hs; exact lv_if_eq hx hb hd ht (fun h => kt h H locs Ls hW hS hh) (fun h => kf h H locs Ls hW hS hh)
      next => cases hs
    | ne =>
      simp only [z_bx] at hs
      split at hs
      next => cases hs; exact lv_if_ne hx hb hd ht (fun h => kt h H locs Ls hW hS hh) (fun h => kf h H locs Ls hW hS hh)
      next => cases hs
    | lt =>
      simp only [z_bx] at hs
      split at hs
      next => cases hs; exact lv_if_lt hx hb hd ht (fun h => kt h H locs Ls hW hS hh) (fun h => kf (z_le1 h) H locs Ls hW hS hh)
      next => cases hs
    | ge =>
      simp only [z_bx] at hs
      split at hs
      next => cases hs; exact lv_if_ge hx hb hd ht (fun h => kt h H locs Ls hW hS hh) (fun h => kf (z_lt1 h) H locs Ls hW hS hh)
      next => cases hs
    | gt =>
      simp only [z_bx] at hs
      split at hs
      next => cases hs; exact lv_if_gt hx hb hd ht (fun h => kt h H locs Ls hW hS hh) (fun h => kf (z_le1 h) H locs Ls hW hS hh)
      next => cases hs
    | le =>
      simp only [z_bx] at hs
      split at hs
      next => cases hs; exact lv_if_le hx hb hd ht (fun h => kt h H locs Ls hW hS hh) (fun h => kf (z_lt1 h) H locs Ls hW hS hh)
      next => cases hs
  | if_icmp q o =>
    cases q with
    | eq =>
      simp only [z_bx] at hs
      split at hs
      next => cases hs; exact lv_icmp_eq hx hb hd ht (fun h => kt h H locs Ls hW hS hh) (fun h => kf h H locs Ls hW hS hh)
      next => cases hs
    | ne =>
      simp only [z_bx] at hs
      split at hs
      next => cases hs; exact lv_icmp_ne hx hb hd ht (fun h => kt h H locs Ls hW hS hh) (fun h => kf h H locs Ls hW hS hh)
      next => cases hs
    | lt =>
      simp only [z_bx] at hs
      split at hs
      next => cases hs; exact lv_icmp_lt hx hb hd ht (fun h => kt h H locs Ls hW hS hh) (fun h => kf (z_le1 h) H locs Ls hW hS hh)
      next => cases hs
    | ge =>
      simp only [z_bx] at hs
      split at hs
      next => cases hs; exact lv_icmp_ge hx hb hd ht (fun h => kt h H locs Ls hW hS hh) (fun h => kf (z_lt1 h) H locs Ls hW hS hh)
      next => cases hs
    | gt =>
      simp only [z_bx] at hs
      split at hs
      next => cases hs; exact lv_icmp_gt hx hb hd ht (fun h => kt h H locs Ls hW hS hh) (fun h => kf (z_le1 h) H locs Ls hW hS hh)
      next => cases hs
    | le =>
      simp only [z_bx] at hs
      split at hs
      next => cases hs; exact lv_icmp_le hx hb hd ht (fun h => kt h H locs Ls hW hS hh) (fun h => kf (z_lt1 h) H locs Ls hW hS hh)
      next => cases hs
  | ifnull o =>
    simp only [z_bx] at hs
    split at hs
    next => cases hs; exact lv_ifnull hx hb hd (kf trivial H locs Ls hW hS hh)
    next => cases hs; exact lv_ifnullN hx hb hd ht (kt trivial H locs Ls hW hS hh)
    next => cases hs
  | _ => simp [z_bx] at hs
theorem z_j (t : Nat) {off : Int} (hB : z_B g X own cc nL) (hd : decode cc pc = .ok (.goto off, 3)) (ht : (pc : Int) + off = (t : Int)) (k : z_W g X t ls st cl sl S) : z_W g X pc ls st cl sl S :=
  fun H locs Ls hW hS hh => lv_goto hB.1 hB.2.1 hd ht (k H locs Ls hW hS hh)
theorem z_irem (n : Nat) {x y : Int32} (hB : z_B g X own cc nL) (hd : decode cc pc = .ok (.irem, 1)) (hn : pc + 1 = n) (hy : ¬ y = 0) (k : z_W g X n ls (.int (x - x / y * y) :: st) cl sl S) : z_W g X pc ls (.int y :: .int x :: st) cl sl S := by
  subst hn
  exact fun H locs Ls hW hS hh => lv_irem hB.1 hB.2.1 hd hy (k H locs Ls hW hS hh)
theorem z_idiv (n : Nat) {x y : Int32} (hB : z_B g X own cc nL) (hd : decode cc pc = .ok (.idiv, 1)) (hn : pc + 1 = n) (hy : ¬ y = 0) (k : z_W g X n ls (.int (x / y) :: st) cl sl S) : z_W g X pc ls (.int y :: .int x :: st) cl sl S := by
  subst hn
  exact fun H locs Ls hW hS hh => lv_idiv hB.1 hB.2.1 hd hy (k H locs Ls hW hS hh)
theorem z_lrem (n : Nat) {x y : Int64} (hB : z_B g X own cc nL) (hd : decode cc pc = .ok (.lrem, 1)) (hn : pc + 1 = n) (hy : ¬ y = 0) (k : z_W g X n ls (.long (x - x / y * y) :: st) cl sl S) : z_W g X pc ls (.long y :: .long x :: st) cl sl S := by
  subst hn
  exact fun H locs Ls hW hS hh => lv_lrem hB.1 hB.2.1 hd hy (k H locs Ls hW hS hh)
theorem z_ldiv (n : Nat) {x y : Int64} (hB : z_B g X own cc nL) (hd : decode cc pc = .ok (.ldiv, 1)) (hn : pc + 1 = n) (hy : ¬ y = 0) (k : z_W g X n ls (.long (x / y) :: st) cl sl S) : z_W g X pc ls (.long y :: .long x :: st) cl sl S := by
  subst hn
  exact fun H locs Ls hW hS hh => lv_ldiv hB.1 hB.2.1 hd hy (k H locs Ls hW hS hh)
theorem z_ldc (n : Nat) {idx : Nat} {v : Int32} (hB : z_B g X own cc nL) (hm : Cond.constant own idx v ∈ z_tbl) (hd : decode cc pc = .ok (.ldc idx, 2)) (hn : pc + 2 = n) (k : z_W g X n ls (.int v :: st) cl sl S) : z_W g X pc ls st cl sl S := by
  subst hn
  exact fun H locs Ls hW hS hh => lv_ldc hB.1 hB.2.1 hB.2.2.2.1 (hB.2.2.2.2.1 _ hm) hd (k H locs Ls hW hS hh)
theorem z_ldcw (n : Nat) {idx : Nat} {v : Int32} (hB : z_B g X own cc nL) (hm : Cond.constant own idx v ∈ z_tbl) (hd : decode cc pc = .ok (.ldc_w idx, 3)) (hn : pc + 3 = n) (k : z_W g X n ls (.int v :: st) cl sl S) : z_W g X pc ls st cl sl S := by
  subst hn
  exact fun H locs Ls hW hS hh => lv_ldcw hB.1 hB.2.1 hB.2.2.2.1 (hB.2.2.2.2.1 _ hm) hd (k H locs Ls hW hS hh)
theorem z_ldc2 (n : Nat) {idx : Nat} {v : Int64} (hB : z_B g X own cc nL) (hm : Cond.constantLong own idx v ∈ z_tbl) (hd : decode cc pc = .ok (.ldc2_w idx, 3)) (hn : pc + 3 = n) (k : z_W g X n ls (.long v :: st) cl sl S) : z_W g X pc ls st cl sl S := by
  subst hn
  exact fun H locs Ls hW hS hh => lv_ldc2 hB.1 hB.2.1 hB.2.2.2.1 (hB.2.2.2.2.1 _ hm) hd (k H locs Ls hW hS hh)
theorem z_tsw {x : Int32} {dflt lo hi : Int} {offs : Array Int} {len : Nat} (hB : z_B g X own cc nL) (hd : decode cc pc = .ok (.tableswitch dflt lo hi offs, len)) (t : Nat) (ht : (pc : Int) + (if x.toInt < lo ∨ hi < x.toInt then dflt else (offs[(x.toInt - lo).toNat]?).getD dflt) = (t : Int)) (hok : lo ≤ x.toInt → x.toInt ≤ hi → (x.toInt - lo).toNat < offs.size)
    (k : z_W g X t ls st cl sl S) : z_W g X pc ls (.int x :: st) cl sl S := by
  intro H locs Ls hW hS hh
  by_cases h : x.toInt < lo ∨ hi < x.toInt
  · rw [if_pos h] at ht
    exact lv_tableOut hB.1 hB.2.1 hd h ht (k H locs Ls hW hS hh)
  · rw [if_neg h] at ht
    have h1 : ¬ x.toInt < lo := fun q => h (Or.inl q)
    have h2 : ¬ hi < x.toInt := fun q => h (Or.inr q)
    have h3 := hok (by omega) (by omega)
    rw [Array.getElem?_eq_getElem h3] at ht
    exact lv_tableIn hB.1 hB.2.1 hd h1 h2 (Array.getElem?_eq_getElem h3) ht (k H locs Ls hW hS hh)
theorem z_lsw {x : Int32} {dflt : Int} {ps : Array (Int × Int)} {len : Nat} (hB : z_B g X own cc nL) (hd : decode cc pc = .ok (.lookupswitch dflt ps, len)) (t : Nat) (hp : (ps.toList.zip (ps.toList.drop 1)).all (fun (a, next) => a.1 < next.1) = true) (ht : (pc : Int) + Op.lookupswitch.offset ps.toList dflt x.toInt = (t : Int))
    (k : z_W g X t ls st cl sl S) : z_W g X pc ls (.int x :: st) cl sl S :=
  fun H locs Ls hW hS hh => lv_lookup hB.1 hB.2.1 hd hp rfl ht (k H locs Ls hW hS hh)
end ZW
