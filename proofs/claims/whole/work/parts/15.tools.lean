/-! tools: states, loops, numbers -/
def z_up (S : z_S) (f : Nat → Nat → Int32) : z_S := (S.1, f, S.2.2)
theorem z_up_id (S : z_S) : z_up S (z_I S) = S := rfl
theorem z_up_I (S : z_S) (f : Nat → Nat → Int32) : z_I (z_up S f) = f := rfl
theorem z_up_up (S : z_S) (f h : Nat → Nat → Int32) : z_up (z_up S f) h = z_up S h := rfl
theorem z_pI_up (S : z_S) (o k : Nat) (v : Int32) : z_pI S o k v = z_up S (z_u2 (z_I S) o k v) := rfl
theorem z_eq {g : z_U} {X : z_X} {pc : Nat} {ls ls' : List (Option Value)} {st st' : List Value} {cl sl : Nat} {S S' : z_S} (h : z_W g X pc ls' st' cl sl S') (h1 : ls = ls') (h2 : st = st') (h3 : S = S') : z_W g X pc ls st cl sl S := by
  subst h1; subst h2; subst h3; exact h
theorem z_loop (P : Nat → Prop) (N : Nat) (step : ∀ j, j ≤ N → (j < N → P (j + 1)) → P j) : ∀ j, j ≤ N → P j := by
  have key : ∀ m j, j + m = N → P j := by
    intro m
    induction m with
    | zero => intro j h; exact step j (by omega) (fun q => by omega)
    | succ m ih => intro j h; exact step j (by omega) (fun _ => ih (j + 1) (by omega))
  intro j h
  exact key (N - j) j (by omega)
def z_row (S : z_S) (o a n : Nat) : Prop := z_is S o (0, 3) ∧ z_R S o 0 = some a ∧ z_is S a (1, n)
/-- what a row answers at i -/
def z_rd (I : Nat → Nat → Int32) (a n : Nat) (i : Int32) : Int32 := if 0 ≤ i ∧ i < nI n then I a i.toNatClampNeg else 0
theorem z_ge0 {x : Int32} (h : ¬ x < 0) : 0 ≤ x := Int32.not_lt.mp h
theorem z_vin {i : Int32} {n : Nat} (hn : n < 2 ^ 31) (h0 : ¬ i < 0) (h1 : i < nI n) : vp_in i n := by
  obtain ⟨j, hj, rfl⟩ := nI_of h0
  exact vp_in_nI ((nI_ltI hj hn).mp h1) hn
theorem z_nlt0 {x y : Int32} (h : x ≤ y) : ¬ y < x := Int32.not_lt.mpr h
theorem z_nle0 {x y : Int32} (h : x < y) : ¬ y ≤ x := Int32.not_le.mpr h
theorem z_inc (j : Nat) : nI j + 1 = nI (j + 1) := nI_1 j
theorem z_u2_same {α : Type} (f : Nat → Nat → α) (o k : Nat) (v : α) : z_u2 f o k v o k = v := by simp [z_u2]
theorem z_u2_ne {α : Type} {f : Nat → Nat → α} {o k o' k' : Nat} {v : α} (h : o' ≠ o ∨ k' ≠ k) : z_u2 f o k v o' k' = f o' k' := by
  unfold z_u2
  rw [if_neg (by rintro ⟨h1, h2⟩; rcases h with h | h <;> contradiction)]
/-- a whole row set -/
def z_sa (I : Nat → Nat → Int32) (a n : Nat) (f : Nat → Int32) : Nat → Nat → Int32 := fun o k => if o = a ∧ k < n then f k else I o k
theorem z_sa_0 (I : Nat → Nat → Int32) (a : Nat) (f : Nat → Int32) : z_sa I a 0 f = I := by funext o k; simp [z_sa]
theorem z_sa_succ (I : Nat → Nat → Int32) (a n : Nat) (f : Nat → Int32) : z_u2 (z_sa I a n f) a n (f n) = z_sa I a (n + 1) f := by
  funext o k
  simp only [z_u2, z_sa]
  by_cases ho : o = a
  · subst ho
    by_cases hk : k = n
    · subst hk; simp
    · simp only [hk, and_false, if_false, true_and]
      by_cases h : k < n
      · rw [if_pos h, if_pos (by omega)]
      · rw [if_neg h, if_neg (by omega)]
  · simp [ho]
theorem z_sa_off {I : Nat → Nat → Int32} {a n o k : Nat} {f : Nat → Int32} (h : o ≠ a) : z_sa I a n f o k = I o k := by simp [z_sa, h]
theorem z_row.up {S : z_S} {o a n : Nat} {f : Nat → Nat → Int32} (h : z_row S o a n) : z_row (z_up S f) o a n := h
theorem z_row.pI {S : z_S} {o a n o' k : Nat} {v : Int32} (h : z_row S o a n) : z_row (z_pI S o' k v) o a n := h
/-- the JDK's count of bits, as it counts -/
def z_bc (x : Int32) : Int32 :=
  let a := x - ((x.toUInt32 >>> ((1 : Int32).toUInt32 &&& Int32.toUInt32 31)).toInt32 &&& 1431655765)
  let b := (a &&& 858993459) + ((a.toUInt32 >>> ((2 : Int32).toUInt32 &&& Int32.toUInt32 31)).toInt32 &&& 858993459)
  let c := (b + (b.toUInt32 >>> ((4 : Int32).toUInt32 &&& Int32.toUInt32 31)).toInt32) &&& 252645135
  let d := c + (c.toUInt32 >>> ((8 : Int32).toUInt32 &&& Int32.toUInt32 31)).toInt32
  let e := d + (d.toUInt32 >>> ((16 : Int32).toUInt32 &&& Int32.toUInt32 31)).toInt32
  e &&& 63
def z_wakes (way pence kind : Int32) : Int32 := if way = 0 then (if kind = 2 ∨ kind = 1 ∧ 10 < pence then 1 else 0) else if way = 1 then (if kind = 0 then 1 else 0) else if way = 2 then (if kind = 3 then 1 else 0) else 0
def z_draw (z k : Int32) : Int32 :=
  let x : Int64 := 7919 * z.toInt64 + 6151 * k.toInt64 + 1
  ((x * x - x * x / 65521 * 65521) / 2).toInt32
