/-! the model: what its cells tell; text, sightings -/
/-- the quarrel of a and b in the word -/
def z_qb (w_z : Int32) (a_z b_z : Nat) : Bool := if a_z = b_z then false else z_hb w_z (if a_z < b_z then 6 * a_z + b_z else 6 * b_z + a_z)
/-- with whom a has a quarrel, the first k looked at -/
def z_qr (w_z : Int32) (a_z : Nat) : Nat → Int32
  | 0 => 0
  | k_z + 1 => z_qr w_z a_z k_z ||| (if z_qb w_z a_z k_z then 1 <<< (nI k_z &&& 31) else 0)
/-- the model's row o, from f on, tells the state -/
def z_rW (zI : Nat → Nat → Int32) (o f_z : Nat) (zT : Nat → Int32) : Prop := (zI o f_z = zT 0) ∧ (zI o (f_z + 1) = zT 1) ∧ (zI o (f_z + 2) = zT 2) ∧ (zI o (f_z + 3) = zT 3) ∧ (zI o (f_z + 4) = zT 5) ∧ (∀ a_z, a_z < 6 → zI o (f_z + 5 + a_z) = z_qr (zT 4) a_z 6) ∧ (∀ k_z, k_z < 6 → zI o (f_z + 11 + k_z) = zT (6 + k_z))
theorem z_rW.a0 {zI : Nat → Nat → Int32} {o f_z : Nat} {zT : Nat → Int32} (h_z : z_rW zI o f_z zT) : zI o f_z = zT 0 := h_z.1
theorem z_rW.a1 {zI : Nat → Nat → Int32} {o f_z : Nat} {zT : Nat → Int32} (h_z : z_rW zI o f_z zT) : zI o (f_z + 1) = zT 1 := h_z.2.1
theorem z_rW.a2 {zI : Nat → Nat → Int32} {o f_z : Nat} {zT : Nat → Int32} (h_z : z_rW zI o f_z zT) : zI o (f_z + 2) = zT 2 := h_z.2.2.1
theorem z_rW.a3 {zI : Nat → Nat → Int32} {o f_z : Nat} {zT : Nat → Int32} (h_z : z_rW zI o f_z zT) : zI o (f_z + 3) = zT 3 := h_z.2.2.2.1
theorem z_rW.a4 {zI : Nat → Nat → Int32} {o f_z : Nat} {zT : Nat → Int32} (h_z : z_rW zI o f_z zT) : zI o (f_z + 4) = zT 5 := h_z.2.2.2.2.1
theorem z_rW.aq {zI : Nat → Nat → Int32} {o f_z : Nat} {zT : Nat → Int32} (h_z : z_rW zI o f_z zT) : ∀ a_z, a_z < 6 → zI o (f_z + 5 + a_z) = z_qr (zT 4) a_z 6 := h_z.2.2.2.2.2.1
theorem z_rW.aw {zI : Nat → Nat → Int32} {o f_z : Nat} {zT : Nat → Int32} (h_z : z_rW zI o f_z zT) : ∀ k_z, k_z < 6 → zI o (f_z + 11 + k_z) = zT (6 + k_z) := h_z.2.2.2.2.2.2
theorem z_rW.fr {zI zI' : Nat → Nat → Int32} {o f_z : Nat} {zT : Nat → Int32} (h_z : z_rW zI o f_z zT) (hf : ∀ k_z, f_z ≤ k_z → k_z < f_z + 17 → zI' o k_z = zI o k_z) : z_rW zI' o f_z zT :=
  ⟨(hf _ (by omega) (by omega)).trans h_z.a0, (hf _ (by omega) (by omega)).trans h_z.a1, (hf _ (by omega) (by omega)).trans h_z.a2, (hf _ (by omega) (by omega)).trans h_z.a3, (hf _ (by omega) (by omega)).trans h_z.a4, fun a_z ha_z => (hf _ (by omega) (by omega)).trans (h_z.aq a_z ha_z), fun k_z hk => (hf _ (by omega) (by omega)).trans (h_z.aw k_z hk)⟩
/-- the model's cells tell A -/
def z_RM (zI : Nat → Nat → Int32) (A_z : z_Ab) : Prop := (zI 99 0 = nI (z_AX A_z).2) ∧ (∀ k_z, k_z < (z_AX A_z).2 → zI 100 k_z = (z_AX A_z).1 k_z) ∧ (zI 99 10 = nI (z_AV A_z).2.1) ∧ (zI 99 11 = nI (z_AV A_z).2.2.1) ∧ (zI 99 12 = (z_AV A_z).2.2.2) ∧ (∀ s_z, s_z < (z_AV A_z).2.1 → ∀ k_z, k_z < 4 → zI 104 (4 * s_z + k_z) = (z_AV A_z).1 k_z s_z) ∧ (∀ c_z, c_z < (z_AV A_z).2.2.1 → ∀ k_z, k_z < 4 → zI 105 (4 * c_z + k_z) = (z_AV A_z).1 (4 + k_z) c_z) ∧ (z_rW zI 106 0 (z_AT A_z)) ∧ (zI 99 18 = nI (z_AU A_z).2) ∧ (∀ j_z, j_z < (z_AU A_z).2 → z_rW zI 108 (17 * j_z) ((z_AU A_z).1 j_z)) ∧ (zI 99 20 = nI (z_AK A_z).2) ∧ (∀ j_z, j_z < (z_AK A_z).2 → z_rW zI 109 (17 * j_z) ((z_AK A_z).1 j_z)) ∧ (zI 99 21 = nI (z_AS A_z).2.2.2) ∧ (∀ i_z, i_z < (z_AS A_z).2.2.2 → zI 110 (3 * i_z) = (z_AS A_z).1 i_z ∧ zI 110 (3 * i_z + 1) = (z_AS A_z).2.1 i_z ∧ zI 110 (3 * i_z + 2) = (z_AS A_z).2.2.1 i_z)
theorem z_RM.xl {zI : Nat → Nat → Int32} {A_z : z_Ab} (h_z : z_RM zI A_z) : zI 99 0 = nI (z_AX A_z).2 := h_z.1
theorem z_RM.xs {zI : Nat → Nat → Int32} {A_z : z_Ab} (h_z : z_RM zI A_z) : ∀ k_z, k_z < (z_AX A_z).2 → zI 100 k_z = (z_AX A_z).1 k_z := h_z.2.1
theorem z_RM.sn {zI : Nat → Nat → Int32} {A_z : z_Ab} (h_z : z_RM zI A_z) : zI 99 10 = nI (z_AV A_z).2.1 := h_z.2.2.1
theorem z_RM.sm {zI : Nat → Nat → Int32} {A_z : z_Ab} (h_z : z_RM zI A_z) : zI 99 11 = nI (z_AV A_z).2.2.1 := h_z.2.2.2.1
theorem z_RM.sd {zI : Nat → Nat → Int32} {A_z : z_Ab} (h_z : z_RM zI A_z) : zI 99 12 = (z_AV A_z).2.2.2 := h_z.2.2.2.2.1
theorem z_RM.so {zI : Nat → Nat → Int32} {A_z : z_Ab} (h_z : z_RM zI A_z) : ∀ s_z, s_z < (z_AV A_z).2.1 → ∀ k_z, k_z < 4 → zI 104 (4 * s_z + k_z) = (z_AV A_z).1 k_z s_z := h_z.2.2.2.2.2.1
theorem z_RM.sg {zI : Nat → Nat → Int32} {A_z : z_Ab} (h_z : z_RM zI A_z) : ∀ c_z, c_z < (z_AV A_z).2.2.1 → ∀ k_z, k_z < 4 → zI 105 (4 * c_z + k_z) = (z_AV A_z).1 (4 + k_z) c_z := h_z.2.2.2.2.2.2.1
theorem z_RM.nw {zI : Nat → Nat → Int32} {A_z : z_Ab} (h_z : z_RM zI A_z) : z_rW zI 106 0 (z_AT A_z) := h_z.2.2.2.2.2.2.2.1
theorem z_RM.bl {zI : Nat → Nat → Int32} {A_z : z_Ab} (h_z : z_RM zI A_z) : zI 99 18 = nI (z_AU A_z).2 := h_z.2.2.2.2.2.2.2.2.1
theorem z_RM.bs {zI : Nat → Nat → Int32} {A_z : z_Ab} (h_z : z_RM zI A_z) : ∀ j_z, j_z < (z_AU A_z).2 → z_rW zI 108 (17 * j_z) ((z_AU A_z).1 j_z) := h_z.2.2.2.2.2.2.2.2.2.1
theorem z_RM.kl {zI : Nat → Nat → Int32} {A_z : z_Ab} (h_z : z_RM zI A_z) : zI 99 20 = nI (z_AK A_z).2 := h_z.2.2.2.2.2.2.2.2.2.2.1
theorem z_RM.ks {zI : Nat → Nat → Int32} {A_z : z_Ab} (h_z : z_RM zI A_z) : ∀ j_z, j_z < (z_AK A_z).2 → z_rW zI 109 (17 * j_z) ((z_AK A_z).1 j_z) := h_z.2.2.2.2.2.2.2.2.2.2.2.1
theorem z_RM.el {zI : Nat → Nat → Int32} {A_z : z_Ab} (h_z : z_RM zI A_z) : zI 99 21 = nI (z_AS A_z).2.2.2 := h_z.2.2.2.2.2.2.2.2.2.2.2.2.1
theorem z_RM.es {zI : Nat → Nat → Int32} {A_z : z_Ab} (h_z : z_RM zI A_z) : ∀ i_z, i_z < (z_AS A_z).2.2.2 → zI 110 (3 * i_z) = (z_AS A_z).1 i_z ∧ zI 110 (3 * i_z + 1) = (z_AS A_z).2.1 i_z ∧ zI 110 (3 * i_z + 2) = (z_AS A_z).2.2.1 i_z := h_z.2.2.2.2.2.2.2.2.2.2.2.2.2
def z_scM : Nat → Nat → Prop := fun q_z k_z => q_z = 101 ∨ q_z = 102 ∨ q_z = 103 ∨ q_z = 107 ∨ q_z = 111 ∨ (q_z = 99 ∧ ((2 ≤ k_z ∧ k_z ≤ 6) ∨ (23 ≤ k_z ∧ k_z ≤ 28) ∨ k_z = 1))
def z_f2 (P_z : Nat → Nat → Prop) (zI zI' : Nat → Nat → Int32) : Prop := ∀ q_z k_z, ¬ P_z q_z k_z → zI' q_z k_z = zI q_z k_z
theorem z_f2.rf {P_z : Nat → Nat → Prop} {zI : Nat → Nat → Int32} : z_f2 P_z zI zI := fun _ _ _ => rfl
theorem z_f2.tr {P_z : Nat → Nat → Prop} {zI zI' J_z : Nat → Nat → Int32} (h_z : z_f2 P_z zI zI') (h2 : z_f2 P_z zI' J_z) : z_f2 P_z zI J_z := fun q_z k_z hq => (h2 q_z k_z hq).trans (h_z q_z k_z hq)
theorem z_f2.u2 {P_z : Nat → Nat → Prop} {zI zI' : Nat → Nat → Int32} {o j_z : Nat} {v_z : Int32} (h_z : z_f2 P_z zI zI') (ho : P_z o j_z) : z_f2 P_z zI (z_u2 zI' o j_z v_z) := fun q_z k_z hq => by
  by_cases e_z : q_z = o ∧ k_z = j_z
  · exact absurd (e_z.1 ▸ e_z.2 ▸ ho) hq
  · rw [z_u2_ne (by omega)]; exact h_z q_z k_z hq
theorem z_f2.mono {P_z Q_z : Nat → Nat → Prop} {zI zI' : Nat → Nat → Int32} (h_z : z_f2 P_z zI zI') (hP : ∀ q_z k_z, P_z q_z k_z → Q_z q_z k_z) : z_f2 Q_z zI zI' := fun q_z k_z hq => h_z q_z k_z (fun z_z => hq (hP q_z k_z z_z))
theorem z_RM.scr {zI zI' : Nat → Nat → Int32} {A_z : z_Ab}  (h_z : z_RM zI A_z) (hf : z_f2 z_scM zI zI') : z_RM zI' (A_z) :=
  ⟨(hf 99 0 (by unfold z_scM; omega)).trans h_z.xl, fun k_z hk => (hf 100 k_z (by unfold z_scM; omega)).trans (h_z.xs k_z hk), (hf 99 10 (by unfold z_scM; omega)).trans h_z.sn, (hf 99 11 (by unfold z_scM; omega)).trans h_z.sm, (hf 99 12 (by unfold z_scM; omega)).trans h_z.sd, fun s_z hs k_z hk => (hf 104 (4 * s_z + k_z) (by unfold z_scM; omega)).trans (h_z.so s_z hs k_z hk), fun s_z hs k_z hk => (hf 105 (4 * s_z + k_z) (by unfold z_scM; omega)).trans (h_z.sg s_z hs k_z hk), h_z.nw.fr (fun k_z _ _ => hf 106 k_z (by unfold z_scM; omega)), (hf 99 18 (by unfold z_scM; omega)).trans h_z.bl, fun j_z hj => (h_z.bs j_z hj).fr (fun k_z _ _ => hf 108 k_z (by unfold z_scM; omega)), (hf 99 20 (by unfold z_scM; omega)).trans h_z.kl, fun j_z hj => (h_z.ks j_z hj).fr (fun k_z _ _ => hf 109 k_z (by unfold z_scM; omega)), (hf 99 21 (by unfold z_scM; omega)).trans h_z.el, fun i_z hi_z => ⟨(hf 110 _ (by unfold z_scM; omega)).trans (h_z.es i_z hi_z).1, (hf 110 _ (by unfold z_scM; omega)).trans (h_z.es i_z hi_z).2.1, (hf 110 _ (by unfold z_scM; omega)).trans (h_z.es i_z hi_z).2.2⟩⟩
theorem z_RM.ofX {zI zI' : Nat → Nat → Int32} {A_z : z_Ab} {x_z : (Nat → Int32) × Nat} (h_z : z_RM zI A_z) (hf : z_f2 (fun q_z k_z => q_z = 100 ∨ (q_z = 99 ∧ k_z = 0)) zI zI') (g1 : zI' 99 0 = nI x_z.2) (g2 : ∀ k_z, k_z < x_z.2 → zI' 100 k_z = x_z.1 k_z) : z_RM zI' (z_setX A_z x_z) :=
  ⟨g1, g2, (hf 99 10 (by omega)).trans h_z.sn, (hf 99 11 (by omega)).trans h_z.sm, (hf 99 12 (by omega)).trans h_z.sd, fun s_z hs k_z hk => (hf 104 (4 * s_z + k_z) (by omega)).trans (h_z.so s_z hs k_z hk), fun s_z hs k_z hk => (hf 105 (4 * s_z + k_z) (by omega)).trans (h_z.sg s_z hs k_z hk), h_z.nw.fr (fun k_z _ _ => hf 106 k_z (by omega)), (hf 99 18 (by omega)).trans h_z.bl, fun j_z hj => (h_z.bs j_z hj).fr (fun k_z _ _ => hf 108 k_z (by omega)), (hf 99 20 (by omega)).trans h_z.kl, fun j_z hj => (h_z.ks j_z hj).fr (fun k_z _ _ => hf 109 k_z (by omega)), (hf 99 21 (by omega)).trans h_z.el, fun i_z hi_z => ⟨(hf 110 _ (by omega)).trans (h_z.es i_z hi_z).1, (hf 110 _ (by omega)).trans (h_z.es i_z hi_z).2.1, (hf 110 _ (by omega)).trans (h_z.es i_z hi_z).2.2⟩⟩
theorem z_RM.ofS {zI zI' : Nat → Nat → Int32} {A_z : z_Ab} {x_z : (Nat → Int32) × (Nat → Int32) × (Nat → Int32) × Nat} (h_z : z_RM zI A_z) (hf : z_f2 (fun q_z k_z => q_z = 110 ∨ (q_z = 99 ∧ k_z = 21)) zI zI') (g1 : zI' 99 21 = nI x_z.2.2.2) (g2 : ∀ i_z, i_z < x_z.2.2.2 → zI' 110 (3 * i_z) = x_z.1 i_z ∧ zI' 110 (3 * i_z + 1) = x_z.2.1 i_z ∧ zI' 110 (3 * i_z + 2) = x_z.2.2.1 i_z) : z_RM zI' (z_setS A_z x_z) :=
  ⟨(hf 99 0 (by omega)).trans h_z.xl, fun k_z hk => (hf 100 k_z (by omega)).trans (h_z.xs k_z hk), (hf 99 10 (by omega)).trans h_z.sn, (hf 99 11 (by omega)).trans h_z.sm, (hf 99 12 (by omega)).trans h_z.sd, fun s_z hs k_z hk => (hf 104 (4 * s_z + k_z) (by omega)).trans (h_z.so s_z hs k_z hk), fun s_z hs k_z hk => (hf 105 (4 * s_z + k_z) (by omega)).trans (h_z.sg s_z hs k_z hk), h_z.nw.fr (fun k_z _ _ => hf 106 k_z (by omega)), (hf 99 18 (by omega)).trans h_z.bl, fun j_z hj => (h_z.bs j_z hj).fr (fun k_z _ _ => hf 108 k_z (by omega)), (hf 99 20 (by omega)).trans h_z.kl, fun j_z hj => (h_z.ks j_z hj).fr (fun k_z _ _ => hf 109 k_z (by omega)), g1, g2⟩
theorem z_RM.ofT {zI zI' : Nat → Nat → Int32} {A_z : z_Ab} {x_z : Nat → Int32} (h_z : z_RM zI A_z) (hf : z_f2 (fun q_z _ => q_z = 106) zI zI') (g1 : z_rW zI' 106 0 x_z) : z_RM zI' (z_setT A_z x_z) :=
  ⟨(hf 99 0 (by omega)).trans h_z.xl, fun k_z hk => (hf 100 k_z (by omega)).trans (h_z.xs k_z hk), (hf 99 10 (by omega)).trans h_z.sn, (hf 99 11 (by omega)).trans h_z.sm, (hf 99 12 (by omega)).trans h_z.sd, fun s_z hs k_z hk => (hf 104 (4 * s_z + k_z) (by omega)).trans (h_z.so s_z hs k_z hk), fun s_z hs k_z hk => (hf 105 (4 * s_z + k_z) (by omega)).trans (h_z.sg s_z hs k_z hk), g1, (hf 99 18 (by omega)).trans h_z.bl, fun j_z hj => (h_z.bs j_z hj).fr (fun k_z _ _ => hf 108 k_z (by omega)), (hf 99 20 (by omega)).trans h_z.kl, fun j_z hj => (h_z.ks j_z hj).fr (fun k_z _ _ => hf 109 k_z (by omega)), (hf 99 21 (by omega)).trans h_z.el, fun i_z hi_z => ⟨(hf 110 _ (by omega)).trans (h_z.es i_z hi_z).1, (hf 110 _ (by omega)).trans (h_z.es i_z hi_z).2.1, (hf 110 _ (by omega)).trans (h_z.es i_z hi_z).2.2⟩⟩
theorem z_RM.ofU {zI zI' : Nat → Nat → Int32} {A_z : z_Ab} {x_z : (Nat → Nat → Int32) × Nat} (h_z : z_RM zI A_z) (hf : z_f2 (fun q_z k_z => q_z = 108 ∨ (q_z = 99 ∧ k_z = 18)) zI zI') (g1 : zI' 99 18 = nI x_z.2) (g2 : ∀ j_z, j_z < x_z.2 → z_rW zI' 108 (17 * j_z) (x_z.1 j_z)) : z_RM zI' (z_setU A_z x_z) :=
  ⟨(hf 99 0 (by omega)).trans h_z.xl, fun k_z hk => (hf 100 k_z (by omega)).trans (h_z.xs k_z hk), (hf 99 10 (by omega)).trans h_z.sn, (hf 99 11 (by omega)).trans h_z.sm, (hf 99 12 (by omega)).trans h_z.sd, fun s_z hs k_z hk => (hf 104 (4 * s_z + k_z) (by omega)).trans (h_z.so s_z hs k_z hk), fun s_z hs k_z hk => (hf 105 (4 * s_z + k_z) (by omega)).trans (h_z.sg s_z hs k_z hk), h_z.nw.fr (fun k_z _ _ => hf 106 k_z (by omega)), g1, g2, (hf 99 20 (by omega)).trans h_z.kl, fun j_z hj => (h_z.ks j_z hj).fr (fun k_z _ _ => hf 109 k_z (by omega)), (hf 99 21 (by omega)).trans h_z.el, fun i_z hi_z => ⟨(hf 110 _ (by omega)).trans (h_z.es i_z hi_z).1, (hf 110 _ (by omega)).trans (h_z.es i_z hi_z).2.1, (hf 110 _ (by omega)).trans (h_z.es i_z hi_z).2.2⟩⟩
theorem z_RM.ofK {zI zI' : Nat → Nat → Int32} {A_z : z_Ab} {x_z : (Nat → Nat → Int32) × Nat} (h_z : z_RM zI A_z) (hf : z_f2 (fun q_z k_z => q_z = 109 ∨ (q_z = 99 ∧ k_z = 20)) zI zI') (g1 : zI' 99 20 = nI x_z.2) (g2 : ∀ j_z, j_z < x_z.2 → z_rW zI' 109 (17 * j_z) (x_z.1 j_z)) : z_RM zI' (z_setK A_z x_z) :=
  ⟨(hf 99 0 (by omega)).trans h_z.xl, fun k_z hk => (hf 100 k_z (by omega)).trans (h_z.xs k_z hk), (hf 99 10 (by omega)).trans h_z.sn, (hf 99 11 (by omega)).trans h_z.sm, (hf 99 12 (by omega)).trans h_z.sd, fun s_z hs k_z hk => (hf 104 (4 * s_z + k_z) (by omega)).trans (h_z.so s_z hs k_z hk), fun s_z hs k_z hk => (hf 105 (4 * s_z + k_z) (by omega)).trans (h_z.sg s_z hs k_z hk), h_z.nw.fr (fun k_z _ _ => hf 106 k_z (by omega)), (hf 99 18 (by omega)).trans h_z.bl, fun j_z hj => (h_z.bs j_z hj).fr (fun k_z _ _ => hf 108 k_z (by omega)), g1, g2, (hf 99 21 (by omega)).trans h_z.el, fun i_z hi_z => ⟨(hf 110 _ (by omega)).trans (h_z.es i_z hi_z).1, (hf 110 _ (by omega)).trans (h_z.es i_z hi_z).2.1, (hf 110 _ (by omega)).trans (h_z.es i_z hi_z).2.2⟩⟩
/-- an answer of the model, its scratch changed; a call of the model that changes what it tells -/
def z_MQ (zS : z_S) (x_z : Int32) : Option Value → z_S → Prop := fun r_z zS' => r_z = some (.int x_z) ∧ ∃ zI', z_up zS zI' = zS' ∧ z_f2 z_scM (z_I zS) zI'
def z_MC (zS : z_S) (q_z : z_Ab × Int32) : Option Value → z_S → Prop := fun r_z zS' => r_z = some (.int q_z.2) ∧ ∃ zI', z_up zS zI' = zS' ∧ z_RM zI' q_z.1 ∧ z_f2 (fun q_z _ => 99 ≤ q_z) (z_I zS) zI'
theorem z_MC.of {zS : z_S} {A_z : z_Ab} {x_z : Int32} {q_z : z_Ab × Int32} (hR : z_RM (z_I zS) A_z) (h_z : q_z = (A_z, x_z)) : z_MC zS q_z (some (.int x_z)) zS := by
  subst h_z
  exact ⟨rfl, z_I zS, rfl, hR, z_f2.rf⟩
theorem c_X10_wipe {g_z : z_U} {d_z : Nat} {zS : z_S} {A_z : z_Ab} (hN_z : z_LM zS) (hR : z_RM (z_I zS) A_z) : z_C g_z (d_z) 0 0 mX10_wipe [.ref 99] zS (z_MC zS (z_wipe A_z)) := by
  refine z_enter [some (.ref 99), none] rfl rfl (Nat.le_of_ble_eq_true rfl) rfl (fun zX hM_z => ?_)
  have hB_z : z_B g_z zX RX10 cX10_wipe 2 := hM_z.1
  refine z_s 1 hB_z dX10_wipe_0 rfl rfl ?_
  refine z_getI 4 hB_z fX10_79 (N99 (zS := zS) hN_z) dX10_wipe_1 rfl rfl ?_
  rw [hR.xl]
  refine z_s 5 hB_z dX10_wipe_4 rfl rfl ?_
  refine z_s 6 hB_z dX10_wipe_5 rfl rfl ?_
  refine z_s 7 hB_z dX10_wipe_6 rfl rfl ?_
  refine z_putI 10 hB_z fX10_79 (N99 (zS := zS) hN_z) dX10_wipe_7 rfl rfl rfl ?_
  refine z_s 11 hB_z dX10_wipe_10 rfl rfl ?_
  refine z_iret hM_z dX10_wipe_11 rfl ?_ rfl rfl
  refine ⟨rfl, z_u2 (z_I zS) 99 0 0, rfl, ?_, z_f2.rf.u2 (by decide)⟩
  exact hR.ofX (z_f2.rf.u2 (Or.inr ⟨rfl, rfl⟩)) (z_u2_same _ _ _ _) (fun k_z hk => absurd hk (Nat.not_lt_zero k_z))

theorem c_X10_forget {g_z : z_U} {d_z : Nat} {zS : z_S} {A_z : z_Ab} (hN_z : z_LM zS) (hR : z_RM (z_I zS) A_z) : z_C g_z (d_z) 0 0 mX10_forget [.ref 99] zS (z_MC zS (z_forget A_z)) := by
  refine z_enter [some (.ref 99), none] rfl rfl (Nat.le_of_ble_eq_true rfl) rfl (fun zX hM_z => ?_)
  have hB_z : z_B g_z zX RX10 cX10_forget 2 := hM_z.1
  refine z_s 1 hB_z dX10_forget_0 rfl rfl ?_
  refine z_getI 4 hB_z fX10_130 (N99 (zS := zS) hN_z) dX10_forget_1 rfl rfl ?_
  rw [hR.el]
  refine z_s 5 hB_z dX10_forget_4 rfl rfl ?_
  refine z_s 6 hB_z dX10_forget_5 rfl rfl ?_
  refine z_s 7 hB_z dX10_forget_6 rfl rfl ?_
  refine z_putI 10 hB_z fX10_130 (N99 (zS := zS) hN_z) dX10_forget_7 rfl rfl rfl ?_
  refine z_s 11 hB_z dX10_forget_10 rfl rfl ?_
  refine z_iret hM_z dX10_forget_11 rfl ?_ rfl rfl
  refine ⟨rfl, z_u2 (z_I zS) 99 21 0, rfl, ?_, z_f2.rf.u2 (by decide)⟩
  exact hR.ofS (z_f2.rf.u2 (Or.inr ⟨rfl, rfl⟩)) (z_u2_same _ _ _ _) (fun k_z hk => absurd hk (Nat.not_lt_zero k_z))

set_option maxHeartbeats 1000000 in
theorem c_X10_write {g_z : z_U} {d_z : Nat} {zS : z_S} {A_z : z_Ab} (hN_z : z_LM zS) (hR : z_RM (z_I zS) A_z) (h200 : (z_AX A_z).2 ≤ 200) {l : Int32} : z_C g_z (d_z + 1) 0 0 mX10_write [.ref 99, .int l] zS (z_MC zS (z_write A_z l)) := by
  refine z_enter [some (.ref 99), some (.int l)] rfl rfl (Nat.le_of_ble_eq_true rfl) rfl (fun zX hM_z => ?_)
  have hB_z : z_B g_z zX RX10 cX10_write 2 := hM_z.1
  refine z_s 1 hB_z dX10_write_0 rfl rfl ?_
  refine z_s 3 hB_z dX10_write_1 rfl rfl ?_
  refine z_s 5 hB_z dX10_write_3 rfl rfl ?_
  refine z_callS 8 hB_z hM_z.2.1 kX10_67 dX10_write_5 rfl (c_X10_in (d_z := 0)) (by omega) rfl rfl (Nat.le_of_ble_eq_true rfl) ⟨Nat.le_refl _, Nat.le_refl _⟩ ?_
  rintro _ _ ⟨rfl, rfl⟩
  refine z_b 11 13 hB_z dX10_write_8 rfl rfl (by decide) (fun c_8 => ?_) (fun c_8 => ?_)
  ·
    refine z_s 14 hB_z dX10_write_13 rfl rfl ?_
    refine z_getI 17 hB_z fX10_79 (N99 (zS := zS) hN_z) dX10_write_14 rfl rfl ?_
    rw [hR.xl]
    refine z_s 20 hB_z dX10_write_17 rfl rfl ?_
    refine z_b 23 26 hB_z dX10_write_20 rfl rfl (by decide) (fun c_20 => ?_) (fun c_20 => ?_)
    ·
      have hroom : (z_AX A_z).2 < 200 := by
        rcases Nat.lt_or_ge (z_AX A_z).2 200 with z_z | z_z
        · exact z_z
        · exact absurd (show nI (z_AX A_z).2 = 200 by rw [show (z_AX A_z).2 = 200 by omega]; rfl) c_20
      refine z_s 27 hB_z dX10_write_26 rfl rfl ?_
      refine z_getR 30 hB_z fX10_7 (N99 (zS := zS) hN_z) dX10_write_27 rfl rfl (n99_1 (zS := zS) hN_z) ?_
      refine z_s 31 hB_z dX10_write_30 rfl rfl ?_
      refine z_getI 34 hB_z fX10_79 (N99 (zS := zS) hN_z) dX10_write_31 rfl rfl ?_
      rw [hR.xl]
      refine z_s 35 hB_z dX10_write_34 rfl rfl ?_
      refine z_ast 36 hB_z (N100 (zS := zS) hN_z) dX10_write_35 rfl (vp_in_nI hroom (by decide)) ?_
      rw [nI_clamp (by omega)]
      refine z_s 37 hB_z dX10_write_36 rfl rfl ?_
      refine z_s 38 hB_z dX10_write_37 rfl rfl ?_
      refine z_getI 41 hB_z fX10_79 (N99 (zS := zS) hN_z) dX10_write_38 rfl rfl ?_
      rw [show z_I (z_pI zS 100 (z_AX A_z).2 l) 99 0 = nI (z_AX A_z).2 from (z_Ine (Or.inl (by decide))).trans hR.xl]
      refine z_s 42 hB_z dX10_write_41 rfl rfl ?_
      refine z_s 43 hB_z dX10_write_42 rfl rfl ?_
      rw [z_inc]
      refine z_putI 46 hB_z fX10_79 (N99 (zS := zS) hN_z) dX10_write_43 rfl rfl rfl ?_
      refine z_s 47 hB_z dX10_write_46 rfl rfl ?_
      refine z_getI 50 hB_z fX10_79 (N99 (zS := zS) hN_z) dX10_write_47 rfl rfl ?_
      rw [z_Ieq]
      refine z_iret hM_z dX10_write_50 rfl ?_ rfl rfl
      have e_z : z_write A_z l = (z_setX A_z (fun i_z => if i_z = (z_AX A_z).2 then l else (z_AX A_z).1 i_z, (z_AX A_z).2 + 1), nI ((z_AX A_z).2 + 1)) := (if_pos (z_of1 c_8)).trans (if_pos hroom)
      rw [e_z]
      refine ⟨rfl, z_u2 (z_u2 (z_I zS) 100 (z_AX A_z).2 l) 99 0 (nI ((z_AX A_z).2 + 1)), rfl, ?_, (z_f2.rf.u2 (by decide)).u2 (by decide)⟩
      refine hR.ofX ((z_f2.rf.u2 (Or.inl rfl)).u2 (Or.inr ⟨rfl, rfl⟩)) (z_u2_same _ _ _ _) (fun k_z hk => ?_)
      rw [z_u2_ne (Or.inl (by decide))]
      by_cases q_z : k_z = (z_AX A_z).2
      · rw [q_z, z_u2_same]; exact (if_pos rfl).symm
      · rw [z_u2_ne (Or.inr q_z), hR.xs k_z (by have : k_z < (z_AX A_z).2 + 1 := hk; omega)]; exact (if_neg q_z).symm
    ·
      have hfull : ¬ (z_AX A_z).2 < 200 := fun q_z => absurd ((nI_ltI (by omega) (by decide)).mpr q_z) (by rw [show nI (z_AX A_z).2 = nI 200 from c_20]; decide)
      refine z_s 25 hB_z dX10_write_23 rfl rfl ?_
      refine z_iret hM_z dX10_write_25 rfl ?_ rfl rfl
      exact z_MC.of hR ((if_pos (z_of1 c_8)).trans (if_neg hfull))
  ·
    refine z_s 12 hB_z dX10_write_11 rfl rfl ?_
    refine z_iret hM_z dX10_write_12 rfl ?_ rfl rfl
    exact z_MC.of hR (if_neg (z_of0 c_8))

