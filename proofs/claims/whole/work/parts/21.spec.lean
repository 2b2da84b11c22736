/-! the layout of the class's cells, by program; and what the calls say, in words of numbers -/
def z_kL : List (Nat × Nat) := [(0, 9), (0, 8), (1, 200), (0, 5), (0, 3), (1, 6), (0, 3), (1, 6), (0, 3), (1, 6), (0, 3), (1, 6), (0, 3), (1, 10), (0, 3), (1, 10), (0, 3), (1, 10), (0, 3), (1, 10), (0, 3), (1, 6), (0, 5), (0, 3), (1, 6), (0, 3), (1, 6), (0, 3), (1, 6), (0, 3), (1, 6), (0, 3), (1, 10), (0, 3), (1, 10), (0, 3), (1, 10), (0, 3), (1, 10), (0, 3), (1, 6), (0, 2), (0, 3), (1, 4), (0, 1), (0, 3), (1, 10), (0, 7), (0, 3), (1, 6), (0, 7), (0, 3), (1, 6), (0, 4), (2, 8), (0, 7), (0, 3), (1, 6), (0, 7), (0, 3), (1, 6), (0, 7), (0, 3), (1, 6), (0, 7), (0, 3), (1, 6), (0, 7), (0, 3), (1, 6), (0, 7), (0, 3), (1, 6), (0, 7), (0, 3), (1, 6), (0, 7), (0, 3), (1, 6), (0, 4), (2, 2), (0, 7), (0, 3), (1, 6), (0, 7), (0, 3), (1, 6), (0, 6), (0, 3), (1, 8), (0, 3), (1, 8), (0, 3), (1, 8), (0, 0)]
def z_rL : List (Nat × Nat × Nat) := [(5, 0, 6), (8, 0, 9), (7, 0, 8), (10, 0, 11), (7, 1, 10), (12, 0, 13), (7, 2, 12), (14, 0, 15), (7, 3, 14), (16, 0, 17), (7, 4, 16), (18, 0, 19), (7, 5, 18), (20, 0, 21), (7, 6, 20), (22, 0, 23), (7, 7, 22), (24, 0, 25), (7, 8, 24), (27, 0, 28), (26, 0, 27), (29, 0, 30), (26, 1, 29), (31, 0, 32), (26, 2, 31), (33, 0, 34), (26, 3, 33), (35, 0, 36), (26, 4, 35), (37, 0, 38), (26, 5, 37), (39, 0, 40), (26, 6, 39), (41, 0, 42), (26, 7, 41), (43, 0, 44), (26, 8, 43), (45, 0, 5), (45, 1, 26), (46, 0, 47), (45, 2, 46), (48, 0, 7), (49, 0, 50), (48, 1, 49), (52, 0, 53), (51, 6, 52), (55, 0, 56), (54, 6, 55), (57, 0, 58), (60, 0, 61), (59, 6, 60), (63, 0, 64), (62, 6, 63), (66, 0, 67), (65, 6, 66), (69, 0, 70), (68, 6, 69), (72, 0, 73), (71, 6, 72), (75, 0, 76), (74, 6, 75), (78, 0, 79), (77, 6, 78), (81, 0, 82), (80, 6, 81), (83, 0, 84), (86, 0, 87), (85, 6, 86), (89, 0, 90), (88, 6, 89), (92, 0, 93), (91, 0, 92), (94, 0, 95), (91, 1, 94), (96, 0, 97), (91, 2, 96), (4, 0, 5), (4, 1, 7), (4, 2, 26), (4, 3, 45), (4, 4, 48), (4, 5, 51), (4, 6, 54), (4, 7, 57), (4, 8, 83), (4, 9, 91), (4, 10, 98)]
def z_L (zS : z_S) : Prop := (∀ k_z, k_z < 95 → z_kd zS (k_z + 4) = z_kL.getD k_z (0, 0)) ∧ 95 ≤ z_nx zS ∧ ∀ t_z ∈ z_rL, z_R zS t_z.1 t_z.2.1 = some t_z.2.2
theorem z_L_is {zS : z_S} (hL : z_L zS) (k_z : Nat) {q_z : Nat × Nat} (hk : k_z < 95) (hq : z_kL.getD k_z (0, 0) = q_z) : z_is zS (k_z + 4) q_z := ⟨(hL.1 k_z hk).trans hq, by omega, by have := hL.2.1; omega⟩
theorem z_L_r {zS : z_S} (hL : z_L zS) (i_z : Nat) {a_z k_z b_z : Nat} (h_z : z_rL[i_z]? = some (a_z, k_z, b_z)) : z_R zS a_z k_z = some b_z := hL.2.2 (a_z, k_z, b_z) (List.mem_of_getElem? h_z)
theorem z_L.up {zS : z_S} {f_z : Nat → Nat → Int32} (h_z : z_L zS) : z_L (z_up zS f_z) := h_z
theorem z_L.pI {zS : z_S} {o k_z : Nat} {v_z : Int32} (h_z : z_L zS) : z_L (z_pI zS o k_z v_z) := h_z
theorem L4_z {zS : z_S} (hL : z_L zS) : z_is zS 4 (0, 9) := z_L_is hL 0 (by decide) rfl
theorem L5_z {zS : z_S} (hL : z_L zS) : z_is zS 5 (0, 8) := z_L_is hL 1 (by decide) rfl
theorem L6_z {zS : z_S} (hL : z_L zS) : z_is zS 6 (1, 200) := z_L_is hL 2 (by decide) rfl
theorem L7 {zS : z_S} (hL : z_L zS) : z_is zS 7 (0, 5) := z_L_is hL 3 (by decide) rfl
theorem L8_z {zS : z_S} (hL : z_L zS) : z_is zS 8 (0, 3) := z_L_is hL 4 (by decide) rfl
theorem L9 {zS : z_S} (hL : z_L zS) : z_is zS 9 (1, 6) := z_L_is hL 5 (by decide) rfl
theorem L10 {zS : z_S} (hL : z_L zS) : z_is zS 10 (0, 3) := z_L_is hL 6 (by decide) rfl
theorem L11 {zS : z_S} (hL : z_L zS) : z_is zS 11 (1, 6) := z_L_is hL 7 (by decide) rfl
theorem L12_z {zS : z_S} (hL : z_L zS) : z_is zS 12 (0, 3) := z_L_is hL 8 (by decide) rfl
theorem L13 {zS : z_S} (hL : z_L zS) : z_is zS 13 (1, 6) := z_L_is hL 9 (by decide) rfl
theorem L14 {zS : z_S} (hL : z_L zS) : z_is zS 14 (0, 3) := z_L_is hL 10 (by decide) rfl
theorem L15 {zS : z_S} (hL : z_L zS) : z_is zS 15 (1, 6) := z_L_is hL 11 (by decide) rfl
theorem L16 {zS : z_S} (hL : z_L zS) : z_is zS 16 (0, 3) := z_L_is hL 12 (by decide) rfl
theorem L17 {zS : z_S} (hL : z_L zS) : z_is zS 17 (1, 10) := z_L_is hL 13 (by decide) rfl
theorem L18 {zS : z_S} (hL : z_L zS) : z_is zS 18 (0, 3) := z_L_is hL 14 (by decide) rfl
theorem L19 {zS : z_S} (hL : z_L zS) : z_is zS 19 (1, 10) := z_L_is hL 15 (by decide) rfl
theorem L20 {zS : z_S} (hL : z_L zS) : z_is zS 20 (0, 3) := z_L_is hL 16 (by decide) rfl
theorem L21 {zS : z_S} (hL : z_L zS) : z_is zS 21 (1, 10) := z_L_is hL 17 (by decide) rfl
theorem L22 {zS : z_S} (hL : z_L zS) : z_is zS 22 (0, 3) := z_L_is hL 18 (by decide) rfl
theorem L23 {zS : z_S} (hL : z_L zS) : z_is zS 23 (1, 10) := z_L_is hL 19 (by decide) rfl
theorem L24 {zS : z_S} (hL : z_L zS) : z_is zS 24 (0, 3) := z_L_is hL 20 (by decide) rfl
theorem L25 {zS : z_S} (hL : z_L zS) : z_is zS 25 (1, 6) := z_L_is hL 21 (by decide) rfl
theorem L26 {zS : z_S} (hL : z_L zS) : z_is zS 26 (0, 5) := z_L_is hL 22 (by decide) rfl
theorem L27 {zS : z_S} (hL : z_L zS) : z_is zS 27 (0, 3) := z_L_is hL 23 (by decide) rfl
theorem L28 {zS : z_S} (hL : z_L zS) : z_is zS 28 (1, 6) := z_L_is hL 24 (by decide) rfl
theorem L29 {zS : z_S} (hL : z_L zS) : z_is zS 29 (0, 3) := z_L_is hL 25 (by decide) rfl
theorem L30 {zS : z_S} (hL : z_L zS) : z_is zS 30 (1, 6) := z_L_is hL 26 (by decide) rfl
theorem L31 {zS : z_S} (hL : z_L zS) : z_is zS 31 (0, 3) := z_L_is hL 27 (by decide) rfl
theorem L32 {zS : z_S} (hL : z_L zS) : z_is zS 32 (1, 6) := z_L_is hL 28 (by decide) rfl
theorem L33 {zS : z_S} (hL : z_L zS) : z_is zS 33 (0, 3) := z_L_is hL 29 (by decide) rfl
theorem L34 {zS : z_S} (hL : z_L zS) : z_is zS 34 (1, 6) := z_L_is hL 30 (by decide) rfl
theorem L35 {zS : z_S} (hL : z_L zS) : z_is zS 35 (0, 3) := z_L_is hL 31 (by decide) rfl
theorem L36 {zS : z_S} (hL : z_L zS) : z_is zS 36 (1, 10) := z_L_is hL 32 (by decide) rfl
theorem L37 {zS : z_S} (hL : z_L zS) : z_is zS 37 (0, 3) := z_L_is hL 33 (by decide) rfl
theorem L38 {zS : z_S} (hL : z_L zS) : z_is zS 38 (1, 10) := z_L_is hL 34 (by decide) rfl
theorem L39 {zS : z_S} (hL : z_L zS) : z_is zS 39 (0, 3) := z_L_is hL 35 (by decide) rfl
theorem L40 {zS : z_S} (hL : z_L zS) : z_is zS 40 (1, 10) := z_L_is hL 36 (by decide) rfl
theorem L41 {zS : z_S} (hL : z_L zS) : z_is zS 41 (0, 3) := z_L_is hL 37 (by decide) rfl
theorem L42 {zS : z_S} (hL : z_L zS) : z_is zS 42 (1, 10) := z_L_is hL 38 (by decide) rfl
theorem L43 {zS : z_S} (hL : z_L zS) : z_is zS 43 (0, 3) := z_L_is hL 39 (by decide) rfl
theorem L44 {zS : z_S} (hL : z_L zS) : z_is zS 44 (1, 6) := z_L_is hL 40 (by decide) rfl
theorem L45 {zS : z_S} (hL : z_L zS) : z_is zS 45 (0, 2) := z_L_is hL 41 (by decide) rfl
theorem L46 {zS : z_S} (hL : z_L zS) : z_is zS 46 (0, 3) := z_L_is hL 42 (by decide) rfl
theorem L47 {zS : z_S} (hL : z_L zS) : z_is zS 47 (1, 4) := z_L_is hL 43 (by decide) rfl
theorem L48 {zS : z_S} (hL : z_L zS) : z_is zS 48 (0, 1) := z_L_is hL 44 (by decide) rfl
theorem L49 {zS : z_S} (hL : z_L zS) : z_is zS 49 (0, 3) := z_L_is hL 45 (by decide) rfl
theorem L50 {zS : z_S} (hL : z_L zS) : z_is zS 50 (1, 10) := z_L_is hL 46 (by decide) rfl
theorem L51 {zS : z_S} (hL : z_L zS) : z_is zS 51 (0, 7) := z_L_is hL 47 (by decide) rfl
theorem L52 {zS : z_S} (hL : z_L zS) : z_is zS 52 (0, 3) := z_L_is hL 48 (by decide) rfl
theorem L53 {zS : z_S} (hL : z_L zS) : z_is zS 53 (1, 6) := z_L_is hL 49 (by decide) rfl
theorem L54 {zS : z_S} (hL : z_L zS) : z_is zS 54 (0, 7) := z_L_is hL 50 (by decide) rfl
theorem L55 {zS : z_S} (hL : z_L zS) : z_is zS 55 (0, 3) := z_L_is hL 51 (by decide) rfl
theorem L56 {zS : z_S} (hL : z_L zS) : z_is zS 56 (1, 6) := z_L_is hL 52 (by decide) rfl
theorem L57 {zS : z_S} (hL : z_L zS) : z_is zS 57 (0, 4) := z_L_is hL 53 (by decide) rfl
theorem L58 {zS : z_S} (hL : z_L zS) : z_is zS 58 (2, 8) := z_L_is hL 54 (by decide) rfl
theorem L59 {zS : z_S} (hL : z_L zS) : z_is zS 59 (0, 7) := z_L_is hL 55 (by decide) rfl
theorem L60 {zS : z_S} (hL : z_L zS) : z_is zS 60 (0, 3) := z_L_is hL 56 (by decide) rfl
theorem L61 {zS : z_S} (hL : z_L zS) : z_is zS 61 (1, 6) := z_L_is hL 57 (by decide) rfl
theorem L62 {zS : z_S} (hL : z_L zS) : z_is zS 62 (0, 7) := z_L_is hL 58 (by decide) rfl
theorem L63 {zS : z_S} (hL : z_L zS) : z_is zS 63 (0, 3) := z_L_is hL 59 (by decide) rfl
theorem L64 {zS : z_S} (hL : z_L zS) : z_is zS 64 (1, 6) := z_L_is hL 60 (by decide) rfl
theorem L65 {zS : z_S} (hL : z_L zS) : z_is zS 65 (0, 7) := z_L_is hL 61 (by decide) rfl
theorem L66 {zS : z_S} (hL : z_L zS) : z_is zS 66 (0, 3) := z_L_is hL 62 (by decide) rfl
theorem L67 {zS : z_S} (hL : z_L zS) : z_is zS 67 (1, 6) := z_L_is hL 63 (by decide) rfl
theorem L68 {zS : z_S} (hL : z_L zS) : z_is zS 68 (0, 7) := z_L_is hL 64 (by decide) rfl
theorem L69 {zS : z_S} (hL : z_L zS) : z_is zS 69 (0, 3) := z_L_is hL 65 (by decide) rfl
theorem L70 {zS : z_S} (hL : z_L zS) : z_is zS 70 (1, 6) := z_L_is hL 66 (by decide) rfl
theorem L71 {zS : z_S} (hL : z_L zS) : z_is zS 71 (0, 7) := z_L_is hL 67 (by decide) rfl
theorem L72 {zS : z_S} (hL : z_L zS) : z_is zS 72 (0, 3) := z_L_is hL 68 (by decide) rfl
theorem L73 {zS : z_S} (hL : z_L zS) : z_is zS 73 (1, 6) := z_L_is hL 69 (by decide) rfl
theorem L74 {zS : z_S} (hL : z_L zS) : z_is zS 74 (0, 7) := z_L_is hL 70 (by decide) rfl
theorem L75 {zS : z_S} (hL : z_L zS) : z_is zS 75 (0, 3) := z_L_is hL 71 (by decide) rfl
theorem L76 {zS : z_S} (hL : z_L zS) : z_is zS 76 (1, 6) := z_L_is hL 72 (by decide) rfl
theorem L77 {zS : z_S} (hL : z_L zS) : z_is zS 77 (0, 7) := z_L_is hL 73 (by decide) rfl
theorem L78 {zS : z_S} (hL : z_L zS) : z_is zS 78 (0, 3) := z_L_is hL 74 (by decide) rfl
theorem L79 {zS : z_S} (hL : z_L zS) : z_is zS 79 (1, 6) := z_L_is hL 75 (by decide) rfl
theorem L80 {zS : z_S} (hL : z_L zS) : z_is zS 80 (0, 7) := z_L_is hL 76 (by decide) rfl
theorem L81 {zS : z_S} (hL : z_L zS) : z_is zS 81 (0, 3) := z_L_is hL 77 (by decide) rfl
theorem L82 {zS : z_S} (hL : z_L zS) : z_is zS 82 (1, 6) := z_L_is hL 78 (by decide) rfl
theorem L83 {zS : z_S} (hL : z_L zS) : z_is zS 83 (0, 4) := z_L_is hL 79 (by decide) rfl
theorem L84 {zS : z_S} (hL : z_L zS) : z_is zS 84 (2, 2) := z_L_is hL 80 (by decide) rfl
theorem L85 {zS : z_S} (hL : z_L zS) : z_is zS 85 (0, 7) := z_L_is hL 81 (by decide) rfl
theorem L86 {zS : z_S} (hL : z_L zS) : z_is zS 86 (0, 3) := z_L_is hL 82 (by decide) rfl
theorem L87 {zS : z_S} (hL : z_L zS) : z_is zS 87 (1, 6) := z_L_is hL 83 (by decide) rfl
theorem L88 {zS : z_S} (hL : z_L zS) : z_is zS 88 (0, 7) := z_L_is hL 84 (by decide) rfl
theorem L89 {zS : z_S} (hL : z_L zS) : z_is zS 89 (0, 3) := z_L_is hL 85 (by decide) rfl
theorem L90 {zS : z_S} (hL : z_L zS) : z_is zS 90 (1, 6) := z_L_is hL 86 (by decide) rfl
theorem L91 {zS : z_S} (hL : z_L zS) : z_is zS 91 (0, 6) := z_L_is hL 87 (by decide) rfl
theorem L92 {zS : z_S} (hL : z_L zS) : z_is zS 92 (0, 3) := z_L_is hL 88 (by decide) rfl
theorem L93 {zS : z_S} (hL : z_L zS) : z_is zS 93 (1, 8) := z_L_is hL 89 (by decide) rfl
theorem L94 {zS : z_S} (hL : z_L zS) : z_is zS 94 (0, 3) := z_L_is hL 90 (by decide) rfl
theorem L95 {zS : z_S} (hL : z_L zS) : z_is zS 95 (1, 8) := z_L_is hL 91 (by decide) rfl
theorem L96 {zS : z_S} (hL : z_L zS) : z_is zS 96 (0, 3) := z_L_is hL 92 (by decide) rfl
theorem L97 {zS : z_S} (hL : z_L zS) : z_is zS 97 (1, 8) := z_L_is hL 93 (by decide) rfl
theorem L98 {zS : z_S} (hL : z_L zS) : z_is zS 98 (0, 0) := z_L_is hL 94 (by decide) rfl
theorem r5_0 {zS : z_S} (hL : z_L zS) : z_R zS 5 0 = some 6 := z_L_r hL 0 rfl
theorem r8_0 {zS : z_S} (hL : z_L zS) : z_R zS 8 0 = some 9 := z_L_r hL 1 rfl
theorem r7_0 {zS : z_S} (hL : z_L zS) : z_R zS 7 0 = some 8 := z_L_r hL 2 rfl
theorem r10_0 {zS : z_S} (hL : z_L zS) : z_R zS 10 0 = some 11 := z_L_r hL 3 rfl
theorem r7_1 {zS : z_S} (hL : z_L zS) : z_R zS 7 1 = some 10 := z_L_r hL 4 rfl
theorem r12_0 {zS : z_S} (hL : z_L zS) : z_R zS 12 0 = some 13 := z_L_r hL 5 rfl
theorem r7_2 {zS : z_S} (hL : z_L zS) : z_R zS 7 2 = some 12 := z_L_r hL 6 rfl
theorem r14_0 {zS : z_S} (hL : z_L zS) : z_R zS 14 0 = some 15 := z_L_r hL 7 rfl
theorem r7_3 {zS : z_S} (hL : z_L zS) : z_R zS 7 3 = some 14 := z_L_r hL 8 rfl
theorem r16_0 {zS : z_S} (hL : z_L zS) : z_R zS 16 0 = some 17 := z_L_r hL 9 rfl
theorem r7_4 {zS : z_S} (hL : z_L zS) : z_R zS 7 4 = some 16 := z_L_r hL 10 rfl
theorem r18_0 {zS : z_S} (hL : z_L zS) : z_R zS 18 0 = some 19 := z_L_r hL 11 rfl
theorem r7_5 {zS : z_S} (hL : z_L zS) : z_R zS 7 5 = some 18 := z_L_r hL 12 rfl
theorem r20_0 {zS : z_S} (hL : z_L zS) : z_R zS 20 0 = some 21 := z_L_r hL 13 rfl
theorem r7_6 {zS : z_S} (hL : z_L zS) : z_R zS 7 6 = some 20 := z_L_r hL 14 rfl
theorem r22_0 {zS : z_S} (hL : z_L zS) : z_R zS 22 0 = some 23 := z_L_r hL 15 rfl
theorem r7_7 {zS : z_S} (hL : z_L zS) : z_R zS 7 7 = some 22 := z_L_r hL 16 rfl
theorem r24_0 {zS : z_S} (hL : z_L zS) : z_R zS 24 0 = some 25 := z_L_r hL 17 rfl
theorem r7_8 {zS : z_S} (hL : z_L zS) : z_R zS 7 8 = some 24 := z_L_r hL 18 rfl
theorem r27_0 {zS : z_S} (hL : z_L zS) : z_R zS 27 0 = some 28 := z_L_r hL 19 rfl
theorem r26_0 {zS : z_S} (hL : z_L zS) : z_R zS 26 0 = some 27 := z_L_r hL 20 rfl
theorem r29_0 {zS : z_S} (hL : z_L zS) : z_R zS 29 0 = some 30 := z_L_r hL 21 rfl
theorem r26_1 {zS : z_S} (hL : z_L zS) : z_R zS 26 1 = some 29 := z_L_r hL 22 rfl
theorem r31_0 {zS : z_S} (hL : z_L zS) : z_R zS 31 0 = some 32 := z_L_r hL 23 rfl
theorem r26_2 {zS : z_S} (hL : z_L zS) : z_R zS 26 2 = some 31 := z_L_r hL 24 rfl
theorem r33_0 {zS : z_S} (hL : z_L zS) : z_R zS 33 0 = some 34 := z_L_r hL 25 rfl
theorem r26_3 {zS : z_S} (hL : z_L zS) : z_R zS 26 3 = some 33 := z_L_r hL 26 rfl
theorem r35_0 {zS : z_S} (hL : z_L zS) : z_R zS 35 0 = some 36 := z_L_r hL 27 rfl
theorem r26_4 {zS : z_S} (hL : z_L zS) : z_R zS 26 4 = some 35 := z_L_r hL 28 rfl
theorem r37_0 {zS : z_S} (hL : z_L zS) : z_R zS 37 0 = some 38 := z_L_r hL 29 rfl
theorem r26_5 {zS : z_S} (hL : z_L zS) : z_R zS 26 5 = some 37 := z_L_r hL 30 rfl
theorem r39_0 {zS : z_S} (hL : z_L zS) : z_R zS 39 0 = some 40 := z_L_r hL 31 rfl
theorem r26_6 {zS : z_S} (hL : z_L zS) : z_R zS 26 6 = some 39 := z_L_r hL 32 rfl
theorem r41_0 {zS : z_S} (hL : z_L zS) : z_R zS 41 0 = some 42 := z_L_r hL 33 rfl
theorem r26_7 {zS : z_S} (hL : z_L zS) : z_R zS 26 7 = some 41 := z_L_r hL 34 rfl
theorem r43_0 {zS : z_S} (hL : z_L zS) : z_R zS 43 0 = some 44 := z_L_r hL 35 rfl
theorem r26_8 {zS : z_S} (hL : z_L zS) : z_R zS 26 8 = some 43 := z_L_r hL 36 rfl
theorem r45_0 {zS : z_S} (hL : z_L zS) : z_R zS 45 0 = some 5 := z_L_r hL 37 rfl
theorem r45_1 {zS : z_S} (hL : z_L zS) : z_R zS 45 1 = some 26 := z_L_r hL 38 rfl
theorem r46_0 {zS : z_S} (hL : z_L zS) : z_R zS 46 0 = some 47 := z_L_r hL 39 rfl
theorem r45_2 {zS : z_S} (hL : z_L zS) : z_R zS 45 2 = some 46 := z_L_r hL 40 rfl
theorem r48_0 {zS : z_S} (hL : z_L zS) : z_R zS 48 0 = some 7 := z_L_r hL 41 rfl
theorem r49_0 {zS : z_S} (hL : z_L zS) : z_R zS 49 0 = some 50 := z_L_r hL 42 rfl
theorem r48_1 {zS : z_S} (hL : z_L zS) : z_R zS 48 1 = some 49 := z_L_r hL 43 rfl
theorem r52_0 {zS : z_S} (hL : z_L zS) : z_R zS 52 0 = some 53 := z_L_r hL 44 rfl
theorem r51_6 {zS : z_S} (hL : z_L zS) : z_R zS 51 6 = some 52 := z_L_r hL 45 rfl
theorem r55_0 {zS : z_S} (hL : z_L zS) : z_R zS 55 0 = some 56 := z_L_r hL 46 rfl
theorem r54_6 {zS : z_S} (hL : z_L zS) : z_R zS 54 6 = some 55 := z_L_r hL 47 rfl
theorem r57_0 {zS : z_S} (hL : z_L zS) : z_R zS 57 0 = some 58 := z_L_r hL 48 rfl
theorem r60_0 {zS : z_S} (hL : z_L zS) : z_R zS 60 0 = some 61 := z_L_r hL 49 rfl
theorem r59_6 {zS : z_S} (hL : z_L zS) : z_R zS 59 6 = some 60 := z_L_r hL 50 rfl
theorem r63_0 {zS : z_S} (hL : z_L zS) : z_R zS 63 0 = some 64 := z_L_r hL 51 rfl
theorem r62_6 {zS : z_S} (hL : z_L zS) : z_R zS 62 6 = some 63 := z_L_r hL 52 rfl
theorem r66_0 {zS : z_S} (hL : z_L zS) : z_R zS 66 0 = some 67 := z_L_r hL 53 rfl
theorem r65_6 {zS : z_S} (hL : z_L zS) : z_R zS 65 6 = some 66 := z_L_r hL 54 rfl
theorem r69_0 {zS : z_S} (hL : z_L zS) : z_R zS 69 0 = some 70 := z_L_r hL 55 rfl
theorem r68_6 {zS : z_S} (hL : z_L zS) : z_R zS 68 6 = some 69 := z_L_r hL 56 rfl
theorem r72_0 {zS : z_S} (hL : z_L zS) : z_R zS 72 0 = some 73 := z_L_r hL 57 rfl
theorem r71_6 {zS : z_S} (hL : z_L zS) : z_R zS 71 6 = some 72 := z_L_r hL 58 rfl
theorem r75_0 {zS : z_S} (hL : z_L zS) : z_R zS 75 0 = some 76 := z_L_r hL 59 rfl
theorem r74_6 {zS : z_S} (hL : z_L zS) : z_R zS 74 6 = some 75 := z_L_r hL 60 rfl
theorem r78_0 {zS : z_S} (hL : z_L zS) : z_R zS 78 0 = some 79 := z_L_r hL 61 rfl
theorem r77_6 {zS : z_S} (hL : z_L zS) : z_R zS 77 6 = some 78 := z_L_r hL 62 rfl
theorem r81_0 {zS : z_S} (hL : z_L zS) : z_R zS 81 0 = some 82 := z_L_r hL 63 rfl
theorem r80_6 {zS : z_S} (hL : z_L zS) : z_R zS 80 6 = some 81 := z_L_r hL 64 rfl
theorem r83_0 {zS : z_S} (hL : z_L zS) : z_R zS 83 0 = some 84 := z_L_r hL 65 rfl
theorem r86_0 {zS : z_S} (hL : z_L zS) : z_R zS 86 0 = some 87 := z_L_r hL 66 rfl
theorem r85_6 {zS : z_S} (hL : z_L zS) : z_R zS 85 6 = some 86 := z_L_r hL 67 rfl
theorem r89_0 {zS : z_S} (hL : z_L zS) : z_R zS 89 0 = some 90 := z_L_r hL 68 rfl
theorem r88_6 {zS : z_S} (hL : z_L zS) : z_R zS 88 6 = some 89 := z_L_r hL 69 rfl
theorem r92_0 {zS : z_S} (hL : z_L zS) : z_R zS 92 0 = some 93 := z_L_r hL 70 rfl
theorem r91_0 {zS : z_S} (hL : z_L zS) : z_R zS 91 0 = some 92 := z_L_r hL 71 rfl
theorem r94_0 {zS : z_S} (hL : z_L zS) : z_R zS 94 0 = some 95 := z_L_r hL 72 rfl
theorem r91_1 {zS : z_S} (hL : z_L zS) : z_R zS 91 1 = some 94 := z_L_r hL 73 rfl
theorem r96_0 {zS : z_S} (hL : z_L zS) : z_R zS 96 0 = some 97 := z_L_r hL 74 rfl
theorem r91_2 {zS : z_S} (hL : z_L zS) : z_R zS 91 2 = some 96 := z_L_r hL 75 rfl
theorem r4_0 {zS : z_S} (hL : z_L zS) : z_R zS 4 0 = some 5 := z_L_r hL 76 rfl
theorem r4_1 {zS : z_S} (hL : z_L zS) : z_R zS 4 1 = some 7 := z_L_r hL 77 rfl
theorem r4_2 {zS : z_S} (hL : z_L zS) : z_R zS 4 2 = some 26 := z_L_r hL 78 rfl
theorem r4_3 {zS : z_S} (hL : z_L zS) : z_R zS 4 3 = some 45 := z_L_r hL 79 rfl
theorem r4_4 {zS : z_S} (hL : z_L zS) : z_R zS 4 4 = some 48 := z_L_r hL 80 rfl
theorem r4_5 {zS : z_S} (hL : z_L zS) : z_R zS 4 5 = some 51 := z_L_r hL 81 rfl
theorem r4_6 {zS : z_S} (hL : z_L zS) : z_R zS 4 6 = some 54 := z_L_r hL 82 rfl
theorem r4_7 {zS : z_S} (hL : z_L zS) : z_R zS 4 7 = some 57 := z_L_r hL 83 rfl
theorem r4_8 {zS : z_S} (hL : z_L zS) : z_R zS 4 8 = some 83 := z_L_r hL 84 rfl
theorem r4_9 {zS : z_S} (hL : z_L zS) : z_R zS 4 9 = some 91 := z_L_r hL 85 rfl
theorem r4_10 {zS : z_S} (hL : z_L zS) : z_R zS 4 10 = some 98 := z_L_r hL 86 rfl
theorem w8 {zS : z_S} (hL : z_L zS) : z_row zS 8 9 6 := ⟨L8_z hL, r8_0 hL, L9 hL⟩
theorem w10_z {zS : z_S} (hL : z_L zS) : z_row zS 10 11 6 := ⟨L10 hL, r10_0 hL, L11 hL⟩
theorem w12 {zS : z_S} (hL : z_L zS) : z_row zS 12 13 6 := ⟨L12_z hL, r12_0 hL, L13 hL⟩
theorem w14_z {zS : z_S} (hL : z_L zS) : z_row zS 14 15 6 := ⟨L14 hL, r14_0 hL, L15 hL⟩
theorem w16 {zS : z_S} (hL : z_L zS) : z_row zS 16 17 10 := ⟨L16 hL, r16_0 hL, L17 hL⟩
theorem w18 {zS : z_S} (hL : z_L zS) : z_row zS 18 19 10 := ⟨L18 hL, r18_0 hL, L19 hL⟩
theorem w20 {zS : z_S} (hL : z_L zS) : z_row zS 20 21 10 := ⟨L20 hL, r20_0 hL, L21 hL⟩
theorem w22 {zS : z_S} (hL : z_L zS) : z_row zS 22 23 10 := ⟨L22 hL, r22_0 hL, L23 hL⟩
theorem w24 {zS : z_S} (hL : z_L zS) : z_row zS 24 25 6 := ⟨L24 hL, r24_0 hL, L25 hL⟩
theorem w27 {zS : z_S} (hL : z_L zS) : z_row zS 27 28 6 := ⟨L27 hL, r27_0 hL, L28 hL⟩
theorem w29 {zS : z_S} (hL : z_L zS) : z_row zS 29 30 6 := ⟨L29 hL, r29_0 hL, L30 hL⟩
theorem w31 {zS : z_S} (hL : z_L zS) : z_row zS 31 32 6 := ⟨L31 hL, r31_0 hL, L32 hL⟩
theorem w33 {zS : z_S} (hL : z_L zS) : z_row zS 33 34 6 := ⟨L33 hL, r33_0 hL, L34 hL⟩
theorem w35 {zS : z_S} (hL : z_L zS) : z_row zS 35 36 10 := ⟨L35 hL, r35_0 hL, L36 hL⟩
theorem w37 {zS : z_S} (hL : z_L zS) : z_row zS 37 38 10 := ⟨L37 hL, r37_0 hL, L38 hL⟩
theorem w39 {zS : z_S} (hL : z_L zS) : z_row zS 39 40 10 := ⟨L39 hL, r39_0 hL, L40 hL⟩
theorem w41 {zS : z_S} (hL : z_L zS) : z_row zS 41 42 10 := ⟨L41 hL, r41_0 hL, L42 hL⟩
theorem w43 {zS : z_S} (hL : z_L zS) : z_row zS 43 44 6 := ⟨L43 hL, r43_0 hL, L44 hL⟩
theorem w46 {zS : z_S} (hL : z_L zS) : z_row zS 46 47 4 := ⟨L46 hL, r46_0 hL, L47 hL⟩
theorem w49 {zS : z_S} (hL : z_L zS) : z_row zS 49 50 10 := ⟨L49 hL, r49_0 hL, L50 hL⟩
theorem w52 {zS : z_S} (hL : z_L zS) : z_row zS 52 53 6 := ⟨L52 hL, r52_0 hL, L53 hL⟩
theorem w55 {zS : z_S} (hL : z_L zS) : z_row zS 55 56 6 := ⟨L55 hL, r55_0 hL, L56 hL⟩
theorem w60 {zS : z_S} (hL : z_L zS) : z_row zS 60 61 6 := ⟨L60 hL, r60_0 hL, L61 hL⟩
theorem w63 {zS : z_S} (hL : z_L zS) : z_row zS 63 64 6 := ⟨L63 hL, r63_0 hL, L64 hL⟩
theorem w66 {zS : z_S} (hL : z_L zS) : z_row zS 66 67 6 := ⟨L66 hL, r66_0 hL, L67 hL⟩
theorem w69 {zS : z_S} (hL : z_L zS) : z_row zS 69 70 6 := ⟨L69 hL, r69_0 hL, L70 hL⟩
theorem w72 {zS : z_S} (hL : z_L zS) : z_row zS 72 73 6 := ⟨L72 hL, r72_0 hL, L73 hL⟩
theorem w75 {zS : z_S} (hL : z_L zS) : z_row zS 75 76 6 := ⟨L75 hL, r75_0 hL, L76 hL⟩
theorem w78 {zS : z_S} (hL : z_L zS) : z_row zS 78 79 6 := ⟨L78 hL, r78_0 hL, L79 hL⟩
theorem w81 {zS : z_S} (hL : z_L zS) : z_row zS 81 82 6 := ⟨L81 hL, r81_0 hL, L82 hL⟩
theorem w86 {zS : z_S} (hL : z_L zS) : z_row zS 86 87 6 := ⟨L86 hL, r86_0 hL, L87 hL⟩
theorem w89 {zS : z_S} (hL : z_L zS) : z_row zS 89 90 6 := ⟨L89 hL, r89_0 hL, L90 hL⟩
theorem w92 {zS : z_S} (hL : z_L zS) : z_row zS 92 93 8 := ⟨L92 hL, r92_0 hL, L93 hL⟩
theorem w94 {zS : z_S} (hL : z_L zS) : z_row zS 94 95 8 := ⟨L94 hL, r94_0 hL, L95 hL⟩
theorem w96 {zS : z_S} (hL : z_L zS) : z_row zS 96 97 8 := ⟨L96 hL, r96_0 hL, L97 hL⟩
/-- a State: its row and its row's numbers lie behind it -/
def z_st (zS : z_S) (o : Nat) : Prop := z_is zS o (0, 7) ∧ z_R zS o 6 = some (o + 1) ∧ z_row zS (o + 1) (o + 2) 6
theorem z_st.up {zS : z_S} {o : Nat} {f_z : Nat → Nat → Int32} (h_z : z_st zS o) : z_st (z_up zS f_z) o := h_z
theorem z_st.pI {zS : z_S} {o o' k_z : Nat} {v_z : Int32} (h_z : z_st zS o) : z_st (z_pI zS o' k_z v_z) o := h_z
theorem s51 {zS : z_S} (hL : z_L zS) : z_st zS 51 := ⟨L51 hL, r51_6 hL, w52 hL⟩
theorem s54 {zS : z_S} (hL : z_L zS) : z_st zS 54 := ⟨L54 hL, r54_6 hL, w55 hL⟩
theorem s59 {zS : z_S} (hL : z_L zS) : z_st zS 59 := ⟨L59 hL, r59_6 hL, w60 hL⟩
theorem s62 {zS : z_S} (hL : z_L zS) : z_st zS 62 := ⟨L62 hL, r62_6 hL, w63 hL⟩
theorem s65 {zS : z_S} (hL : z_L zS) : z_st zS 65 := ⟨L65 hL, r65_6 hL, w66 hL⟩
theorem s68 {zS : z_S} (hL : z_L zS) : z_st zS 68 := ⟨L68 hL, r68_6 hL, w69 hL⟩
theorem s71 {zS : z_S} (hL : z_L zS) : z_st zS 71 := ⟨L71 hL, r71_6 hL, w72 hL⟩
theorem s74 {zS : z_S} (hL : z_L zS) : z_st zS 74 := ⟨L74 hL, r74_6 hL, w75 hL⟩
theorem s77 {zS : z_S} (hL : z_L zS) : z_st zS 77 := ⟨L77 hL, r77_6 hL, w78 hL⟩
theorem s80 {zS : z_S} (hL : z_L zS) : z_st zS 80 := ⟨L80 hL, r80_6 hL, w81 hL⟩
theorem s85 {zS : z_S} (hL : z_L zS) : z_st zS 85 := ⟨L85 hL, r85_6 hL, w86 hL⟩
theorem s88 {zS : z_S} (hL : z_L zS) : z_st zS 88 := ⟨L88 hL, r88_6 hL, w89 hL⟩
/-! what the calls say -/
def z_hb (x_z : Int32) (i_z : Nat) : Bool := decide (x_z >>> (nI i_z &&& 31) &&& 1 = 1)
def z_mod (x_z y_z : Int32) : Int32 := if 0 < y_z then x_z - x_z / y_z * y_z else 0
/-- a shop: its rows (kinds, skills, everies, offsets, nights, things, ways, pences, servers), how many staff, customers, each how many nights a dog -/
abbrev z_V : Type := (Nat → Nat → Int32) × Nat × Nat × Int32
def z_vl (k_z : Nat) : Nat := if k_z < 4 then 6 else if k_z < 8 then 10 else 6
/-- a shop's cells (o its object) tell zV -/
def z_rV (zI : Nat → Nat → Int32) (o : Nat) (zV : z_V) : Prop := (∀ k_z, k_z < 9 → ∀ j_z, j_z < z_vl k_z → zI (o + 2 + 2 * k_z) j_z = zV.1 k_z j_z) ∧ zI o 9 = nI zV.2.1 ∧ zI o 10 = nI zV.2.2.1 ∧ zI o 12 = zV.2.2.2 ∧ zV.2.1 ≤ 6 ∧ zV.2.2.1 ≤ 10
/-- a state's cells tell zT: night, till, drawer, hams, quarrels, fed, then nights awake -/
def z_rT (zI : Nat → Nat → Int32) (o : Nat) (zT : Nat → Int32) : Prop := (∀ k_z, k_z < 6 → zI o k_z = zT k_z) ∧ ∀ k_z, k_z < 6 → zI (o + 2) k_z = zT (6 + k_z)
def z_due (zV : z_V) (t_z : Int32) (s_z : Nat) : Bool := decide (z_mod t_z (zV.1 2 s_z) = z_mod (zV.1 3 s_z) (zV.1 2 s_z))
def z_comes (zV : z_V) (t_z : Int32) (c_z : Nat) : Bool := decide (zV.1 4 c_z = z_mod t_z 14)
def z_hasDog (zV : z_V) (t_z : Int32) : Bool := decide (0 < zV.2.2.2) && decide (z_mod t_z zV.2.2.2 = 0)
/-- one of lower number that walks and has a quarrel with s (l of them looked at) -/
def z_bar (w_z Q_z : Int32) (s_z : Nat) : Nat → Bool
  | 0 => false
  | l + 1 => z_bar w_z Q_z s_z l || (z_hb w_z l && z_hb Q_z (6 * l + s_z))
def z_goes (zV : z_V) (zT : Nat → Int32) (w_z : Int32) (s_z : Nat) : Bool := z_due zV (zT 0) s_z && (decide (zT (6 + s_z) = 0) && (!z_hb (zT 5) s_z && !z_bar w_z (zT 4) s_z s_z))
/-- who walks, of the first s (no dog) -/
def z_wk (zV : z_V) (zT : Nat → Int32) : Nat → Int32
  | 0 => 0
  | s_z + 1 => if z_goes zV zT (z_wk zV zT s_z) s_z then z_wk zV zT s_z ||| (1 <<< (nI s_z &&& 31)) else z_wk zV zT s_z
def z_wlk (zV : z_V) (zT : Nat → Int32) (dog : Bool) : Int32 := if dog then 0 else z_wk zV zT zV.2.1
/-- a customer goes from one to the next: m are left, s is next, K woken -/
def z_scan (w_z srv : Int32) (wk_z : Nat → Bool) : Nat → Nat → Int32 → Int32 × Option Nat
  | 0, _, K_z => (K_z, none)
  | m_z + 1, s_z, K_z => if z_hb (w_z &&& (K_z ^^^ -1) &&& srv) s_z then (if wk_z s_z then z_scan w_z srv wk_z m_z (s_z + 1) (K_z ||| (1 <<< (nI s_z &&& 31))) else (K_z, some s_z)) else z_scan w_z srv wk_z m_z (s_z + 1) K_z
def z_rse (zV : z_V) (c_z s_z : Nat) : Bool := decide (z_wakes (zV.1 6 c_z) (zV.1 7 c_z) (zV.1 0 s_z) = 1)
def z_sc (zV : z_V) (w_z K_z : Int32) (c_z : Nat) : Int32 × Option Nat := z_scan w_z (z_rd zV.1 8 6 (zV.1 5 c_z)) (z_rse zV c_z) zV.2.1 0 K_z
/-- a night so far: woken, served, hams, first with a ham, till, drawer; sellers -/
abbrev z_N : Type := Int32 × Int32 × Int32 × Int32 × Int32 × Int32 × (Nat → Int32)
def z_N0 : z_N := (0, 0, 0, -4, 0, 0, fun _ => -4)
def z_pay (zV : z_V) (c_z : Nat) : Int32 := if zV.1 6 c_z = 3 then 0 else zV.1 7 c_z
def z_at1 (zV : z_V) (w_z : Int32) (D_z : z_N) (c_z : Nat) : z_N := match z_sc zV w_z D_z.1 c_z with
  | (K_z, some s_z) => (K_z, D_z.2.1 + 1, D_z.2.2.1, D_z.2.2.2.1, D_z.2.2.2.2.1 + (z_pay zV c_z - z_pay zV c_z * 9 / 100), D_z.2.2.2.2.2.1 + z_pay zV c_z * 9 / 100, fun q_z => if q_z = c_z then nI s_z else D_z.2.2.2.2.2.2 q_z)
  | (K_z, none) => (K_z, D_z.2.1, D_z.2.2.1 + 1, if D_z.2.2.1 = 0 then nI c_z else D_z.2.2.2.1, D_z.2.2.2.2.1, D_z.2.2.2.2.2.1, D_z.2.2.2.2.2.2)
def z_day (zV : z_V) (t_z w_z : Int32) : Nat → z_N
  | 0 => z_N0
  | c_z + 1 => if z_comes zV t_z c_z then z_at1 zV w_z (z_day zV t_z w_z c_z) c_z else z_day zV t_z w_z c_z
/-- behind a night -/
def z_cls1 (zV : z_V) (zT : Nat → Int32) (D_z : z_N) : Nat → Int32 := fun k_z =>
  if k_z = 0 then zT 0 + 1 else if k_z = 1 then zT 1 + D_z.2.2.2.2.1 else if k_z = 2 then zT 2 + D_z.2.2.2.2.2.1 else if k_z = 3 then zT 3 + D_z.2.2.1 else if k_z = 4 then zT 4 else if k_z = 5 then 0
  else if k_z - 6 < zV.2.1 then (if z_hb D_z.1 (k_z - 6) then 3 else if zT k_z - 1 < 0 then 0 else zT k_z - 1) else zT k_z
theorem z_rd_V {zI : Nat → Nat → Int32} {zV : z_V} (hV : z_rV zI 7 zV) (k_z : Nat) (hk : k_z < 9) {j_z n_z a_z : Nat} (ha_z : 9 + 2 * k_z = a_z) (hn : n_z = z_vl k_z) (hj : j_z < n_z) : z_rd zI a_z n_z (nI j_z) = zV.1 k_z j_z := by
  subst ha_z; subst hn
  have hb_z : z_vl k_z < 2 ^ 31 := by unfold z_vl; split <;> first | omega | (split <;> omega)
  unfold z_rd
  rw [if_pos ⟨nI_pos' (by omega), (nI_ltI (by omega) hb_z).mpr hj⟩, nI_clamp (by omega)]
  exact hV.1 k_z hk j_z hj
/-- what changes lies in P -/
def z_fr (P_z : Nat → Prop) (zI zI' : Nat → Nat → Int32) : Prop := ∀ q_z k_z, ¬ P_z q_z → zI' q_z k_z = zI q_z k_z
theorem z_fr.rf {P_z : Nat → Prop} {zI : Nat → Nat → Int32} : z_fr P_z zI zI := fun _ _ _ => rfl
theorem z_fr.tr {P_z : Nat → Prop} {zI zI' I2_z : Nat → Nat → Int32} (h_z : z_fr P_z zI zI') (h2 : z_fr P_z zI' I2_z) : z_fr P_z zI I2_z := fun q_z k_z hq => (h2 q_z k_z hq).trans (h_z q_z k_z hq)
theorem z_fr.u2 {P_z : Nat → Prop} {zI zI' : Nat → Nat → Int32} {o k_z : Nat} {v_z : Int32} (h_z : z_fr P_z zI zI') (ho : P_z o) : z_fr P_z zI (z_u2 zI' o k_z v_z) := fun q_z j_z hq => by
  rw [z_u2_ne (Or.inl (fun e_z => hq (by rw [e_z]; exact ho)))]; exact h_z q_z j_z hq
theorem z_fr.sa {P_z : Nat → Prop} {zI zI' : Nat → Nat → Int32} {a_z n_z : Nat} {f_z : Nat → Int32} (h_z : z_fr P_z zI zI') (ho : P_z a_z) : z_fr P_z zI (z_sa zI' a_z n_z f_z) := fun q_z j_z hq => by
  rw [z_sa_off (fun e_z => hq (by rw [e_z]; exact ho))]; exact h_z q_z j_z hq
theorem z_fr.mono {P_z P2_z : Nat → Prop} {zI zI' : Nat → Nat → Int32} (h_z : z_fr P_z zI zI') (hP : ∀ q_z, P_z q_z → P2_z q_z) : z_fr P2_z zI zI' := fun q_z k_z hq => h_z q_z k_z (fun z_z => hq (hP q_z z_z))
theorem z_rV.fr {P_z : Nat → Prop} {zI zI' : Nat → Nat → Int32} {o : Nat} {zV : z_V} (h_z : z_rV zI o zV) (hf : z_fr P_z zI zI') (hP : ∀ q_z, o ≤ q_z → q_z < o + 19 → ¬ P_z q_z) : z_rV zI' o zV := by
  obtain ⟨h1, h2, h3, h4, h5, h6⟩ := h_z
  have e_z := fun k_z => hf o k_z (hP o (by omega) (by omega))
  exact ⟨fun k_z hk j_z hj => (hf _ j_z (hP _ (by omega) (by omega))).trans (h1 k_z hk j_z hj), (e_z 9).trans h2, (e_z 10).trans h3, (e_z 12).trans h4, h5, h6⟩
theorem z_rT.fr {P_z : Nat → Prop} {zI zI' : Nat → Nat → Int32} {o : Nat} {zT : Nat → Int32} (h_z : z_rT zI o zT) (hf : z_fr P_z zI zI') (hP : ¬ P_z o ∧ ¬ P_z (o + 2)) : z_rT zI' o zT :=
  ⟨fun k_z hk => (hf o k_z hP.1).trans (h_z.1 k_z hk), fun k_z hk => (hf _ k_z hP.2).trans (h_z.2 k_z hk)⟩
/-- the night's own cells change -/
def z_PN : Nat → Prop := fun q_z => q_z = 48 ∨ q_z = 50
/-- what the night's cells tell: who walks, and D -/
def z_rN (zI : Nat → Nat → Int32) (w_z : Int32) (D_z : z_N) : Prop := zI 48 2 = w_z ∧ zI 48 3 = D_z.1 ∧ zI 48 4 = D_z.2.1 ∧ zI 48 5 = D_z.2.2.1 ∧ zI 48 6 = D_z.2.2.2.1 ∧ zI 48 7 = D_z.2.2.2.2.1 ∧ zI 48 8 = D_z.2.2.2.2.2.1 ∧ ∀ c_z, c_z < 10 → zI 50 c_z = D_z.2.2.2.2.2.2 c_z

