/-! a bit of a word turned -/
theorem z_hb_bit (w_z : Int32) (i_z : Nat) (hi_z : i_z < 32) : z_hb w_z i_z = w_z.toBitVec.getLsbD i_z := by
  have key_z : ∀ i_z, i_z < 32 → ((nI i_z &&& 31).toBitVec.smod 32).toNat = i_z := by decide +kernel
  unfold z_hb
  have h1 : (w_z >>> (nI i_z &&& 31) &&& 1).toBitVec = (w_z.toBitVec.sshiftRight i_z) &&& 1 := by
    show (w_z.toBitVec.sshiftRight' ((nI i_z &&& 31).toBitVec.smod 32)) &&& 1 = _
    unfold BitVec.sshiftRight'
    rw [key_z i_z hi_z]
  have h2 : (w_z.toBitVec.sshiftRight i_z).getLsbD 0 = w_z.toBitVec.getLsbD i_z := by
    rw [BitVec.getLsbD_sshiftRight]
    simp [hi_z]
  rw [← h2]
  by_cases e_z : (w_z.toBitVec.sshiftRight i_z).getLsbD 0 = true
  · rw [e_z]
    refine decide_eq_true (Int32.toBitVec_inj.mp ?_)
    rw [h1]
    apply BitVec.eq_of_getLsbD_eq
    intro j_z hj
    rcases j_z with - | j_z
    · simp [BitVec.getLsbD_and, e_z]
    · simp [BitVec.getLsbD_and, BitVec.getLsbD_one]
  · rw [Bool.not_eq_true] at e_z
    rw [e_z]
    refine decide_eq_false (fun q_z => ?_)
    have h3 := congrArg (fun x_z : BitVec 32 => x_z.getLsbD 0) (h1.symm.trans (congrArg Int32.toBitVec q_z))
    simp [BitVec.getLsbD_and] at h3
    rw [BitVec.getLsbD_eq_getElem (by decide)] at e_z
    rw [e_z] at h3
    cases h3
