/-! Bits of a word of symbols. -/
section Bits
def bit (x : Int32) (t : Nat) : Prop := x >>> (nI t &&& 31) &&& 1 = 1
theorem sh_t {t : Nat} (ht : t < 16) : (nI t &&& 31).toBitVec.smod 32 = BitVec.ofNat 32 t := by
  have h : ∀ t : Fin 16, (nI t.val &&& 31).toBitVec.smod 32 = BitVec.ofNat 32 t.val := by decide +kernel
  exact h ⟨t, ht⟩
theorem bit_iff {t : Nat} (ht : t < 16) (x : Int32) : bit x t ↔ x.toBitVec.getLsbD t = true := by
  unfold bit
  rw [← Int32.toBitVec_inj, Int32.toBitVec_and, Int32.toBitVec_shiftRight, sh_t ht]
  have e1 : (1 : Int32).toBitVec = 1#32 := rfl
  have hn : (BitVec.ofNat 32 t).toNat = t := by rw [BitVec.toNat_ofNat]; omega
  rw [e1]
  have key : (x.toBitVec.sshiftRight' (BitVec.ofNat 32 t)).getLsbD 0 = x.toBitVec.getLsbD t := by
    rw [BitVec.sshiftRight_eq', hn, BitVec.getLsbD_sshiftRight, Nat.add_zero, if_pos (show t < 32 by omega)]
    simp
  constructor
  · intro h
    have := congrArg (fun v => BitVec.getLsbD v 0) h
    simp only [BitVec.getLsbD_and, key] at this
    have e : (1#32).getLsbD 0 = true := rfl
    rw [e, Bool.and_true] at this
    exact this
  · intro h
    refine BitVec.eq_of_getLsbD_eq (fun i hi => ?_)
    rw [BitVec.getLsbD_and]
    by_cases hi0 : i = 0
    · subst hi0
      rw [key, h, Bool.true_and]
    · rw [show (1#32).getLsbD i = false by simp [BitVec.getLsbD_one, hi0], Bool.and_false]
theorem bit_l {t : Nat} (ht : t < 16) {x y : Int32} (h : bit x t) : bit (x ||| y) t := by
  rw [bit_iff ht] at h ⊢
  rw [Int32.toBitVec_or, BitVec.getLsbD_or, h]; rfl
theorem bit_r {t : Nat} (ht : t < 16) {x y : Int32} (h : bit y t) : bit (x ||| y) t := by
  rw [bit_iff ht] at h ⊢
  rw [Int32.toBitVec_or, BitVec.getLsbD_or, h, Bool.or_true]
theorem bit_1 {t : Nat} (ht : t < 16) : bit (1 <<< (nI t &&& 31)) t := by
  have h : ∀ t : Fin 16, (1 : Int32) <<< (nI t.val &&& 31) >>> (nI t.val &&& 31) &&& 1 = 1 := by decide +kernel
  exact h ⟨t, ht⟩
theorem m1_bit {i : Nat} (hi : i < 32) : ((-1 : Int32).toBitVec).getLsbD i = true := by
  have e1 : (-1 : Int32).toBitVec = BitVec.allOnes 32 := rfl
  rw [e1, BitVec.getLsbD_allOnes]
  exact decide_eq_true hi
theorem z_bit (i : Nat) : ((0 : Int32).toBitVec).getLsbD i = false := by
  have e0 : (0 : Int32).toBitVec = 0#32 := rfl
  rw [e0, BitVec.getLsbD_zero]
/-- what is all had stays had -/
theorem had_mono {s h k : Int32} (e : s &&& (h ^^^ (-1)) = 0) : s &&& ((h ||| k) ^^^ (-1)) = 0 := by
  rw [← Int32.toBitVec_inj, Int32.toBitVec_and, Int32.toBitVec_xor] at e ⊢
  rw [Int32.toBitVec_or]
  refine BitVec.eq_of_getLsbD_eq (fun i hi => ?_)
  have := congrArg (fun v => BitVec.getLsbD v i) e
  simp only [BitVec.getLsbD_and, BitVec.getLsbD_xor, BitVec.getLsbD_or, m1_bit hi, z_bit] at this ⊢
  revert this
  cases s.toBitVec.getLsbD i <;> cases h.toBitVec.getLsbD i <;> cases k.toBitVec.getLsbD i <;> simp
theorem had_or (s h : Int32) : s &&& ((h ||| s) ^^^ (-1)) = 0 := by
  rw [← Int32.toBitVec_inj, Int32.toBitVec_and, Int32.toBitVec_xor, Int32.toBitVec_or]
  refine BitVec.eq_of_getLsbD_eq (fun i hi => ?_)
  simp only [BitVec.getLsbD_and, BitVec.getLsbD_xor, BitVec.getLsbD_or, m1_bit hi, z_bit]
  cases s.toBitVec.getLsbD i <;> cases h.toBitVec.getLsbD i <;> simp
theorem had_w {s h w : Int32} (e : s &&& (h ^^^ (-1)) = 0) : s &&& w &&& (h ^^^ (-1)) = 0 := by
  rw [← Int32.toBitVec_inj, Int32.toBitVec_and] at e
  rw [← Int32.toBitVec_inj, Int32.toBitVec_and, Int32.toBitVec_and]
  refine BitVec.eq_of_getLsbD_eq (fun i hi => ?_)
  have := congrArg (fun v => BitVec.getLsbD v i) e
  have e0 : (0 : Int32).toBitVec = 0#32 := rfl
  rw [e0] at this ⊢
  simp only [BitVec.getLsbD_and, BitVec.getLsbD_zero] at this ⊢
  cases h1 : s.toBitVec.getLsbD i with
  | false => rfl
  | true =>
    rw [h1, Bool.true_and] at this
    rw [this, Bool.and_false]
end Bits
