/-! The invariant is of what the linker keeps; what areNumbersRight asks for. -/
theorem cut_free (S : jS) : ∀ n, mFree (cut S) 23 n = mFree S 23 n
  | 0 => rfl
  | n + 1 => by rw [mFree, mFree, cut_free S n, cut_jg S (by decide)]
theorem cut_room (S : jS) (z : Int32) : mRoom (cut S) 23 z = mRoom S 23 z := by
  unfold mRoom jfR
  rw [rd_find (q2 := mRoomQ S 23 z) 200 (fun i _ => by unfold mRoomQ; rw [cut_free])]
theorem cut_wait (S : jS) (k : Int32) : mWait (cut S) k = mWait S k := by
  unfold mWait; rw [cut_jg S (by decide), cut_1 S (by decide)]
theorem cut_psym (S : jS) (k : Int32) : mPSym (cut S) k = mPSym S k := by
  unfold mPSym; rw [cut_jg S (by decide), cut_jg S (by decide)]
theorem cut_wb (S : jS) (k : Int32) : mWB (cut S) k = mWB S k := by
  unfold mWB
  exact rd_any _ (fun i _ => by unfold mWBQ; rw [cut_wait, cut_psym, cut_psym])
theorem cut_clear (S : jS) (k : Int32) : mClear (cut S) k = mClear S k := by
  unfold mClear mStand
  rw [cut_wb, cut_runsW, cut_room, cut_jg S (by decide), cut_jg S (by decide), cut_jg S (by decide), cut_jg S (by decide)]
theorem cut_can (S : jS) (k : Int32) : mCan (cut S) k = mCan S k := by
  unfold mCan mNP
  rw [cut_wait, cut_1 S (by decide), rd_any (q2 := mCanQ S k) _ (fun i _ => by
    unfold mCanQ mGoes mTog
    rw [cut_clear, cut_wait, cut_jg S (by decide), cut_jg S (by decide)])]
section Frs
variable {S T : jS}
theorem fr_gN (h : FrS S T) {r : Nat} (hr : r < 9 ∨ 16 < r) (i : Nat) : gN T r i = gN S r i := by
  unfold gN jg; rw [h.2 r hr]
theorem fr_can (h : FrS S T) (k : Int32) : mCan T k = mCan S k := by rw [← cut_can T, h.cut, cut_can]
theorem fr_psym (h : FrS S T) (k : Int32) : mPSym T k = mPSym S k := by rw [← cut_psym T, h.cut, cut_psym]
theorem fr_pc (h : FrS S T) : mPc T = mPc S := by unfold mPc; rw [h.1 2 (by decide)]
theorem fr_np (h : FrS S T) : mNP T = mNP S := by unfold mNP; rw [h.1 18 (by decide)]
theorem Img.fr {i n : Nat} (H : Img S i n) (h : FrS S T) : Img T i n := by
  have e3 := fun p => fr_gN h (r := 3) (by decide) p
  have e4 := fun p => fr_gN h (r := 4) (by decide) p
  have e17 := fun p => fr_gN h (r := 17 + 3 * i) (by omega) p
  have e18 := fun p => fr_gN h (r := 18 + 3 * i) (by omega) p
  have e23 := fun p => fr_gN h (r := 23 + 3 * i) (by omega) p
  have e24 := fun p => fr_gN h (r := 24 + 3 * i) (by omega) p
  have e25 := fun p => fr_gN h (r := 25 + 3 * i) (by omega) p
  unfold Img at H ⊢
  simp only [e3, e4, e17, e18, e23, e24, e25]
  exact H
theorem Pat.fr {k : Nat} (H : Pat S k) (h : FrS S T) : Pat T k := by
  have e2 := fun p => fr_gN h (r := 2) (by decide) p
  have e3 := fun p => fr_gN h (r := 3) (by decide) p
  have e17 := fun p => fr_gN h (r := 17) (by decide) p
  have e18 := fun p => fr_gN h (r := 18) (by decide) p
  have e31 := fun p => fr_gN h (r := 31) (by decide) p
  have e33 := fun p => fr_gN h (r := 33) (by decide) p
  unfold Pat at H ⊢
  simp only [e2, e3, e17, e18, e31, e33, fr_pc h]
  exact H
theorem Pce.fr {p : Nat} (H : Pce S p) (h : FrS S T) : Pce T p := by
  have e2 := fun p => fr_gN h (r := 2) (by decide) p
  have e3 := fun p => fr_gN h (r := 3) (by decide) p
  have e4 := fun p => fr_gN h (r := 4) (by decide) p
  have e6 := fun p => fr_gN h (r := 6) (by decide) p
  have e7 := fun p => fr_gN h (r := 7) (by decide) p
  unfold Pce at H ⊢
  simp only [e2, e3, e4, e6, e7]
  exact H
theorem Inv.fr (H : Inv S) (h : FrS S T) : Inv T := by
  have e2 := fun p => fr_gN h (r := 2) (by decide) p
  have e6 := fun p => fr_gN h (r := 6) (by decide) p
  have e7 := fun p => fr_gN h (r := 7) (by decide) p
  have e17 := fun p => fr_gN h (r := 17) (by decide) p
  have e18 := fun p => fr_gN h (r := 18) (by decide) p
  have e29 := fun p => fr_gN h (r := 29) (by decide) p
  have e30 := fun p => fr_gN h (r := 30) (by decide) p
  have e31 := fun p => fr_gN h (r := 31) (by decide) p
  have e33 := fun p => fr_gN h (r := 33) (by decide) p
  refine ⟨?_, ?_, ?_, ?_, ?_, ?_, ?_, ?_, ?_, ?_, ?_, ?_⟩
  · rw [h.1 1 (by decide)]; exact H.ob
  · rw [h.1 2 (by decide)]; exact H.np
  · rw [h.1 18 (by decide)]; exact H.nn
  · rw [fr_pc h]; exact fun p hp => (H.pc p hp).fr h
  · simp only [fr_pc h, e6]; exact H.rz
  · rw [fr_pc h]; exact H.im.fr h
  · simp only [fr_pc h, fr_np h, e6, e7, e17, e18, e31]; exact H.tg
  · simp only [fr_pc h, e29, e30, e18]; exact H.rn
  · rw [fr_np h]; exact fun k hk => (H.pt k hk).fr h
  · simp only [fr_np h, e31]; exact H.po
  · simp only [fr_np h, e33, fr_psym h]; exact H.pw
  · simp only [fr_np h, fr_can h]; exact H.qt
end Frs
/-! the mean of the stacks -/
def meanB (R E : Nat) : Bool := decide ((FP.ddiv (FP.i2d (nI E)) (FP.i2d (nI R))) &&& 0x7fffffffffffffff ≤ 0x7ff0000000000000) && !decide (Op.cmpValue (FP.dcmp (FP.ddiv (FP.i2d (nI E)) (FP.i2d (nI R))) FP.dconst0) .l = 0) && !decide (0 < Op.cmpValue (FP.dcmp (FP.ddiv (FP.i2d (nI E)) (FP.i2d (nI R))) 4620693217682128896) .g)
theorem mean_all : ((List.range 5).all fun R => (List.range 33).all fun E => !(decide (1 ≤ R) && decide (R ≤ E) && decide (E ≤ 8 * R)) || meanB R E) = true := by decide +kernel
theorem mean_ok (R : Nat) (hR : R < 5) (E : Nat) (hE : E < 33) (h1 : 1 ≤ R) (h2 : R ≤ E) (h3 : E ≤ 8 * R) : (FP.ddiv (FP.i2d (nI E)) (FP.i2d (nI R))) &&& 0x7fffffffffffffff ≤ 0x7ff0000000000000 ∧ ¬ Op.cmpValue (FP.dcmp (FP.ddiv (FP.i2d (nI E)) (FP.i2d (nI R))) FP.dconst0) .l = 0 ∧ ¬ 0 < Op.cmpValue (FP.dcmp (FP.ddiv (FP.i2d (nI E)) (FP.i2d (nI R))) 4620693217682128896) .g := by
  have h := List.all_eq_true.mp (List.all_eq_true.mp mean_all R (List.mem_range.mpr hR)) E (List.mem_range.mpr hE)
  rw [decide_eq_true h1, decide_eq_true h2, decide_eq_true h3] at h
  unfold meanB at h
  simp only [Bool.and_self, Bool.not_true, Bool.false_or, Bool.and_eq_true, decide_eq_true_eq, Bool.not_eq_true', decide_eq_false_iff_not] at h
  exact ⟨h.1.1, h.1.2, h.2⟩
theorem mean_0 : Op.cmpValue (FP.dcmp FP.dconst0 FP.dconst0) .l = 0 ∧ ¬ 0 < Op.cmpValue (FP.dcmp FP.dconst0 4620693217682128896) .g := by decide +kernel
theorem Inv.heights {S : jS} (H : Inv S) : ∃ R E, R ≤ 4 ∧ E ≤ 8 * R ∧ R ≤ E ∧ mRuns S = nI R ∧ mEnts S 4 = nI E := by
  obtain ⟨h0, a0, b0, -⟩ := H.rn 0 (by decide)
  obtain ⟨h1, a1, b1, -⟩ := H.rn 1 (by decide)
  obtain ⟨h2, a2, b2, -⟩ := H.rn 2 (by decide)
  obtain ⟨h3, a3, b3, -⟩ := H.rn 3 (by decide)
  have c0 : S.2 29 0 = nI h0 := by rw [← gN_in S (r := 29) (i := 0) (by decide)]; exact b0
  have c1 : S.2 29 1 = nI h1 := by rw [← gN_in S (r := 29) (i := 1) (by decide)]; exact b1
  have c2 : S.2 29 2 = nI h2 := by rw [← gN_in S (r := 29) (i := 2) (by decide)]; exact b2
  have c3 : S.2 29 3 = nI h3 := by rw [← gN_in S (r := 29) (i := 3) (by decide)]; exact b3
  have z : ∀ h : Nat, h ≤ 8 → (nI h = (0 : Int32) ↔ h = 0) := fun h hh => ⟨fun e => nI_ij (b := 0) (by omega) (by decide) e, fun e => by rw [e]; rfl⟩
  refine ⟨4 - ((if h0 = 0 then 1 else 0) + (if h1 = 0 then 1 else 0) + (if h2 = 0 then 1 else 0) + (if h3 = 0 then 1 else 0)), h0 + h1 + h2 + h3, by omega, ?_, ?_, ?_, ?_⟩
  · split <;> split <;> split <;> split <;> omega
  · split <;> split <;> split <;> split <;> omega
  · have e : jcnt S 29 0 = nI ((if h0 = 0 then 1 else 0) + (if h1 = 0 then 1 else 0) + (if h2 = 0 then 1 else 0) + (if h3 = 0 then 1 else 0)) := by
      unfold jcnt
      rw [show jlen 29 = 4 from rfl, rcnt, rcnt, rcnt, rcnt, rcnt, c0, c1, c2, c3]
      simp only [z h0 a0, z h1 a1, z h2 a2, z h3 a3, Nat.zero_add]
    unfold mRuns
    rw [e]
    exact nI_subn (a := 4) (by split <;> split <;> split <;> split <;> omega)
  · rw [mEnts, mEnts, mEnts, mEnts, mEnts]
    unfold mH
    have d0 : jg S 29 (nI 0) = nI h0 := b0
    have d1 : jg S 29 (nI 1) = nI h1 := b1
    have d2 : jg S 29 (nI 2) = nI h2 := b2
    have d3 : jg S 29 (nI 3) = nI h3 := b3
    rw [d0, d1, d2, d3, nI_a, nI_a, nI_a, Int32.zero_add]
theorem Inv.numR {S : jS} (H : Inv S) (x : Int32) : NumR S x := by
  have H3 : Inv (nu3 S x) := H.fr (fr_nu3 S x)
  obtain ⟨k, k1, k2⟩ := blw_r (x >>> (3 &&& 31)) (m := 60) (by decide) (by decide)
  have hz : nuZ x = nI (k + 1) := by
    unfold nuZ
    have e : blw (x >>> (3 &&& 31)) 60 = nI k := k2
    rw [e, Int32.add_comm, nI_succ]
  obtain ⟨R, E, r1, r2, r3, r4, r5⟩ := H3.heights
  have hm6 : tMany (nu3 S x) 6 = nI R := r4
  have hc : (nuZ x).toNatClampNeg = k + 1 := by rw [hz, nI_clamp (by omega)]
  have hmean : mMean (nu3 S x) = if R = 0 then FP.dconst0 else FP.ddiv (FP.i2d (nI E)) (FP.i2d (nI R)) := by
    unfold mMean
    rw [r4, r5]
    by_cases h : R = 0
    · rw [if_pos h, if_pos (by rw [h]; rfl)]
    · have hh : ¬ nI R = (0 : Int32) := fun e => h (nI_ij (b := 0) (by omega) (by decide) e)
      rw [if_neg h, if_neg hh]
  refine ⟨by omega, ?_, ?_, ?_, ?_, ?_, ?_, ?_, ?_, ?_, ?_, ?_, ?_, ?_⟩
  · rw [hz]
    exact if_pos ⟨by rw [Int32.not_lt]; exact nI_le (a := 1) (by omega) (by omega), nI_le (b := 200) (by omega) (by decide)⟩
  · rw [hc, hz]; intro j hj h
    rcases room_sp S 23 (z := k + 1) (by omega) (by omega) with e | ⟨p, e, e2, -⟩
    · rw [e] at h; exact absurd (by decide) h
    · rw [e, ← nI_a, ← nI_a]; exact nI_ge (by omega) (by omega)
  · left; rw [hc, hz]; exact Int32.le_refl _
  · rw [hc, hz]; intro j hj h
    rcases room_sp S 23 (z := k + 1) (by omega) (by omega) with e | ⟨p, e, e2, e3, -⟩
    · rw [e] at h; exact absurd (by decide) h
    · rw [e, ← nI_a]
      exact ⟨mw_of (n := 200) rfl (by omega) (by decide), e3 (p + j) (by omega) (by omega)⟩
  · rw [hz]; intro h _
    rcases room_sp S 23 (z := k + 1) (by omega) (by omega) with e | ⟨p, e, e2, -, e4⟩
    · rw [e] at h; exact absurd (by decide) h
    · rw [e] at h ⊢
      have hp : 0 < p := by
        refine Classical.byContradiction (fun z => ?_)
        have : p = 0 := by omega
        subst this; exact h (by decide)
      obtain ⟨m, rfl⟩ : ∃ m, p = m + 1 := ⟨p - 1, by omega⟩
      rw [nI_sub1]
      exact ⟨mw_of (n := 200) rfl (by omega) (by decide), e4 hp⟩
  · obtain ⟨c, c1, c2⟩ := try_9 S 100 (-1)
    unfold nu1; rw [c2]; exact nI_pos (by omega)
  · obtain ⟨c, c1, c2⟩ := try_9 (nu1 S) 5 (-1)
    unfold nu2; rw [c2]; exact nI_pos (by omega)
  · obtain ⟨o, o1, o2⟩ := blw_r x (m := 3) (by decide) (by decide)
    have e : blw x 3 = nI o := o2
    have h1 : (nu2 S).1 1 = nI 3 := (H.fr ((fr_try S _ _).tr (fr_try (nu1 S) _ _))).ob
    rw [e]; exact mw_of h1 o1 (by decide)
  · obtain ⟨c, c1, c2, -⟩ := try_3 (nu2 S) ((nu2 S).1 0) (blw x 3)
    unfold nu3; rw [c2]; exact nI_pos (by omega)
  · intro h
    rw [r4] at h ⊢
    rw [r5]
    have h0 : R ≠ 0 := fun e => h (by rw [e]; rfl)
    exact (mean_ok R (by omega) E (by omega) (by omega) r3 r2).1
  · intro h
    rw [hm6] at h
    have h0 : R = 0 := nI_ij (b := 0) (by omega) (by decide) h
    rw [hmean, if_pos h0]; exact mean_0.1
  · intro h
    rw [hm6] at h
    have h0 : R ≠ 0 := fun e => h (by rw [e]; rfl)
    rw [hmean, if_neg h0]
    exact (mean_ok R (by omega) E (by omega) (by omega) r3 r2).2.1
  · rw [hmean]
    by_cases h0 : R = 0
    · rw [if_pos h0]; exact mean_0.2
    · rw [if_neg h0]; exact (mean_ok R (by omega) E (by omega) (by omega) r3 r2).2.2
