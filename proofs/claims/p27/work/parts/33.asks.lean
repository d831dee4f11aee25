/-! What areSymbolsRight and arePatchesRight ask for, out of the invariant. -/
theorem nI_sub1 (m : Nat) : nI (m + 1) - 1 = nI m := by rw [nI_succ, Int32.add_sub_cancel]
theorem nI_subn {a b c : Nat} (h : a = b + c) : nI a - nI b = nI c := by
  rw [h, nI_a, Int32.add_comm, Int32.add_sub_cancel]
theorem mw_of {p n : Nat} {x : Int32} (hx : x = nI n) (h : p < n) (hn : n < 2 ^ 31) : mWithin (nI p) x = true := by
  rw [hx]; exact decide_eq_true ⟨nI_pos' (by omega), nI_lt h hn⟩
section AskS
variable {S : jS}
theorem Inv.jc (S : jS) (v : Int32) : jcnt S 23 v = nI (cnt (fun q => decide (gN S 23 q = v)) 200) := by
  unfold jcnt
  rw [rcnt_cnt, show jlen 23 = 200 from rfl, cnt_cg (Q := fun q => decide (gN S 23 q = v)) (fun q hq => by rw [gN_in S (r := 23) (i := q) hq])]
theorem cnt_all : ∀ n, cnt (fun _ => true) n = n
  | 0 => rfl
  | n + 1 => by rw [cnt, cnt_all n]; rfl
theorem kd_sum (f : Nat → Int32) : ∀ n, (∀ q, q < n → f q = 0 ∨ f q = 1 ∨ f q = 2 ∨ f q = 3) → n = cnt (fun q => decide (f q = 0)) n + (cnt (fun q => decide (f q = 1)) n + (cnt (fun q => decide (f q = 2)) n + cnt (fun q => decide (f q = 3)) n))
  | 0, _ => rfl
  | n + 1, h => by
    have ih := kd_sum f n (fun q hq => h q (by omega))
    rw [cnt, cnt, cnt, cnt]
    rcases h n (by omega) with e | e | e | e <;> simp [e] <;> omega
theorem w3 {c0 c1 c2 c3 n : Nat} (h : n = c0 + (c1 + (c2 + c3))) : nI n - nI c0 = nI c1 + nI c2 + nI c3 := by
  rw [← nI_a, ← nI_a]; exact nI_subn (by omega)
theorem Inv.kh (H : Inv S) : cnt (kHB S (mPc S)) 200 = cnt (fun q => decide (gN S 23 q = 1)) 200 := cnt_cg (fun q hq => by
    have hN := H.npN.2
    unfold kHB
    by_cases hk : gN S 23 q = 1
    · obtain ⟨p, a, z, g1, g2, -⟩ := (H.im).kw q hq hk
      have g2' : gN S 24 q = nI p := g2
      rw [g2', nI_clamp (by omega)]; simp [hk, g1]
    · simp [hk])
theorem Inv.words (H : Inv S) : tMany S 3 = mUsed S (mPc S) + tMany S 4 + tMany S 5 := by
  have e3 : tMany S 3 = nI 200 - jcnt S 23 0 := rfl
  have e4 : tMany S 4 = jcnt S 23 2 := rfl
  have e5 : tMany S 5 = jcnt S 23 3 := rfl
  have hs := kd_sum (fun q => gN S 23 q) 200 (fun q hq => (H.im).kd q hq)
  rw [e3, e4, e5, H.used _ (Nat.le_refl _), H.kh, Inv.jc, Inv.jc, Inv.jc]
  exact w3 hs
theorem Inv.symA (H : Inv S) (i : Nat) (hi : i < mPc S) : tPiece S (nI i) 6 ≤ 0 ∨ 0 ≤ tPiece S (nI i) 5 := by
  have hN := H.npN
  · rcases (H.im).pl i hi with h | ⟨a, z, h1, h2, h3, h4, h5⟩
    · left
      have e : tPiece S (nI i) 6 = mRunsW S (nI i) 4 := by simp [tPiece]
      rw [e, runsW_0 (fun r hr => H.backs0 (by have : i < mPc S := hi; omega) hr h)]
      decide
    · right
      have e : tPiece S (nI i) 5 = gN S (18 + 3 * 0) i := rfl
      rw [e, h1]; exact nI_pos' (by omega)
theorem Inv.symB (H : Inv S) (y : Nat) (hy : y < 16) (h : ¬ 0 ≤ tSymbol S (nI y) 0) : tSymbol S (nI y) 1 = -1 ∧ tSymbol S (nI y) 2 = -1 ∧ tSymbol S (nI y) 3 = 0 := by
  have hN := H.npN
  · have e : tSymbol S (nI y) 0 = gN S (17 + 3 * 0) y := rfl
    rcases (H.im).st y hy with g | ⟨p, h1, h2, -⟩
    · have g' : mStand S 1 (nI y) = -1 := g
      refine ⟨?_, (H.im).jz y hy g, H.noWait hy g⟩
      have e1 : tSymbol S (nI y) 1 = mPlace S 1 (mStand S 1 (nI y)) := rfl
      rw [e1, g']
      exact jg_neg _ _ (by decide)
    · rw [e, h2] at h
      exact absurd (nI_pos' (by omega)) h
theorem Inv.symCC (H : Inv S) (y : Nat) (hy : y < 16) (h : ¬ tSymbol S (nI y) 0 < 0) : SymC S (nI y) := by
  have hN := H.npN
  · have e : tSymbol S (nI y) 0 = gN S (17 + 3 * 0) y := rfl
    rcases (H.im).st y hy with g | ⟨p, h1, h2, h3, h4⟩
    · rw [e, g] at h; exact absurd (by decide) h
    · have e0 : tSymbol S (nI y) 0 = nI p := h2
      have e1 : tSymbol S (nI y) 1 = gN S 18 p := by
        have e1 : tSymbol S (nI y) 1 = mPlace S 1 (mStand S 1 (nI y)) := rfl
        have g' : mStand S 1 (nI y) = nI p := h2
        rw [e1, g']; rfl
      rcases (H.im).pl p h1 with g | ⟨a, z, g1, g2, g3, g4, g5⟩
      · exact absurd g h4
      · have g1' : gN S 18 p = nI a := g1
        have e5 : tPiece S (nI p) 5 = gN S 18 p := rfl
        have e2 : tPiece S (nI p) 2 = nI z := g2
        have ew : nI a + nI z - 1 = nI (a + z - 1) := by
          rw [← nI_a]
          obtain ⟨m, hm⟩ : ∃ m, a + z = m + 1 := ⟨a + z - 1, by omega⟩
          rw [hm, nI_sub1]; rfl
        refine ⟨?_, ?_, ?_, ?_, ?_, ?_, ?_, ?_, ?_⟩
        · rw [e0]; exact mw_of hN.1 h1 (by omega)
        · rw [e0]; exact h3
        · rw [e0, e1, e5]
        · rw [e1, g1']; exact nI_pos (by omega)
        · rw [e1, g1']; exact mw_of (n := 200) rfl (by omega) (by decide)
        · rw [e1, g1']; exact (g5 a (by omega) (by omega)).1
        · rw [e0, e1, g1']; exact (g5 a (by omega) (by omega)).2
        · rw [e0, e1, g1', e2, ew]; exact mw_of (n := 200) rfl (by omega) (by decide)
        · rw [e0, e1, g1', e2, ew]; exact (g5 (a + z - 1) (by omega) (by omega)).2
theorem Inv.symD (H : Inv S) (y : Nat) (hy : y < 16) (h : ¬ tSymbol S (nI y) 2 < 0) : mWithin (tSymbol S (nI y) 2) 200 = true ∧ tWord S (tSymbol S (nI y) 2) 0 = 3 ∧ tWord S (tSymbol S (nI y) 2) 1 = nI y := by
  have hN := H.npN
  · have e : tSymbol S (nI y) 2 = gN S (25 + 3 * 0) y := rfl
    rcases (H.im).jm y hy with g | ⟨q, h1, h2, h3, h4⟩
    · rw [e, g] at h; exact absurd (by decide) h
    · rw [e, h2]
      exact ⟨mw_of (n := 200) rfl h1 (by decide), h3, h4⟩
theorem Inv.symR (H : Inv S) : SymR S := ⟨H.npN.2, H.symA, H.symB, H.symCC, H.symD, H.words⟩
theorem backs_nI (H : Inv S) {r : Nat} (hr : r < 4) (p : Int32) : ∃ b, b ≤ 8 ∧ mBacks S (nI r) p = nI b := by
  obtain ⟨hh, h1, h2, h3⟩ := H.rn r hr
  unfold mBacks mH
  have e : jg S 29 (nI r) = nI hh := h2
  rw [e, nI_clamp (by omega)]
  split
  · rename_i k hk
    have hlt : k < hh := by
      have : ∀ n, jfind (mBkQ S (nI r) p) n = some k → k < n := fun n => by
        induction n with
        | zero => intro h; cases h
        | succ n ih =>
          intro h
          rw [jfind] at h
          split at h
          · rename_i j hj; cases h; exact Nat.lt_succ_of_lt (ih hj)
          · split at h
            · cases h; exact Nat.lt_succ_self _
            · cases h
      exact this _ hk
    exact ⟨hh - k, by omega, nI_subn (by omega)⟩
  · exact ⟨0, by omega, rfl⟩
theorem backT_nI (H : Inv S) (p : Int32) : ∃ b0 b1 b2 b3, b0 ≤ 8 ∧ b1 ≤ 8 ∧ b2 ≤ 8 ∧ b3 ≤ 8 ∧ mBacks S (nI 0) p = nI b0 ∧ mBacks S (nI 1) p = nI b1 ∧ mBacks S (nI 2) p = nI b2 ∧ mBacks S (nI 3) p = nI b3 ∧ mBackT S p 4 = nI (b0 + b1 + b2 + b3) := by
  obtain ⟨b0, h0, e0⟩ := backs_nI H (r := 0) (by decide) p
  obtain ⟨b1, h1, e1⟩ := backs_nI H (r := 1) (by decide) p
  obtain ⟨b2, h2, e2⟩ := backs_nI H (r := 2) (by decide) p
  obtain ⟨b3, h3, e3⟩ := backs_nI H (r := 3) (by decide) p
  refine ⟨b0, b1, b2, b3, h0, h1, h2, h3, e0, e1, e2, e3, ?_⟩
  rw [mBackT, mBackT, mBackT, mBackT, mBackT, e0, e1, e2, e3, nI_a, nI_a, nI_a, Int32.zero_add]
theorem cnt_le (P : Nat → Bool) : ∀ n, cnt P n ≤ n
  | 0 => Nat.le_refl _
  | n + 1 => by
    have := cnt_le P n
    rw [cnt]; split <;> omega
theorem cnt_pos {P : Nat → Bool} : ∀ {n i : Nat}, i < n → P i = true → 1 ≤ cnt P n
  | n + 1, i, hi, h => by
    rw [cnt]
    by_cases e : i = n
    · subst e; rw [if_pos h]; omega
    · have := cnt_pos (P := P) (n := n) (i := i) (by omega) h
      omega
theorem waitFor_cnt (y : Int32) : ∀ n, mWaitFor S y n = nI (cnt (fun k => mWait S (nI k) && decide (mPSym S (nI k) = y)) n)
  | 0 => rfl
  | n + 1 => by
    rw [mWaitFor, cnt, nI_a, waitFor_cnt y n]
    by_cases h : mWait S (nI n) = true ∧ mPSym S (nI n) = y
    · rw [if_pos h, if_pos (by simp [h.1, h.2])]; rfl
    · rw [if_neg h, if_neg (by simpa using h)]; exact (Int32.add_zero _).symm
theorem first_no {y : Int32} : ∀ {n : Nat}, ¬ mFirst S y n = 0 → ∀ j, j < n → ¬ (tPatch S (nI j) 3 = 0 ∧ tPatch S (nI j) 0 = y)
  | n + 1, h, j, hj, hh => by
    rw [mFirst] at h
    by_cases e : j = n
    · subst e
      rw [if_pos hh.1, if_pos hh.2, Int32.and_zero] at h
      exact h rfl
    · refine first_no (n := n) (fun z => ?_) j (by omega) hh
      rw [z] at h
      simp only [Int32.zero_and, ite_self] at h
      exact h trivial
theorem jany_no {q : Nat → Bool} : ∀ {N : Nat}, (∀ i, i < N → q i = false) → jany q N = false
  | 0, _ => rfl
  | N + 1, h => by rw [jany, jany_no (fun i hi => h i (by omega)), h N (by omega)]; rfl
theorem waitN_eq (H : Inv S) : ∀ n, n ≤ mNP S → mWaiting S n = mWaitN S n
  | 0, _ => rfl
  | n + 1, hn => by
    rw [mWaiting, mWaitN, waitN_eq H n (by omega)]
    have e : tPatch S (nI n) 3 = gN S 33 n := rfl
    rw [e]
    have hs := (H.pt n (by omega)).st
    by_cases h : gN S 33 n = 0
    · rw [if_pos ((H.wait (by omega)).mpr h), if_pos (by rw [h]; decide)]
    · rw [if_neg (fun z => h ((H.wait (by omega)).mp z)), if_neg (by rcases hs with z | z | z <;> rw [z] <;> first | exact absurd z h | decide)]
theorem Inv.patR (H : Inv S) : PatR S := by
  have hN := H.npN
  have hn := H.nnN
  refine ⟨hn.2, fun i hi => ?_, fun i hi => ?_, fun i hi => ?_, fun i hi => ?_, fun i hi h => ?_, fun i hi h => ?_, fun i hi h => ?_, fun i hi h h2 h3 h4 => ?_, waitN_eq H _ (Nat.le_refl _)⟩
  · have e : tPatch S (nI i) 3 = gN S 33 i := rfl
    rw [e]; rcases (H.pt i hi).st with z | z | z <;> rw [z] <;> decide
  · have e : tPatch S (nI i) 3 = gN S 33 i := rfl
    rw [e]; rcases (H.pt i hi).st with z | z | z <;> rw [z] <;> decide
  · obtain ⟨p, y, h1, h2, -⟩ := (H.pt i hi).ex
    have e : tPatch S (nI i) 1 = nI p := h2
    rw [e]; exact mw_of hN.1 h1 (by omega)
  · obtain ⟨p, y, h1, h2, h3, h4, -⟩ := (H.pt i hi).ex
    have e : tPatch S (nI i) 0 = nI y := H.psym h2 h3
    rw [e]; exact mw_of (n := 16) rfl h4 (by decide)
  · obtain ⟨p, y, h1, h2, h3, h4, h5, h6, -⟩ := (H.pt i hi).ex
    have e : tPatch S (nI i) 1 = nI p := h2
    rw [e]; exact h6 h
  · obtain ⟨p, y, h1, h2, h3, h4, h5, h6, h7, -⟩ := (H.pt i hi).ex
    obtain ⟨s, s1, s2, s3⟩ := h7 h
    have e : tPatch S (nI i) 1 = nI p := h2
    have e0 : tPatch S (nI i) 0 = nI y := H.psym h2 h3
    have e1 : tSymbol S (nI y) 0 = nI s := s2
    rw [e, e0, e1]; exact nI_le s3 (by omega)
  · have hi : i < mNP S := hi
    have es : tPatch S (nI i) 3 = gN S 33 i := rfl
    have hw : gN S 33 i = 0 := by
      rw [es] at h
      rcases (H.pt i hi).st with z | z | z
      · exact z
      · rw [z] at h; exact absurd h (by decide)
      · rw [z] at h; exact absurd h (by decide)
    have hwt := (H.wait hi).mpr hw
    refine ⟨?_, if_pos hwt, ?_, ?_⟩
    · have e : tSymbol S (tPatch S (nI i) 0) 3 = mWaitFor S (mPSym S (nI i)) (mNP S) := rfl
      rw [e, waitFor_cnt]
      have h1 := cnt_pos (P := fun k => mWait S (nI k) && decide (mPSym S (nI k) = mPSym S (nI i))) hi (by simp [hwt])
      have h2 := cnt_le (fun k => mWait S (nI k) && decide (mPSym S (nI k) = mPSym S (nI i))) (mNP S)
      rw [Int32.not_lt]
      exact nI_le (a := 1) h1 (by omega)
    · obtain ⟨b0, b1, b2, b3, g0, g1, g2, g3, -, -, -, -, e⟩ := backT_nI H (mStand S 1 (mPSym S (nI i)))
      unfold bkF; rw [e]; exact nI_pos (by omega)
    · obtain ⟨b0, b1, b2, b3, g0, g1, g2, g3, -, -, -, -, e⟩ := backT_nI H (mStand S 1 (mPSym S (nI i)))
      unfold bkF; rw [e]; exact nI_le (b := 32) (by omega) (by decide)
  · have hi : i < mNP S := hi
    have es : tPatch S (nI i) 3 = gN S 33 i := rfl
    have hw : gN S 33 i = 0 := by
      rw [es] at h
      rcases (H.pt i hi).st with z | z | z
      · exact z
      · rw [z] at h; exact absurd h (by decide)
      · rw [z] at h; exact absurd h (by decide)
    have hwt := (H.wait hi).mpr hw
    obtain ⟨p, y, p1, p2, p3, p4, p5, -⟩ := (H.pt i hi).ex
    obtain ⟨z, z1, z2, z3⟩ := (H.pc p p1).sz
    have ep : tPatch S (nI i) 1 = nI p := p2
    have ez : tPiece S (nI p) 2 = nI z := z3
    rw [ep, ez]
    have hgp : gPlace S (nI z) = none := if_pos ⟨by rw [Int32.not_lt]; exact nI_le (a := 1) z1 (by omega), nI_le (b := 200) (by omega) (by decide)⟩
    refine ⟨hgp, ?_⟩
    have hq := H.qt i hi
    unfold mCan at hq
    rw [hwt, Bool.true_and, Bool.not_eq_false'] at hq
    have hx : ∃ j, j < mNP S ∧ mCanQ S (nI i) j = true := by
      refine Classical.byContradiction (fun hno => ?_)
      rw [jany_no (fun j hj => by
        cases hc : mCanQ S (nI i) j with
        | false => rfl
        | true => exact absurd ⟨j, hj, hc⟩ hno)] at hq
      cases hq
    obtain ⟨j, hj, hc⟩ := hx
    unfold mCanQ mGoes mTog at hc
    have hg : jg S 32 (nI i) = 0 := h2
    rw [hg] at hc
    simp only [ne_eq, not_true_eq_false, decide_false, Bool.false_and, Bool.or_false, Bool.and_eq_true, decide_eq_true_eq, Bool.not_eq_true'] at hc
    obtain ⟨⟨hji, -⟩, hcl⟩ := hc
    rw [hji] at hcl
    have hwb : mWB S (nI i) = false := by
      unfold mWB
      rw [nI_clamp (by omega)]
      refine jany_no (fun k hk => ?_)
      unfold mWBQ
      have := first_no h3 k hk
      by_cases hwk : mWait S (nI k) = true
      · rw [hwk, Bool.true_and]
        refine decide_eq_false (fun e => this ⟨(H.wait (by omega)).mp hwk, e⟩)
      · simp [hwk]
    have hrw : mRunsW S (mStand S 1 (jg S 3 (jg S 31 (nI i)))) 4 = 0 := by
      obtain ⟨b0, b1, b2, b3, g0, g1, g2, g3, e0, e1, e2, e3, e⟩ := backT_nI H (mStand S 1 (mPSym S (nI i)))
      unfold bkF at h4
      rw [e] at h4
      have h0 : b0 + b1 + b2 + b3 = 0 := nI_ij (by omega) (by decide) h4
      refine runsW_0 (fun r hr => ?_)
      have hb0 : b0 = 0 := by omega
      have hb1 : b1 = 0 := by omega
      have hb2 : b2 = 0 := by omega
      have hb3 : b3 = 0 := by omega
      subst hb0; subst hb1; subst hb2; subst hb3
      rcases (by omega : r = 0 ∨ r = 1 ∨ r = 2 ∨ r = 3) with rfl | rfl | rfl | rfl
      · exact e0
      · exact e1
      · exact e2
      · exact e3
    unfold mClear at hcl
    rw [hwb, hrw] at hcl
    have e31 : jg S 31 (nI i) = nI p := p2
    have e4 : jg S 4 (nI p) = nI z := z3
    rw [e31, e4] at hcl
    simp only [Bool.not_false, decide_true, Bool.true_and, ne_eq, decide_eq_false_iff_not, Classical.not_not] at hcl
    rw [hcl]; decide
end AskS
