/-! A reference more, of a piece that isn't laid. -/
section AddRef
variable {S : jS} {k m : Nat} {y b : Int32}
theorem ar_ne {r : Nat} (h : r ≠ 6 ∧ r ≠ 7 ∧ r ≠ 8) (p i : Int32) : jg (addRef S p y b) r i = jg S r i := by
  unfold addRef jadd
  rw [jg_jset_ne _ _ _ _ h.1, jg_jset_ne _ _ _ _ h.2.2, jg_jset_ne _ _ _ _ h.2.1]
theorem idx3 (p j : Nat) : nI p * 3 + nI j = nI (3 * p + j) := by rw [nI_a, Nat.mul_comm, nI_p]; rfl
theorem ar_6 (hk : k < 40) (e : gN S 6 k = nI m) (q : Nat) (hq : q < 40) : gN (addRef S (nI k) y b) 6 q = if q = k then nI (m + 1) else gN S 6 q := by
  unfold addRef jadd gN
  have e' : jg S 6 (nI k) = nI m := e
  rw [jg_jset_eq, jg_jset_ne (r := 8) (q := 6) _ _ _ _ (by decide), jg_jset_ne (r := 7) (q := 6) _ _ _ _ (by decide), e', nI_succ]
  by_cases h : q = k
  · subst h
    rw [if_pos ⟨⟨nI_pos' (by omega), nI_lt (b := 40) hk (by decide)⟩, rfl⟩, if_pos rfl]
  · rw [if_neg (fun z => h (nI_ij (by omega) (by omega) z.2)), if_neg h, jg_jset_ne (r := 8) (q := 6) _ _ _ _ (by decide), jg_jset_ne (r := 7) (q := 6) _ _ _ _ (by decide)]
theorem ar_7 (hk : k < 40) (hm : m < 3) (e : gN S 6 k = nI m) (q j : Nat) (hq : q < 40) (hj : j < 3) : gN (addRef S (nI k) y b) 7 (3 * q + j) = if q = k ∧ j = m then y else gN S 7 (3 * q + j) := by
  unfold addRef jadd gN
  have e' : jg S 6 (nI k) = nI m := e
  rw [jg_jset_ne (r := 6) (q := 7) _ _ _ _ (by decide), jg_jset_ne (r := 8) (q := 7) _ _ _ _ (by decide), jg_jset_eq, e', idx3]
  by_cases h : q = k ∧ j = m
  · obtain ⟨rfl, rfl⟩ := h
    rw [if_pos ⟨⟨nI_pos' (by omega), nI_lt (b := 120) (by omega) (by decide)⟩, rfl⟩, if_pos ⟨rfl, rfl⟩]
  · rw [if_neg (fun z => h (by have := nI_ij (by omega) (by omega) z.2; omega)), if_neg h]
theorem ar_1 (p : Int32) : (addRef S p y b).1 = S.1 := rfl
theorem Inv.addRef (H : Inv S) (hk : k < mPc S) (hm : m < 3) (e : gN S 6 k = nI m) (hy : ∃ t, t < 16 ∧ y = nI t) (hl : gN S 18 k = -1) (ho : gN S 2 k ≠ -1) : Inv (addRef S (nI k) y b) := by
  have hN := H.npN
  have hp : mPc (Jvm.Pilot.CLinkfactoryYardLaw_law_r1584_029b14.addRef S (nI k) y b) = mPc S := rfl
  have hn : mNP (Jvm.Pilot.CLinkfactoryYardLaw_law_r1584_029b14.addRef S (nI k) y b) = mNP S := rfl
  have gn : ∀ {r : Nat}, (r ≠ 6 ∧ r ≠ 7 ∧ r ≠ 8) → ∀ i, gN (Jvm.Pilot.CLinkfactoryYardLaw_law_r1584_029b14.addRef S (nI k) y b) r i = gN S r i := fun h i => ar_ne h _ _
  have e2 := fun i => gn (r := 2) (by decide) i
  have e3 := fun i => gn (r := 3) (by decide) i
  have e4 := fun i => gn (r := 4) (by decide) i
  have e17 := fun i => gn (r := 17) (by decide) i
  have e18 := fun i => gn (r := 18) (by decide) i
  have f17 := fun i => gn (r := 17 + 3 * 0) (by decide) i
  have f18 := fun i => gn (r := 18 + 3 * 0) (by decide) i
  have f23 := fun i => gn (r := 23 + 3 * 0) (by decide) i
  have f24 := fun i => gn (r := 24 + 3 * 0) (by decide) i
  have f25 := fun i => gn (r := 25 + 3 * 0) (by decide) i
  have e29 := fun i => gn (r := 29) (by decide) i
  have e30 := fun i => gn (r := 30) (by decide) i
  have e31 := fun i => gn (r := 31) (by decide) i
  have e33 := fun i => gn (r := 33) (by decide) i
  have eps : ∀ i, mPSym (Jvm.Pilot.CLinkfactoryYardLaw_law_r1584_029b14.addRef S (nI k) y b) i = mPSym S i := fun i => by
    unfold mPSym; rw [ar_ne (by decide), ar_ne (by decide)]
  have g6 : ∀ q, q < 40 → q ≠ k → gN (Jvm.Pilot.CLinkfactoryYardLaw_law_r1584_029b14.addRef S (nI k) y b) 6 q = gN S 6 q := fun q hq h => by rw [ar_6 (by omega) e q hq, if_neg h]
  have g7 : ∀ q j, q < 40 → j < 3 → ¬ (q = k ∧ j = m) → gN (Jvm.Pilot.CLinkfactoryYardLaw_law_r1584_029b14.addRef S (nI k) y b) 7 (3 * q + j) = gN S 7 (3 * q + j) := fun q j hq hj h => by rw [ar_7 (by omega) hm e q j hq hj, if_neg h]
  refine Inv0.up ⟨H.ob, H.np, H.nn, ?_, ?_, ?_, ?_, ?_, ?_, ?_, ?_⟩ ?_
  · rw [hp]; intro p hpp
    obtain ⟨n, n1, n2, n3⟩ := (H.pc p hpp).rf
    refine ⟨by rw [e3]; exact (H.pc p hpp).sy, by rw [e4]; exact (H.pc p hpp).sz, ?_, by rw [e2]; exact (H.pc p hpp).ow⟩
    by_cases hpk : p = k
    · subst hpk
      have : n = m := nI_ij (by omega) (by omega) (n2.symm.trans e)
      subst this
      refine ⟨n + 1, by omega, by rw [ar_6 (by omega) e p (by omega), if_pos rfl], fun j hj => ?_⟩
      by_cases hjn : j = n
      · subst hjn
        rw [ar_7 (by omega) hm e p j (by omega) hm, if_pos ⟨rfl, rfl⟩]; exact hy
      · rw [g7 p j (by omega) (by omega) (fun z => hjn z.2)]; exact n3 j (by omega)
    · refine ⟨n, n1, by rw [g6 p (by omega) hpk]; exact n2, fun j hj => ?_⟩
      rw [g7 p j (by omega) (by omega) (fun z => hpk z.1)]; exact n3 j hj
  · rw [hp]; intro p hpp h40; rw [g6 p h40 (by omega)]; exact H.rz p hpp h40
  · have h0 := H.im
    rw [hp]
    unfold Img at h0 ⊢
    simp only [e3, e4, f17, f18, f23, f24, f25]
    exact h0
  · rw [hp]; intro p hpp hd n j t h6 hn3 hj ht h7
    simp only [e18, e31, hn] at hd; rw [e17]
    by_cases hpk : p = k
    · subst hpk; rcases hd with z | z
      · exact absurd hl z
      · obtain ⟨i, i1, i2⟩ := z
        obtain ⟨p', y', b1, b2, b3, b4, b5, -⟩ := (H.pt i i1).ex
        have : p' = p := nI_ij (by omega) (by omega) (b2.symm.trans i2)
        subst this
        exact absurd b5 ho
    · rw [g6 p (by omega) hpk] at h6
      rw [g7 p j (by omega) (by omega) (fun z => hpk z.1)] at h7
      exact H.tg p hpp hd n j t h6 hn3 hj ht h7
  · simp only [hp, e29, e30, e18]; exact H.rn
  · rw [hn]; intro q hq
    have h0 := H.pt q hq
    unfold Pat at h0 ⊢
    simp only [e2, e3, e17, e18, e31, e33, hp]
    exact h0
  · simp only [hn, e31]; exact H.po
  · simp only [hn, e33, eps]; exact H.pw
  · have Q : Qk S (Jvm.Pilot.CLinkfactoryYardLaw_law_r1584_029b14.addRef S (nI k) y b) := by
      refine ⟨fun q => ?_, rfl, fun i => ar_ne (by decide) _ i, fun i _ => ar_ne (by decide) _ _, fun i _ => ar_ne (by decide) _ _, fun i _ => ar_ne (by decide) _ _, fun y' => ar_ne (by decide) _ _, room_cg (fun i => ar_ne (by decide) _ i), fun p h => ?_⟩
      · unfold mWait; rw [ar_ne (by decide), ar_1]
      · rw [runsW_cg (fun i => ar_ne (by decide) _ i) (fun i => ar_ne (by decide) _ i)] at h; exact h
    exact Q.keep H.nnN.2 H.qt
end AddRef
theorem st_r1 {k j : Nat} {S : jS} (hk : k < 6) (H : stPR k (j + 1) S) (v b : Int32) : gRefer S (nI k) (blw v 6) b = none ∧ stPR k j (addRef S (nI k) (blw v 6) b) := by
  obtain ⟨B, m, m1, m2⟩ := H
  obtain ⟨t, t1, t2⟩ := blw_r v (m := 6) (by decide) (by decide)
  have ht : blw v 6 = nI t := t2
  rw [ht]
  have hpc : mPc S = k + 1 := by unfold mPc; rw [B.n2, nI_clamp (by omega)]
  have hl := B.nl k (by omega)
  have ho := B.ow k (by omega)
  refine ⟨?_, ⟨B.iv.addRef (by omega) (by omega) m2 ⟨t, by omega, rfl⟩ hl ho, B.n2, fun p hp => ?_, fun r hr => ?_, fun p hp => ?_⟩, m + 1, by omega, ?_⟩
  · unfold gRefer
    rw [if_pos ⟨by rw [B.n2]; exact mw_of rfl (by omega) (by omega), mw_of (n := 16) rfl (by omega) (by decide)⟩, if_neg]
    rintro (h | h | h)
    · have e : jg S 6 (nI k) = nI m := m2
      rw [e] at h
      exact nI_ge (a := m) (b := 3) (by omega) (by decide) h
    · exact ho (of_decide_eq_true h)
    · exact of_decide_eq_true h hl
  · rw [show gN (addRef S (nI k) (nI t) b) 18 p = gN S 18 p from ar_ne (by decide) _ _]; exact B.nl p hp
  · rw [show gN (addRef S (nI k) (nI t) b) 29 r = gN S 29 r from ar_ne (by decide) _ _]; exact B.nr r hr
  · rw [show gN (addRef S (nI k) (nI t) b) 2 p = gN S 2 p from ar_ne (by decide) _ _]; exact B.ow p hp
  · rw [ar_6 (by omega) m2 k (by omega), if_pos rfl]
