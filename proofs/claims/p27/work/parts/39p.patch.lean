/-! What act asks for: a patch. -/
section AddRefP
variable {S : jS} {k m : Nat} {y b : Int32}
theorem Inv0.refP (H : Inv0 S) (hk : k < mPc S) (hm : m < 3) (e : gN S 6 k = nI m) {t0 : Nat} (ht0 : t0 < 16) (hy : y = nI t0) (hst : gN S 17 t0 ≠ -1) : Inv0 (addRef S (nI k) y b) := by
  have hN := H.npN
  have hp : mPc (addRef S (nI k) y b) = mPc S := rfl
  have hn : mNP (addRef S (nI k) y b) = mNP S := rfl
  have gn : ∀ {r : Nat}, (r ≠ 6 ∧ r ≠ 7 ∧ r ≠ 8) → ∀ i, gN (addRef S (nI k) y b) r i = gN S r i := fun h i => ar_ne h _ _
  have e2 := fun i => gn (r := 2) (by decide) i
  have e3 := fun i => gn (r := 3) (by decide) i
  have e4 := fun i => gn (r := 4) (by decide) i
  have e17 := fun i => gn (r := 17) (by decide) i
  have e18 := fun i => gn (r := 18) (by decide) i
  have f17 := fun i => gn (r := 17 + 3 * 0) (by decide) i
  have f18 := fun i => gn (r := 18 + 3 * 0) (by decide) i
  have f23 := fun i => gn (r := 23 + 3 * 0) (by decide) i
  have f24 := fun i => gn (r := 24 + 3 * 0) (by decide) i
  have f25 := fun i => gn (r := 25 + 3 * 0) (by decide) i
  have e29 := fun i => gn (r := 29) (by decide) i
  have e30 := fun i => gn (r := 30) (by decide) i
  have e31 := fun i => gn (r := 31) (by decide) i
  have e33 := fun i => gn (r := 33) (by decide) i
  have eps : ∀ i, mPSym (addRef S (nI k) y b) i = mPSym S i := fun i => by
    unfold mPSym; rw [ar_ne (by decide), ar_ne (by decide)]
  have g6 : ∀ q, q < 40 → q ≠ k → gN (addRef S (nI k) y b) 6 q = gN S 6 q := fun q hq h => by rw [ar_6 (by omega) e q hq, if_neg h]
  have g7 : ∀ q j, q < 40 → j < 3 → ¬ (q = k ∧ j = m) → gN (addRef S (nI k) y b) 7 (3 * q + j) = gN S 7 (3 * q + j) := fun q j hq hj h => by rw [ar_7 (by omega) hm e q j hq hj, if_neg h]
  have n7 : gN (addRef S (nI k) y b) 7 (3 * k + m) = nI t0 := by rw [ar_7 (by omega) hm e k m (by omega) hm, if_pos ⟨rfl, rfl⟩]; exact hy
  refine ⟨H.ob, H.np, H.nn, ?_, ?_, ?_, ?_, ?_, ?_, ?_, ?_⟩
  · rw [hp]; intro p hpp
    obtain ⟨n, n1, n2, n3⟩ := (H.pc p hpp).rf
    refine ⟨by rw [e3]; exact (H.pc p hpp).sy, by rw [e4]; exact (H.pc p hpp).sz, ?_, by rw [e2]; exact (H.pc p hpp).ow⟩
    by_cases hpk : p = k
    · subst hpk
      have : n = m := nI_ij (by omega) (by omega) (n2.symm.trans e)
      subst this
      refine ⟨n + 1, by omega, by rw [ar_6 (by omega) e p (by omega), if_pos rfl], fun j hj => ?_⟩
      by_cases hjn : j = n
      · subst hjn
        exact ⟨t0, ht0, n7⟩
      · rw [g7 p j (by omega) (by omega) (fun z => hjn z.2)]; exact n3 j (by omega)
    · refine ⟨n, n1, by rw [g6 p (by omega) hpk]; exact n2, fun j hj => ?_⟩
      rw [g7 p j (by omega) (by omega) (fun z => hpk z.1)]; exact n3 j hj
  · rw [hp]; intro p hpp h40; rw [g6 p h40 (by omega)]; exact H.rz p hpp h40
  · have h0 := H.im
    rw [hp]
    unfold Img at h0 ⊢
    simp only [e3, e4, f17, f18, f23, f24, f25]
    exact h0
  · rw [hp]; intro p hpp hd n j t h6 hn3 hj ht h7
    simp only [e18, e31, hn] at hd; rw [e17]
    by_cases hpj : p = k ∧ j = m
    · obtain ⟨rfl, rfl⟩ := hpj
      rw [n7] at h7
      have : t0 = t := nI_ij (by omega) (by omega) h7
      subst this
      exact hst
    · rw [g7 p j (by omega) (by omega) hpj] at h7
      by_cases hpk : p = k
      · subst hpk
        rw [ar_6 (by omega) e p (by omega), if_pos rfl] at h6
        have : m + 1 = n := nI_ij (by omega) (by omega) h6
        exact H.tg p hpp hd m j t e (by omega) (by omega) ht h7
      · rw [g6 p (by omega) hpk] at h6
        exact H.tg p hpp hd n j t h6 hn3 hj ht h7
  · simp only [hp, e29, e30, e18]; exact H.rn
  · rw [hn]; intro q hq
    have h0 := H.pt q hq
    unfold Pat at h0 ⊢
    simp only [e2, e3, e17, e18, e31, e33, hp]
    exact h0
  · simp only [hn, e31]; exact H.po
  · simp only [hn, e33, eps]; exact H.pw
end AddRefP
section Patch
variable {S : jS}
/-- the patch, before what can be is carried out -/
def Ptd (S : jS) (y : Int32) (U : jS) : Prop :=
  (Inv0 U) ∧
  (U.1 2 = nI (mPc S + 1)) ∧
  (U.1 18 = S.1 18) ∧
  (∀ k, gN U 31 k = gN S 31 k) ∧
  (∀ k, gN U 33 k = gN S 33 k) ∧
  (gN U 2 (mPc S) = -1) ∧
  (gN U 3 (mPc S) = y) ∧
  (gN U 18 (mPc S) = -1) ∧
  (∀ k, gN U 17 k = gN S 17 k) ∧
  (∀ k j t, gN U 6 (mPc S) = nI k → k ≤ 3 → j < k → t < 16 → gN U 7 (3 * mPc S + j) = nI t → gN S 17 t ≠ -1)
theorem Ptd.iv {S : jS} {y : Int32} {U : jS} (h : Ptd S y U) : Inv0 U := h.1
theorem Ptd.n2 {S : jS} {y : Int32} {U : jS} (h : Ptd S y U) : U.1 2 = nI (mPc S + 1) := h.2.1
theorem Ptd.n18 {S : jS} {y : Int32} {U : jS} (h : Ptd S y U) : U.1 18 = S.1 18 := h.2.2.1
theorem Ptd.o31 {S : jS} {y : Int32} {U : jS} (h : Ptd S y U) : ∀ k, gN U 31 k = gN S 31 k := h.2.2.2.1
theorem Ptd.o33 {S : jS} {y : Int32} {U : jS} (h : Ptd S y U) : ∀ k, gN U 33 k = gN S 33 k := h.2.2.2.2.1
theorem Ptd.p2 {S : jS} {y : Int32} {U : jS} (h : Ptd S y U) : gN U 2 (mPc S) = -1 := h.2.2.2.2.2.1
theorem Ptd.p3 {S : jS} {y : Int32} {U : jS} (h : Ptd S y U) : gN U 3 (mPc S) = y := h.2.2.2.2.2.2.1
theorem Ptd.p18 {S : jS} {y : Int32} {U : jS} (h : Ptd S y U) : gN U 18 (mPc S) = -1 := h.2.2.2.2.2.2.2.1
theorem Ptd.e17 {S : jS} {y : Int32} {U : jS} (h : Ptd S y U) : ∀ k, gN U 17 k = gN S 17 k := h.2.2.2.2.2.2.2.2.1
theorem Ptd.tg {S : jS} {y : Int32} {U : jS} (h : Ptd S y U) : ∀ k j t, gN U 6 (mPc S) = nI k → k ≤ 3 → j < k → t < 16 → gN U 7 (3 * mPc S + j) = nI t → gN S 17 t ≠ -1 := h.2.2.2.2.2.2.2.2.2
theorem pt1_ok (H : Inv0 S) (hn : mPc S < 40) {y z : Nat} (hy : y < 16) (hz : 1 ≤ z) (hz2 : z ≤ 20) : Ptd S (nI y) (pt1 S (nI y) (nI z)) ∧ gN (pt1 S (nI y) (nI z)) 6 (mPc S) = nI 0 := by
  obtain ⟨a2, a3, a4⟩ := ap_at (o := -1) (y := nI y) (z := nI z) (b := 1) H hn
  have h6 : gN (pt1 S (nI y) (nI z)) 6 (mPc S) = nI 0 := (ap_g (by decide) _).trans (H.rz _ (Nat.le_refl _) hn)
  refine ⟨⟨H.addPc hn ⟨y, hy, rfl⟩ ⟨z, hz, hz2, rfl⟩ (Or.inl rfl), ap_2 H, ap_n (by decide), fun k => ap_g (by decide) k, fun k => ap_g (by decide) k, a2, a3, ?_, fun k => ap_g (by decide) k, fun k j t hk hk3 hj => ?_⟩, h6⟩
  · exact (ap_g (by decide) _).trans (H.im.pz _ (Nat.le_refl _) hn)
  · rw [h6] at hk
    have : 0 = k := nI_ij (by omega) (by omega) hk
    omega
theorem pt2_ok (H : Inv0 S) (hn : mPc S < 40) {y z : Nat} (hy : y < 16) (hz : 1 ≤ z) (hz2 : z ≤ 20) {t : Int32} (ht : t = -1 ∨ ∃ t', t' < 16 ∧ t = nI t' ∧ gN S 17 t' ≠ -1) : Ptd S (nI y) (pt2 S (nI y) (nI z) t) := by
  obtain ⟨P, h6⟩ := pt1_ok H hn hy hz hz2
  have hN := H.npN
  unfold pt2
  rcases ht with ht | ⟨t', t1, t2, t3⟩
  · rw [if_pos ht]; exact P
  · rw [if_neg (by rw [t2]; exact nI_m1 (by omega)), Int32.add_sub_cancel, hN.1]
    generalize pt1 S (nI y) (nI z) = U at P h6
    have hpc : mPc U = mPc S + 1 := by unfold mPc; rw [P.n2, nI_clamp (by unfold mPc at hn; omega)]; rfl
    have g : ∀ {r : Nat}, (r ≠ 6 ∧ r ≠ 7 ∧ r ≠ 8) → ∀ i, gN (addRef U (nI (mPc S)) t 0) r i = gN U r i := fun h i => ar_ne h _ _
    exact ⟨P.iv.refP (by omega) (by decide) h6 t1 t2 (by rw [P.e17]; exact t3), P.n2, P.n18, fun k => (g (by decide) k).trans (P.o31 k), fun k => (g (by decide) k).trans (P.o33 k), (g (by decide) _).trans P.p2, (g (by decide) _).trans P.p3, (g (by decide) _).trans P.p18, fun k => (g (by decide) k).trans (P.e17 k), fun k j t hk hk3 hj ht16 h7 => by
      rw [ar_6 (by omega) h6 (mPc S) hn, if_pos rfl] at hk
      have : 0 + 1 = k := nI_ij (by omega) (by omega) hk
      have hj0 : j = 0 := by omega
      subst hj0
      rw [ar_7 hn (by decide) h6 (mPc S) 0 hn (by decide), if_pos ⟨rfl, rfl⟩, t2] at h7
      have : t' = t := nI_ij (by omega) (by omega) h7
      subst this
      exact t3⟩
theorem act_patch (H : Inv S) (x : Int32) (hg : gPatch S (aY x) (aZ x) (aK x) (aT x) = none) : ActPatch S (jPat S (aY x) (aZ x) (aK x) (aT x)) (aY x) ((pt2 S (aY x) (aZ x) (aT x)).1 18 + 1 - 1) ∧ Inv (jPat S (aY x) (aZ x) (aK x) (aT x)) ∧ mDone S ≤ mDone (jPat S (aY x) (aZ x) (aK x) (aT x)) := by
  obtain ⟨y, y1, y2⟩ := act_sym x
  obtain ⟨z, z1, z2, z3⟩ := act_zs x
  obtain ⟨t', t1, t2⟩ := blw_r (x >>> (7 &&& 31)) (m := 7) (by decide) (by decide)
  have hN := H.npN
  have hM := H.nnN
  have ht : aT x = nI t' - 1 := by
    have e : blw (x >>> (7 &&& 31)) 7 = nI t' := t2
    show blw (x >>> (7 &&& 31)) 7 - 1 = _
    rw [e]
  generalize aT x = t at hg ht
  generalize aK x = g at hg
  rw [y2, z3] at hg ⊢
  unfold gPatch at hg
  split at hg
  · split at hg
    · split at hg
      · rename_i hc
        obtain ⟨c1, c2, c3, c4⟩ := hc
        have hst : gN S 17 y ≠ -1 := of_decide_eq_true c1
        have hn8 : mNP S < 8 := by
          refine Classical.byContradiction (fun q => c3 ?_)
          rw [hM.1]; exact nI_le (a := 8) (by omega) (by omega)
        have hn40 : mPc S < 40 := by
          refine Classical.byContradiction (fun q => absurd c4 ?_)
          rw [Int32.not_lt, hN.1]; exact nI_le (a := 40) (by omega) (by omega)
        have htt : t = -1 ∨ ∃ t', t' < 16 ∧ t = nI t' ∧ gN S 17 t' ≠ -1 := by
          by_cases e0 : t' = 0
          · left; rw [ht, e0]; rfl
          · right
            obtain ⟨u, rfl⟩ : ∃ u, t' = u + 1 := ⟨t' - 1, by omega⟩
            rw [nI_sub1] at ht
            refine ⟨u, by omega, ht, ?_⟩
            rcases c2 with c2 | c2
            · rw [ht] at c2; exact absurd c2 (nI_m1 (by omega))
            · rw [ht] at c2; exact of_decide_eq_true c2
        have P := pt2_ok H.to0 hn40 (y := y) (by omega) z1 z2 htt
        have ePat : jPat S (nI y) (nI z) g t = jCarryAll (jPAdd (pt2 S (nI y) (nI z) t) (nI (mPc S)) g) := by
          unfold jPat; rw [Int32.add_sub_cancel, hN.1]
        rw [ePat]
        generalize pt2 S (nI y) (nI z) t = U at P
        have hpU : mPc U = mPc S + 1 := by
          show (U.1 2).toNatClampNeg = _
          rw [P.n2, nI_clamp (by omega)]
        have hnU : mNP U = mNP S := by unfold mNP; rw [P.n18]
        have IP : Inv0 (jPAdd U (nI (mPc S)) g) := P.iv.padd (by omega) (by omega) (fun k q hk hq h => by
          rw [P.o31] at h
          obtain ⟨p', y', b1, b2, -⟩ := (H.pt k (by omega)).ex
          have : p' = q := nI_ij (by omega) (by omega) (b2.symm.trans h)
          omega) P.p2 P.p3 (by omega) P.p18 (by rw [P.e17]; exact hst) (fun k j t h6 hk3 hj ht16 h7 => by rw [P.e17]; exact P.tg k j t h6 hk3 hj ht16 h7)
        obtain ⟨IV, C⟩ := all_ok IP
        have n31 : gN (jPAdd U (nI (mPc S)) g) 31 (mNP S) = nI (mPc S) := by
          rw [(pa_31 P.iv (by omega) (mNP S) hn8).1, if_pos hnU.symm]
        have T31 : jg (jCarryAll (jPAdd U (nI (mPc S)) g)) 31 (nI (mNP S)) = nI (mPc S) := (fk_gN C.fk (r := 31) (by decide) _).trans n31
        have T3 : jg (jCarryAll (jPAdd U (nI (mPc S)) g)) 3 (nI (mPc S)) = nI y := (fk_gN C.fk (r := 3) (by decide) _).trans ((pa_ne (by decide) _).trans P.p3)
        have T2 : jg (jCarryAll (jPAdd U (nI (mPc S)) g)) 2 (nI (mPc S)) = -1 := (fk_gN C.fk (r := 2) (by decide) _).trans ((pa_ne (by decide) _).trans P.p2)
        have T18 : (jCarryAll (jPAdd U (nI (mPc S)) g)).1 18 = nI (mNP S + 1) := by rw [C.fk.2.2.1, pa_18 P.iv, hnU]
        have Tn2 : (jCarryAll (jPAdd U (nI (mPc S)) g)).1 2 = nI (mPc S + 1) := by rw [C.fk.2.1, pa_n _ _ (by decide), P.n2]
        have m7 : tMany S 7 = nI (mNP S) := hM.1
        have m1 : tMany S 1 = nI (mPc S) := hN.1
        refine ⟨⟨?_, ?_, ?_, ?_, ?_, ?_⟩, IV, ?_⟩
        · rw [Int32.add_sub_cancel, P.n18]; rfl
        · rw [m7, T18]; exact mw_of rfl (by omega) (by omega)
        · rw [m7, m1]; exact T31
        · rw [m7]
          show jg (jCarryAll (jPAdd U (nI (mPc S)) g)) 3 (jg (jCarryAll (jPAdd U (nI (mPc S)) g)) 31 (nI (mNP S))) = nI y
          rw [T31, T3]
        · rw [m1, Tn2]; exact mw_of rfl (by omega) (by omega)
        · rw [m1]; exact T2
        · have hnT : mNP (jPAdd U (nI (mPc S)) g) = mNP S + 1 := by rw [pa_np P.iv, hnU]
          refine done_le (n := mNP S) (m := mNP S + 1) rfl ((fk_np C.fk).trans hnT) (by omega) (by omega) (fun k hk hz => ?_)
          have e33 : gN (jPAdd U (nI (mPc S)) g) 33 k = gN S 33 k := by
            rw [(pa_31 P.iv (by omega) k (by omega)).2, if_neg (by omega), P.o33]
          exact (C.w k (by omega) (by rw [e33]; exact hz)).trans e33
      · cases hg
    · cases hg
  · cases hg
end Patch
