/-! The invariant without its last word, and steps that keep it. -/
def Inv0 (S : jS) : Prop :=
  (S.1 1 = 3) ∧
  (0 ≤ S.1 2 ∧ S.1 2 ≤ 40) ∧
  (0 ≤ S.1 18 ∧ S.1 18 ≤ 8) ∧
  (∀ p, p < mPc S → Pce S p) ∧
  (∀ p, mPc S ≤ p → p < 40 → gN S 6 p = 0) ∧
  (Img S 0 (mPc S)) ∧
  (∀ p, p < mPc S → (gN S 18 p ≠ -1 ∨ ∃ i, i < mNP S ∧ gN S 31 i = nI p) → ∀ k j t, gN S 6 p = nI k → k ≤ 3 → j < k → t < 16 → gN S 7 (3 * p + j) = nI t → gN S 17 t ≠ -1) ∧
  (∀ r, r < 4 → ∃ h, h ≤ 8 ∧ gN S 29 r = nI h ∧ ∀ k, k < h → ∃ p, p < mPc S ∧ gN S 30 (8 * r + k) = nI p ∧ gN S 18 p ≠ -1) ∧
  (∀ k, k < mNP S → Pat S k) ∧
  (∀ j k p q, j < k → k < mNP S → p < 40 → q < 40 → gN S 31 j = nI p → gN S 31 k = nI q → p < q) ∧
  (∀ j k, j < k → k < mNP S → gN S 33 j = 0 → gN S 33 k = 1 → mPSym S (nI j) ≠ mPSym S (nI k))
theorem Inv0.ob {S : jS} (h : Inv0 S) : S.1 1 = 3 := h.1
theorem Inv0.np {S : jS} (h : Inv0 S) : 0 ≤ S.1 2 ∧ S.1 2 ≤ 40 := h.2.1
theorem Inv0.nn {S : jS} (h : Inv0 S) : 0 ≤ S.1 18 ∧ S.1 18 ≤ 8 := h.2.2.1
theorem Inv0.pc {S : jS} (h : Inv0 S) : ∀ p, p < mPc S → Pce S p := h.2.2.2.1
theorem Inv0.rz {S : jS} (h : Inv0 S) : ∀ p, mPc S ≤ p → p < 40 → gN S 6 p = 0 := h.2.2.2.2.1
theorem Inv0.im {S : jS} (h : Inv0 S) : Img S 0 (mPc S) := h.2.2.2.2.2.1
theorem Inv0.tg {S : jS} (h : Inv0 S) : ∀ p, p < mPc S → (gN S 18 p ≠ -1 ∨ ∃ i, i < mNP S ∧ gN S 31 i = nI p) → ∀ k j t, gN S 6 p = nI k → k ≤ 3 → j < k → t < 16 → gN S 7 (3 * p + j) = nI t → gN S 17 t ≠ -1 := h.2.2.2.2.2.2.1
theorem Inv0.rn {S : jS} (h : Inv0 S) : ∀ r, r < 4 → ∃ h, h ≤ 8 ∧ gN S 29 r = nI h ∧ ∀ k, k < h → ∃ p, p < mPc S ∧ gN S 30 (8 * r + k) = nI p ∧ gN S 18 p ≠ -1 := h.2.2.2.2.2.2.2.1
theorem Inv0.pt {S : jS} (h : Inv0 S) : ∀ k, k < mNP S → Pat S k := h.2.2.2.2.2.2.2.2.1
theorem Inv0.po {S : jS} (h : Inv0 S) : ∀ j k p q, j < k → k < mNP S → p < 40 → q < 40 → gN S 31 j = nI p → gN S 31 k = nI q → p < q := h.2.2.2.2.2.2.2.2.2.1
theorem Inv0.pw {S : jS} (h : Inv0 S) : ∀ j k, j < k → k < mNP S → gN S 33 j = 0 → gN S 33 k = 1 → mPSym S (nI j) ≠ mPSym S (nI k) := h.2.2.2.2.2.2.2.2.2.2
theorem Inv.to0 {S : jS} (H : Inv S) : Inv0 S := ⟨H.ob, H.np, H.nn, H.pc, H.rz, H.im, H.tg, H.rn, H.pt, H.po, H.pw⟩
theorem Inv0.up {S : jS} (H : Inv0 S) (q : ∀ k, k < mNP S → mCan S (nI k) = false) : Inv S := ⟨H.ob, H.np, H.nn, H.pc, H.rz, H.im, H.tg, H.rn, H.pt, H.po, H.pw, q⟩
theorem Inv0.npN {S : jS} (H : Inv0 S) : S.1 2 = nI (mPc S) ∧ mPc S ≤ 40 := by
  have h := H.np
  refine ⟨(nI_cl h.1).symm, ?_⟩
  have h1 := i32_pos _ h.1
  have h2 := h.2
  rw [Int32.le_iff_toInt_le] at h2
  have : (40 : Int32).toInt = 40 := rfl
  unfold mPc; omega
theorem Inv0.nnN {S : jS} (H : Inv0 S) : S.1 18 = nI (mNP S) ∧ mNP S ≤ 8 := by
  have h := H.nn
  refine ⟨(nI_cl h.1).symm, ?_⟩
  have h1 := i32_pos _ h.1
  have h2 := h.2
  rw [Int32.le_iff_toInt_le] at h2
  have : (8 : Int32).toInt = 8 := rfl
  unfold mNP; omega
/-! what the invariant reads -/
def iR (r : Nat) : Bool := [2, 3, 4, 6, 7, 17, 18, 23, 24, 25, 29, 30, 31, 32, 33].contains r
def FrI (S T : jS) : Prop := T.1 1 = S.1 1 ∧ T.1 2 = S.1 2 ∧ T.1 18 = S.1 18 ∧ ∀ r, iR r = true → T.2 r = S.2 r
section FrIs
variable {S T : jS}
theorem fi_jg (h : FrI S T) {r : Nat} (hr : iR r = true) (i : Int32) : jg T r i = jg S r i := by
  unfold jg; rw [h.2.2.2 r hr]
theorem fi_gN (h : FrI S T) {r : Nat} (hr : iR r = true) (i : Nat) : gN T r i = gN S r i := fi_jg h hr _
theorem fi_pc (h : FrI S T) : mPc T = mPc S := by unfold mPc; rw [h.2.1]
theorem fi_np (h : FrI S T) : mNP T = mNP S := by unfold mNP; rw [h.2.2.1]
theorem fi_psym (h : FrI S T) (k : Int32) : mPSym T k = mPSym S k := by
  unfold mPSym; rw [fi_jg h (by decide), fi_jg h (by decide)]
theorem fi_wait (h : FrI S T) (k : Int32) : mWait T k = mWait S k := by
  unfold mWait; rw [fi_jg h (by decide), h.2.2.1]
theorem fi_free (h : FrI S T) : ∀ n, mFree T 23 n = mFree S 23 n
  | 0 => rfl
  | n + 1 => by rw [mFree, mFree, fi_free h n, fi_jg h (by decide)]
theorem fi_room (h : FrI S T) (z : Int32) : mRoom T 23 z = mRoom S 23 z := by
  unfold mRoom jfR
  rw [rd_find (q2 := mRoomQ S 23 z) 200 (fun i _ => by unfold mRoomQ; rw [fi_free h])]
theorem fi_backs (h : FrI S T) (r p : Int32) : mBacks T r p = mBacks S r p := by
  unfold mBacks mH
  rw [fi_jg h (by decide), rd_find (q2 := mBkQ S r p) _ (fun k _ => by unfold mBkQ mEnt; rw [fi_jg h (by decide)])]
theorem fi_runsW (h : FrI S T) (p : Int32) : ∀ n, mRunsW T p n = mRunsW S p n
  | 0 => rfl
  | n + 1 => by rw [mRunsW, mRunsW, fi_runsW h p n, fi_backs h]
theorem fi_clear (h : FrI S T) (k : Int32) : mClear T k = mClear S k := by
  unfold mClear mStand mWB
  rw [fi_runsW h, fi_room h, fi_jg h (by decide), fi_jg h (by decide), fi_jg h (by decide), fi_jg h (by decide), rd_any (q2 := mWBQ S (mPSym S k)) _ (fun i _ => by unfold mWBQ; rw [fi_wait h, fi_psym h, fi_psym h])]
theorem fi_can (h : FrI S T) (k : Int32) : mCan T k = mCan S k := by
  unfold mCan
  rw [fi_wait h, fi_np h, rd_any (q2 := mCanQ S k) _ (fun i _ => by
    unfold mCanQ mGoes mTog
    rw [fi_clear h, fi_wait h, fi_jg h (by decide), fi_jg h (by decide)])]
theorem Img.fi {n : Nat} (H : Img S 0 n) (h : FrI S T) : Img T 0 n := by
  have e3 := fun p => fi_gN h (r := 3) (by decide) p
  have e4 := fun p => fi_gN h (r := 4) (by decide) p
  have e17 := fun p => fi_gN h (r := 17 + 3 * 0) (by decide) p
  have e18 := fun p => fi_gN h (r := 18 + 3 * 0) (by decide) p
  have e23 := fun p => fi_gN h (r := 23 + 3 * 0) (by decide) p
  have e24 := fun p => fi_gN h (r := 24 + 3 * 0) (by decide) p
  have e25 := fun p => fi_gN h (r := 25 + 3 * 0) (by decide) p
  unfold Img at H ⊢
  simp only [e3, e4, e17, e18, e23, e24, e25]
  exact H
theorem Pat.fi {k : Nat} (H : Pat S k) (h : FrI S T) : Pat T k := by
  have e2 := fun p => fi_gN h (r := 2) (by decide) p
  have e3 := fun p => fi_gN h (r := 3) (by decide) p
  have e17 := fun p => fi_gN h (r := 17) (by decide) p
  have e18 := fun p => fi_gN h (r := 18) (by decide) p
  have e31 := fun p => fi_gN h (r := 31) (by decide) p
  have e33 := fun p => fi_gN h (r := 33) (by decide) p
  unfold Pat at H ⊢
  simp only [e2, e3, e17, e18, e31, e33, fi_pc h]
  exact H
theorem Pce.fi {p : Nat} (H : Pce S p) (h : FrI S T) : Pce T p := by
  have e2 := fun p => fi_gN h (r := 2) (by decide) p
  have e3 := fun p => fi_gN h (r := 3) (by decide) p
  have e4 := fun p => fi_gN h (r := 4) (by decide) p
  have e6 := fun p => fi_gN h (r := 6) (by decide) p
  have e7 := fun p => fi_gN h (r := 7) (by decide) p
  unfold Pce at H ⊢
  simp only [e2, e3, e4, e6, e7]
  exact H
theorem Inv0.fi (H : Inv0 S) (h : FrI S T) : Inv0 T := by
  have e2 := fun p => fi_gN h (r := 2) (by decide) p
  have e6 := fun p => fi_gN h (r := 6) (by decide) p
  have e7 := fun p => fi_gN h (r := 7) (by decide) p
  have e17 := fun p => fi_gN h (r := 17) (by decide) p
  have e18 := fun p => fi_gN h (r := 18) (by decide) p
  have e29 := fun p => fi_gN h (r := 29) (by decide) p
  have e30 := fun p => fi_gN h (r := 30) (by decide) p
  have e31 := fun p => fi_gN h (r := 31) (by decide) p
  have e33 := fun p => fi_gN h (r := 33) (by decide) p
  refine ⟨?_, ?_, ?_, ?_, ?_, ?_, ?_, ?_, ?_, ?_, ?_⟩
  · rw [h.1]; exact H.ob
  · rw [h.2.1]; exact H.np
  · rw [h.2.2.1]; exact H.nn
  · rw [fi_pc h]; exact fun p hp => (H.pc p hp).fi h
  · simp only [fi_pc h, e6]; exact H.rz
  · rw [fi_pc h]; exact H.im.fi h
  · simp only [fi_pc h, fi_np h, e6, e7, e17, e18, e31]; exact H.tg
  · simp only [fi_pc h, e29, e30, e18]; exact H.rn
  · rw [fi_np h]; exact fun k hk => (H.pt k hk).fi h
  · simp only [fi_np h, e31]; exact H.po
  · simp only [fi_np h, e33, fi_psym h]; exact H.pw
theorem Inv.fi (H : Inv S) (h : FrI S T) : Inv T := (H.to0.fi h).up (fun k hk => by rw [fi_np h] at hk; rw [fi_can h]; exact H.qt k hk)
theorem fi_row (S : jS) {r : Nat} (hr : iR r = false) (f : Nat → Int32) : FrI S (jr S r f) := ⟨rfl, rfl, rfl, fun q hq => jr_n S f (fun e => by rw [e, hr] at hq; cases hq)⟩
theorem fi_num (S : jS) {k : Nat} (hk : k ≠ 1 ∧ k ≠ 2 ∧ k ≠ 18) (v : Int32) : FrI S (js S k v) := ⟨js_n S v (Ne.symm hk.1), js_n S v (Ne.symm hk.2.1), js_n S v (Ne.symm hk.2.2), fun _ _ => rfl⟩
theorem FrI.tr {U : jS} (h : FrI S T) (g : FrI T U) : FrI S U := ⟨g.1.trans h.1, g.2.1.trans h.2.1, g.2.2.1.trans h.2.2.1, fun r hr => (g.2.2.2 r hr).trans (h.2.2.2 r hr)⟩
end FrIs
/-! a piece more -/
section AddPc
variable {S : jS} {o y z b : Int32}
theorem ap_ne {r : Nat} (h : r ≠ 2 ∧ r ≠ 3 ∧ r ≠ 4 ∧ r ≠ 5) (i : Int32) : jg (addPc S o y z b) r i = jg S r i := by
  unfold addPc
  rw [jg_js, jg_jset_ne _ _ _ _ h.2.2.2, jg_jset_ne _ _ _ _ h.2.2.1, jg_jset_ne _ _ _ _ h.2.1, jg_jset_ne _ _ _ _ h.1]
theorem ap_lt (H : Inv0 S) {r p : Nat} (h : p < mPc S) : gN (addPc S o y z b) r p = gN S r p := by
  have hN := H.npN
  have hne : ¬ nI p = S.1 2 := fun e => by
    rw [hN.1] at e
    exact absurd (nI_ij (by omega) (by omega) e) (by omega)
  have hq : ∀ (U : jS) (q : Nat) (v : Int32), jg (jset U q (S.1 2) v) r (nI p) = jg U r (nI p) := fun U q v => by
    by_cases e : r = q
    · subst e; rw [jg_jset_eq, if_neg (fun z => hne z.2)]
    · rw [jg_jset_ne _ _ _ _ e]
  unfold gN addPc
  rw [jg_js, hq, hq, hq, hq]
theorem ap_at (H : Inv0 S) (h : mPc S < 40) : gN (addPc S o y z b) 2 (mPc S) = o ∧ gN (addPc S o y z b) 3 (mPc S) = y ∧ gN (addPc S o y z b) 4 (mPc S) = z := by
  have hN := H.npN
  have hin : jin 40 (S.1 2) := by rw [hN.1]; exact ⟨nI_pos' (by omega), nI_lt (b := 40) h (by decide)⟩
  unfold gN addPc
  rw [← hN.1]
  refine ⟨?_, ?_, ?_⟩
  · rw [jg_js, jg_jset_ne _ _ _ _ (by decide), jg_jset_ne _ _ _ _ (by decide), jg_jset_ne _ _ _ _ (by decide), jg_jset_eq, if_pos ⟨hin, rfl⟩]
  · rw [jg_js, jg_jset_ne _ _ _ _ (by decide), jg_jset_ne _ _ _ _ (by decide), jg_jset_eq, if_pos ⟨hin, rfl⟩]
  · rw [jg_js, jg_jset_ne _ _ _ _ (by decide), jg_jset_eq, if_pos ⟨hin, rfl⟩]
theorem ap_2 (H : Inv0 S) : (addPc S o y z b).1 2 = nI (mPc S + 1) := by
  unfold addPc; rw [js_1, H.npN.1, nI_succ]
theorem ap_pc (H : Inv0 S) (h : mPc S < 40) : mPc (addPc S o y z b) = mPc S + 1 := by
  show ((addPc S o y z b).1 2).toNatClampNeg = _
  rw [ap_2 H, nI_clamp (by omega)]
theorem ap_n {k : Nat} (h : k ≠ 2) : (addPc S o y z b).1 k = S.1 k := js_n _ _ h
theorem ap_np : mNP (addPc S o y z b) = mNP S := by unfold mNP; rw [ap_n (by decide)]
theorem ap_g {r : Nat} (h : r ≠ 2 ∧ r ≠ 3 ∧ r ≠ 4 ∧ r ≠ 5) (p : Nat) : gN (addPc S o y z b) r p = gN S r p := ap_ne h _
theorem ap_psym (H : Inv0 S) {k : Nat} (hk : k < mNP S) : mPSym (addPc S o y z b) (nI k) = mPSym S (nI k) := by
  obtain ⟨p, y', h1, h2, h3, -⟩ := (H.pt k hk).ex
  have e : jg S 31 (nI k) = nI p := h2
  unfold mPSym
  rw [ap_ne (r := 31) (by decide) (nI k), e]
  exact ap_lt (r := 3) H h1
theorem Inv0.addPc (H : Inv0 S) (hn : mPc S < 40) (hy : ∃ y', y' < 16 ∧ y = nI y') (hz : ∃ z', 1 ≤ z' ∧ z' ≤ 20 ∧ z = nI z') (ho : o = -1 ∨ ∃ o', o' < 3 ∧ o = nI o') : Inv0 (addPc S o y z b) := by
  have hN := H.npN
  obtain ⟨a2, a3, a4⟩ := ap_at (o := o) (y := y) (z := z) (b := b) H hn
  have hpc := ap_pc (o := o) (y := y) (z := z) (b := b) H hn
  have g6 := ap_g (S := S) (o := o) (y := y) (z := z) (b := b) (r := 6) (by decide)
  have g7 := ap_g (S := S) (o := o) (y := y) (z := z) (b := b) (r := 7) (by decide)
  have g17 := ap_g (S := S) (o := o) (y := y) (z := z) (b := b) (r := 17) (by decide)
  have g18 := ap_g (S := S) (o := o) (y := y) (z := z) (b := b) (r := 18) (by decide)
  have g23 := ap_g (S := S) (o := o) (y := y) (z := z) (b := b) (r := 23) (by decide)
  have g24 := ap_g (S := S) (o := o) (y := y) (z := z) (b := b) (r := 24) (by decide)
  have g25 := ap_g (S := S) (o := o) (y := y) (z := z) (b := b) (r := 25) (by decide)
  have g29 := ap_g (S := S) (o := o) (y := y) (z := z) (b := b) (r := 29) (by decide)
  have g30 := ap_g (S := S) (o := o) (y := y) (z := z) (b := b) (r := 30) (by decide)
  have g31 := ap_g (S := S) (o := o) (y := y) (z := z) (b := b) (r := 31) (by decide)
  have g33 := ap_g (S := S) (o := o) (y := y) (z := z) (b := b) (r := 33) (by decide)
  have gl : ∀ {r p : Nat}, p < mPc S → gN (Jvm.Pilot.CLinkfactoryYardLaw_law_r1584_029b14.addPc S o y z b) r p = gN S r p := fun h => ap_lt H h
  have hcase : ∀ p, p < mPc S + 1 → p < mPc S ∨ p = mPc S := fun p hp => by omega
  refine ⟨?_, ?_, ?_, ?_, ?_, ?_, ?_, ?_, ?_, ?_, ?_⟩
  · rw [ap_n (by decide)]; exact H.ob
  · rw [ap_2 H]; exact ⟨nI_pos' (by omega), nI_le (b := 40) (by omega) (by decide)⟩
  · rw [ap_n (by decide)]; exact H.nn
  · rw [hpc]; intro p hp
    rcases hcase p hp with h | rfl
    · have h0 := H.pc p h
      unfold Pce at h0 ⊢
      simp only [gl h, g7]
      exact h0
    · refine ⟨?_, ?_, ⟨0, by omega, ?_, fun j hj => absurd hj (Nat.not_lt_zero _)⟩, ?_⟩
      · rw [a3]; exact hy
      · rw [a4]; exact hz
      · rw [g6]; exact H.rz _ (Nat.le_refl _) hn
      · rw [a2]; exact ho
  · rw [hpc]; intro p hp h40; rw [g6]; exact H.rz p (by omega) h40
  · rw [hpc]
    refine ⟨fun q hq => ?_, fun p hp => ?_, fun p hp h40 => ?_, fun q hq => ?_, fun q hq => ?_, fun q hq => ?_, fun q hq => ?_⟩
    · show gN _ 17 q = -1 ∨ ∃ p, p < mPc S + 1 ∧ gN _ 17 q = nI p ∧ gN _ 3 p = nI q ∧ gN _ 18 p ≠ -1
      rw [g17]
      rcases (H.im).st q hq with h | ⟨p, h1, h2, h3, h4⟩
      · exact Or.inl h
      · exact Or.inr ⟨p, by omega, h2, by rw [gl h1]; exact h3, by rw [g18]; exact h4⟩
    · show gN _ 18 p = -1 ∨ ∃ a z, gN _ 18 p = nI a ∧ gN _ 4 p = nI z ∧ 1 ≤ z ∧ a + z ≤ 200 ∧ ∀ q, a ≤ q → q < a + z → gN _ 23 q = 1 ∧ gN _ 24 q = nI p
      simp only [g18, g23, g24]
      rcases hcase p hp with h | rfl
      · rw [gl h]; exact (H.im).pl p h
      · exact Or.inl ((H.im).pz _ (Nat.le_refl _) hn)
    · show gN _ 18 p = -1
      rw [g18]; exact (H.im).pz p (by omega) h40
    · show gN _ 23 q = 0 ∨ gN _ 23 q = 1 ∨ gN _ 23 q = 2 ∨ gN _ 23 q = 3
      rw [g23]; exact (H.im).kd q hq
    · show gN _ 23 q = 1 → ∃ p a z, p < mPc S + 1 ∧ gN _ 24 q = nI p ∧ gN _ 18 p = nI a ∧ gN _ 4 p = nI z ∧ z ≤ 20 ∧ a ≤ q ∧ q < a + z
      rw [g23, g24]; intro h
      obtain ⟨p, a, z', h1, h2, h3, h4, h5⟩ := (H.im).kw q hq h
      exact ⟨p, a, z', by omega, h2, by rw [g18]; exact h3, by rw [gl h1]; exact h4, h5⟩
    · show gN _ 25 q = -1 ∨ ∃ w, w < 200 ∧ gN _ 25 q = nI w ∧ gN _ 23 w = 3 ∧ gN _ 24 w = nI q
      simp only [g25, g23, g24]; exact (H.im).jm q hq
    · show gN _ 17 q = -1 → gN _ 25 q = -1
      rw [g17, g25]; exact (H.im).jz q hq
  · rw [hpc]; intro p hp hd k j t h6 hk hj ht h7
    rw [g6] at h6; rw [g7] at h7; rw [g17]
    rcases hcase p hp with h | rfl
    · simp only [g18, g31, ap_np] at hd
      exact H.tg p h hd k j t h6 hk hj ht h7
    · rw [H.rz _ (Nat.le_refl _) hn] at h6
      have : k = 0 := nI_ij (b := 0) (by omega) (by decide) h6.symm
      omega
  · rw [hpc]; intro r hr
    obtain ⟨h, h1, h2, h3⟩ := H.rn r hr
    refine ⟨h, h1, by rw [g29]; exact h2, fun k hk => ?_⟩
    obtain ⟨p, p1, p2, p3⟩ := h3 k hk
    exact ⟨p, by omega, by rw [g30]; exact p2, by rw [g18]; exact p3⟩
  · rw [ap_np]; intro k hk
    have h0 := H.pt k hk
    obtain ⟨p, y', h1, h2, h3, h4, h5, h6, h7, h8⟩ := h0.ex
    refine ⟨⟨p, y', by rw [hpc]; omega, by rw [g31]; exact h2, by rw [gl h1]; exact h3, h4, by rw [gl h1]; exact h5, by rw [g33, g18]; exact h6, fun h => ?_, by rw [g33, g17]; exact h8⟩, by rw [g33]; exact h0.st⟩
    rw [g33] at h
    obtain ⟨s, s1, s2, s3⟩ := h7 h
    exact ⟨s, by rw [hpc]; omega, by rw [g17]; exact s2, s3⟩
  · rw [ap_np]; simp only [g31]; exact H.po
  · rw [ap_np]; intro j k hjk hk h1 h2
    rw [g33] at h1 h2
    rw [ap_psym H (by omega), ap_psym H hk]
    exact H.pw j k hjk hk h1 h2
end AddPc
