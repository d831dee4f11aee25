/-! Runs: a push, a pop; the last word of the invariant. -/
theorem room_cg {S T : jS} (h : ∀ i, jg T 23 i = jg S 23 i) (z : Int32) : mRoom T 23 z = mRoom S 23 z := by
  have hf : ∀ n, mFree T 23 n = mFree S 23 n := fun n => by
    induction n with
    | zero => rfl
    | succ n ih => rw [mFree, mFree, ih, h]
  unfold mRoom jfR
  rw [rd_find (q2 := mRoomQ S 23 z) 200 (fun i _ => by unfold mRoomQ; rw [hf])]
theorem runsW_cg {S T : jS} (h1 : ∀ i, jg T 29 i = jg S 29 i) (h2 : ∀ i, jg T 30 i = jg S 30 i) (p : Int32) : ∀ n, mRunsW T p n = mRunsW S p n
  | 0 => rfl
  | n + 1 => by
    rw [mRunsW, mRunsW, runsW_cg h1 h2 p n]
    have e : mBacks T (nI n) p = mBacks S (nI n) p := by
      unfold mBacks mH
      rw [h1, rd_find (q2 := mBkQ S (nI n) p) _ (fun k _ => by unfold mBkQ mEnt; rw [h2])]
    rw [e]
/-- what keeps all quiet -/
def Qk (S T : jS) : Prop :=
  (∀ k, mWait T k = mWait S k) ∧
  (mNP T = mNP S) ∧
  (∀ i, jg T 32 i = jg S 32 i) ∧
  (∀ i, i < mNP S → jg T 31 (nI i) = jg S 31 (nI i)) ∧
  (∀ i, i < mNP S → jg T 3 (jg S 31 (nI i)) = jg S 3 (jg S 31 (nI i))) ∧
  (∀ i, i < mNP S → jg T 4 (jg S 31 (nI i)) = jg S 4 (jg S 31 (nI i))) ∧
  (∀ y, jg T 17 y = jg S 17 y) ∧
  (∀ z, mRoom T 23 z = mRoom S 23 z) ∧
  (∀ p, mRunsW T p 4 = 0 → mRunsW S p 4 = 0)
theorem Qk.w {S T : jS} (h : Qk S T) : ∀ k, mWait T k = mWait S k := h.1
theorem Qk.n {S T : jS} (h : Qk S T) : mNP T = mNP S := h.2.1
theorem Qk.g {S T : jS} (h : Qk S T) : ∀ i, jg T 32 i = jg S 32 i := h.2.2.1
theorem Qk.p {S T : jS} (h : Qk S T) : ∀ i, i < mNP S → jg T 31 (nI i) = jg S 31 (nI i) := h.2.2.2.1
theorem Qk.s {S T : jS} (h : Qk S T) : ∀ i, i < mNP S → jg T 3 (jg S 31 (nI i)) = jg S 3 (jg S 31 (nI i)) := h.2.2.2.2.1
theorem Qk.z {S T : jS} (h : Qk S T) : ∀ i, i < mNP S → jg T 4 (jg S 31 (nI i)) = jg S 4 (jg S 31 (nI i)) := h.2.2.2.2.2.1
theorem Qk.st {S T : jS} (h : Qk S T) : ∀ y, jg T 17 y = jg S 17 y := h.2.2.2.2.2.2.1
theorem Qk.rm {S T : jS} (h : Qk S T) : ∀ z, mRoom T 23 z = mRoom S 23 z := h.2.2.2.2.2.2.2.1
theorem Qk.rw {S T : jS} (h : Qk S T) : ∀ p, mRunsW T p 4 = 0 → mRunsW S p 4 = 0 := h.2.2.2.2.2.2.2.2
theorem jany_some {q : Nat → Bool} : ∀ {n : Nat}, jany q n = true → ∃ i, i < n ∧ q i = true
  | n + 1, h => by
    rw [jany, Bool.or_eq_true] at h
    rcases h with h | h
    · obtain ⟨i, hi, e⟩ := jany_some h
      exact ⟨i, by omega, e⟩
    · exact ⟨n, by omega, h⟩
theorem Qk.psym {S T : jS} (Q : Qk S T) {i : Nat} (hi : i < mNP S) : mPSym T (nI i) = mPSym S (nI i) := by
  unfold mPSym; rw [Q.p i hi, Q.s i hi]
theorem Qk.clear {S T : jS} (Q : Qk S T) (h8 : mNP S ≤ 8) {i : Nat} (hi : i < mNP S) (h : mClear T (nI i) = true) : mClear S (nI i) = true := by
  unfold mClear at h ⊢
  rw [Q.p i hi, Q.s i hi, Q.z i hi, Q.rm] at h
  have e1 : mWB T (nI i) = mWB S (nI i) := by
    unfold mWB
    rw [nI_clamp (by omega)]
    refine rd_any _ (fun k hk => ?_)
    unfold mWBQ
    rw [Q.w, Q.psym (by omega), Q.psym hi]
  have e2 : mStand T 1 (jg S 3 (jg S 31 (nI i))) = mStand S 1 (jg S 3 (jg S 31 (nI i))) := Q.st _
  rw [e1, e2] at h
  simp only [Bool.and_eq_true, decide_eq_true_eq] at h ⊢
  exact ⟨⟨h.1.1, Q.rw _ h.1.2⟩, h.2⟩
theorem Qk.keep {S T : jS} (Q : Qk S T) (h8 : mNP S ≤ 8) (hq : ∀ k, k < mNP S → mCan S (nI k) = false) : ∀ k, k < mNP T → mCan T (nI k) = false := by
  intro k hk
  rw [Q.n] at hk
  cases hc : mCan T (nI k) with
  | false => rfl
  | true =>
    have h := hq k hk
    unfold mCan at h hc
    rw [Bool.and_eq_true, Q.w, Q.n] at hc
    rw [hc.1, Bool.true_and, Bool.not_eq_false'] at h
    obtain ⟨i, hi, hb⟩ := jany_some h
    have hx : mCanQ T (nI k) i = true := by
      unfold mCanQ mGoes mTog at hb ⊢
      rw [Q.w, Q.g, Q.g]
      rw [Bool.and_eq_true] at hb ⊢
      refine ⟨hb.1, ?_⟩
      cases hcl : mClear T (nI i) with
      | false => rfl
      | true =>
        have := hb.2
        rw [Q.clear h8 hi hcl] at this
        cases this
    have := jany_t hi hx
    rw [this] at hc
    exact absurd hc.2 (by decide)
theorem quiet_addPc {S : jS} (H : Inv S) (o y z b : Int32) : ∀ k, k < mNP (addPc S o y z b) → mCan (addPc S o y z b) (nI k) = false := by
  have hp : ∀ i, i < mNP S → ∃ p, p < mPc S ∧ jg S 31 (nI i) = nI p := fun i hi => by
    obtain ⟨p, y', h1, h2, -⟩ := (H.pt i hi).ex
    exact ⟨p, h1, h2⟩
  have Q : Qk S (addPc S o y z b) := by
    refine ⟨fun k => ?_, ap_np, fun i => ap_ne (by decide) i, fun i _ => ap_ne (by decide) _, fun i hi => ?_, fun i hi => ?_, fun y' => ap_ne (by decide) _, room_cg (fun i => ap_ne (by decide) i), fun p h => ?_⟩
    · unfold mWait; rw [ap_ne (by decide), ap_n (by decide)]
    · obtain ⟨p, h1, h2⟩ := hp i hi
      rw [h2]; exact ap_lt (r := 3) H.to0 h1
    · obtain ⟨p, h1, h2⟩ := hp i hi
      rw [h2]; exact ap_lt (r := 4) H.to0 h1
    · rw [runsW_cg (fun i => ap_ne (by decide) i) (fun i => ap_ne (by decide) i)] at h; exact h
  exact Q.keep H.nnN.2 H.qt
/-- all but the runs -/
def iJ (r : Nat) : Bool := [2, 3, 4, 6, 7, 17, 18, 23, 24, 25, 31, 32, 33].contains r
def FrJ (S T : jS) : Prop := T.1 = S.1 ∧ ∀ r, iJ r = true → T.2 r = S.2 r
section FrJs
variable {S T : jS}
theorem fj_jg (h : FrJ S T) {r : Nat} (hr : iJ r = true) (i : Int32) : jg T r i = jg S r i := by
  unfold jg; rw [h.2 r hr]
theorem fj_gN (h : FrJ S T) {r : Nat} (hr : iJ r = true) (i : Nat) : gN T r i = gN S r i := fj_jg h hr _
theorem fj_pc (h : FrJ S T) : mPc T = mPc S := by unfold mPc; rw [h.1]
theorem fj_np (h : FrJ S T) : mNP T = mNP S := by unfold mNP; rw [h.1]
theorem fj_psym (h : FrJ S T) (k : Int32) : mPSym T k = mPSym S k := by
  unfold mPSym; rw [fj_jg h (by decide), fj_jg h (by decide)]
theorem fj_wait (h : FrJ S T) (k : Int32) : mWait T k = mWait S k := by
  unfold mWait; rw [fj_jg h (by decide), h.1]
theorem Inv0.fj (H : Inv0 S) (h : FrJ S T) (hrn : ∀ r, r < 4 → ∃ hh, hh ≤ 8 ∧ gN T 29 r = nI hh ∧ ∀ k, k < hh → ∃ p, p < mPc S ∧ gN T 30 (8 * r + k) = nI p ∧ gN S 18 p ≠ -1) : Inv0 T := by
  have e2 := fun p => fj_gN h (r := 2) (by decide) p
  have e3 := fun p => fj_gN h (r := 3) (by decide) p
  have e4 := fun p => fj_gN h (r := 4) (by decide) p
  have e6 := fun p => fj_gN h (r := 6) (by decide) p
  have e7 := fun p => fj_gN h (r := 7) (by decide) p
  have e17 := fun p => fj_gN h (r := 17) (by decide) p
  have e18 := fun p => fj_gN h (r := 18) (by decide) p
  have f17 := fun p => fj_gN h (r := 17 + 3 * 0) (by decide) p
  have f18 := fun p => fj_gN h (r := 18 + 3 * 0) (by decide) p
  have f23 := fun p => fj_gN h (r := 23 + 3 * 0) (by decide) p
  have f24 := fun p => fj_gN h (r := 24 + 3 * 0) (by decide) p
  have f25 := fun p => fj_gN h (r := 25 + 3 * 0) (by decide) p
  have e31 := fun p => fj_gN h (r := 31) (by decide) p
  have e33 := fun p => fj_gN h (r := 33) (by decide) p
  refine ⟨?_, ?_, ?_, ?_, ?_, ?_, ?_, ?_, ?_, ?_, ?_⟩
  · rw [h.1]; exact H.ob
  · rw [h.1]; exact H.np
  · rw [h.1]; exact H.nn
  · rw [fj_pc h]; intro p hp
    have h0 := H.pc p hp
    unfold Pce at h0 ⊢
    simp only [e2, e3, e4, e6, e7]
    exact h0
  · simp only [fj_pc h, e6]; exact H.rz
  · have h0 := H.im
    rw [fj_pc h]
    unfold Img at h0 ⊢
    simp only [e3, e4, f17, f18, f23, f24, f25]
    exact h0
  · simp only [fj_pc h, fj_np h, e6, e7, e17, e18, e31]; exact H.tg
  · simp only [fj_pc h, e18]; exact hrn
  · rw [fj_np h]; intro k hk
    have h0 := H.pt k hk
    unfold Pat at h0 ⊢
    simp only [e2, e3, e17, e18, e31, e33, fj_pc h]
    exact h0
  · simp only [fj_np h, e31]; exact H.po
  · simp only [fj_np h, e33, fj_psym h]; exact H.pw
end FrJs
section Push
variable {S : jS}
theorem push_J (S : jS) (r p : Int32) : FrJ S (jPush S r p) := by
  unfold jPush jadd
  refine ⟨rfl, fun q hq => ?_⟩
  have h29 : q ≠ 29 := fun e => by rw [e] at hq; exact absurd hq (by decide)
  have h30 : q ≠ 30 := fun e => by rw [e] at hq; exact absurd hq (by decide)
  unfold jset
  rw [jr_n _ _ h29, jr_n _ _ h30]
theorem pop_J (S : jS) (r : Int32) : FrJ S (jPop S r) := by
  unfold jPop jadd
  refine ⟨rfl, fun q hq => ?_⟩
  have h29 : q ≠ 29 := fun e => by rw [e] at hq; exact absurd hq (by decide)
  unfold jset
  rw [jr_n _ _ h29]
theorem idx8 (r k : Nat) : nI r * 8 + nI k = nI (8 * r + k) := by rw [nI_a, Nat.mul_comm, nI_p]; rfl
theorem push_29 {r h : Nat} (hr : r < 4) (e : gN S 29 r = nI h) (p : Int32) (q : Nat) (hq : q < 4) : gN (jPush S (nI r) p) 29 q = if q = r then nI (h + 1) else gN S 29 q := by
  unfold jPush jadd gN
  have e' : jg S 29 (nI r) = nI h := e
  rw [jg_jset_eq, jg_jset_ne _ _ _ _ (by decide), e', nI_succ]
  by_cases hqr : q = r
  · subst hqr
    rw [if_pos ⟨⟨nI_pos' (by omega), nI_lt (b := 4) hq (by decide)⟩, rfl⟩, if_pos rfl]
  · rw [if_neg (fun z => hqr (nI_ij (by omega) (by omega) z.2)), if_neg hqr, jg_jset_ne _ _ _ _ (by decide)]
theorem push_30 {r h : Nat} (hr : r < 4) (h8 : h < 8) (e : gN S 29 r = nI h) (p : Int32) (q k : Nat) (hq : q < 4) (hk : k < 8) : gN (jPush S (nI r) p) 30 (8 * q + k) = if q = r ∧ k = h then p else gN S 30 (8 * q + k) := by
  unfold jPush jadd gN mH
  have e' : jg S 29 (nI r) = nI h := e
  rw [jg_jset_ne _ _ _ _ (by decide), jg_jset_eq, e', idx8]
  by_cases hh : q = r ∧ k = h
  · obtain ⟨rfl, rfl⟩ := hh
    rw [if_pos ⟨⟨nI_pos' (by omega), nI_lt (b := 32) (by omega) (by decide)⟩, rfl⟩, if_pos ⟨rfl, rfl⟩]
  · rw [if_neg (fun z => hh (by have := nI_ij (by omega) (by omega) z.2; omega)), if_neg hh]
/-- a push keeps the invariant, but for its last word -/
theorem Inv0.push (H : Inv0 S) {r h p : Nat} (hr : r < 4) (h8 : h < 8) (e : gN S 29 r = nI h) (hp : p < mPc S) (hl : gN S 18 p ≠ -1) : Inv0 (jPush S (nI r) (nI p)) := by
  refine H.fj (push_J _ _ _) (fun q hq => ?_)
  obtain ⟨g, g1, g2, g3⟩ := H.rn q hq
  by_cases hqr : q = r
  · subst hqr
    have : g = h := nI_ij (by omega) (by omega) (g2.symm.trans e)
    subst this
    refine ⟨g + 1, by omega, by rw [push_29 hq e _ q hq, if_pos rfl], fun k hk => ?_⟩
    by_cases hkg : k = g
    · subst hkg
      exact ⟨p, hp, by rw [push_30 hq h8 e _ q k hq h8, if_pos ⟨rfl, rfl⟩], hl⟩
    · obtain ⟨p', p1, p2, p3⟩ := g3 k (by omega)
      exact ⟨p', p1, by rw [push_30 hq h8 e _ q k hq (by omega), if_neg (fun z => hkg z.2)]; exact p2, p3⟩
  · refine ⟨g, g1, by rw [push_29 hr e _ q hq, if_neg hqr]; exact g2, fun k hk => ?_⟩
    obtain ⟨p', p1, p2, p3⟩ := g3 k hk
    exact ⟨p', p1, by rw [push_30 hr h8 e _ q k hq (by omega), if_neg (fun z => hqr z.1)]; exact p2, p3⟩
end Push
