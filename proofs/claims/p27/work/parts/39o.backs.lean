/-! What act asks for: a run that comes back, a patch. -/
section Done
variable {S T : jS}
theorem doneN_cnt (S : jS) : ∀ n, mDoneN S n = nI (cnt (fun k => decide (¬ gN S 33 k ≤ 0)) n)
  | 0 => rfl
  | n + 1 => by
    have e : tPatch S (nI n) 3 = gN S 33 n := rfl
    rw [mDoneN, cnt, nI_a, doneN_cnt S n, e]
    by_cases h : gN S 33 n ≤ 0
    · rw [if_pos h, if_neg (by simpa using h)]; rfl
    · rw [if_neg h, if_pos (decide_eq_true h)]; rfl
theorem cnt_mono {P Q : Nat → Bool} : ∀ {n m : Nat}, n ≤ m → (∀ i, i < n → P i = true → Q i = true) → cnt P n ≤ cnt Q m
  | 0, _, _, _ => Nat.zero_le _
  | n + 1, 0, h, _ => absurd h (by omega)
  | n + 1, m + 1, h, hm => by
    by_cases e : n = m
    · subst e
      have ih := cnt_mono (P := P) (Q := Q) (Nat.le_refl n) (fun i hi => hm i (by omega))
      rw [cnt, cnt]
      by_cases hP : P n = true
      · rw [if_pos hP, if_pos (hm n (by omega) hP)]; omega
      · rw [if_neg hP]; omega
    · have ih := cnt_mono (P := P) (Q := Q) (show n + 1 ≤ m by omega) hm
      rw [cnt.eq_2 Q m]; omega
theorem done_le {n m : Nat} (hS : mNP S = n) (hT : mNP T = m) (hnm : n ≤ m) (hm : m ≤ 8) (h : ∀ k, k < n → gN S 33 k ≠ 0 → gN T 33 k = gN S 33 k) : mDone S ≤ mDone T := by
  have eS : mDone S = mDoneN S n := by unfold mDone; unfold mNP at hS; rw [hS]
  have eT : mDone T = mDoneN T m := by unfold mDone; unfold mNP at hT; rw [hT]
  rw [eS, eT, doneN_cnt, doneN_cnt]
  have h1 := cnt_le (fun k => decide (¬ gN T 33 k ≤ 0)) m
  have h2 := cnt_le (fun k => decide (¬ gN S 33 k ≤ 0)) n
  refine nI_le (cnt_mono hnm (fun i hi hp => ?_)) (by omega)
  have hp' := of_decide_eq_true hp
  refine decide_eq_true ?_
  rw [h i hi (fun z => hp' (by rw [z]; decide))]
  exact hp'
theorem done_eq (h18 : T.1 18 = S.1 18) (h33 : ∀ k, k < mNP S → gN T 33 k = gN S 33 k) (h8 : mNP S ≤ 8) : mDone S ≤ mDone T := done_le rfl (show mNP T = mNP S by unfold mNP; rw [h18]) (Nat.le_refl _) h8 (fun k hk _ => h33 k hk)
end Done
section Back
variable {S : jS}
theorem pop_29 {r h : Nat} (hr : r < 4) (h0 : 0 < h) (e : gN S 29 r = nI h) (q : Nat) (hq : q < 4) : gN (jPop S (nI r)) 29 q = if q = r then nI (h - 1) else gN S 29 q := by
  have e' : jg S 29 (nI r) = nI h := e
  have em : nI h + (-1) = nI (h - 1) := by
    have : nI h - 1 = nI (h - 1) := nI_subn (a := h) (b := 1) (c := h - 1) (by omega)
    rw [← this, Int32.sub_eq_add_neg]
  unfold jPop jadd gN
  rw [jg_jset_eq, e', em]
  by_cases hqr : q = r
  · subst hqr
    rw [if_pos ⟨⟨nI_pos' (by omega), nI_lt (b := 4) hq (by decide)⟩, rfl⟩, if_pos rfl]
  · rw [if_neg (fun z => hqr (nI_ij (by omega) (by omega) z.2)), if_neg hqr]
theorem pop_30 (r : Int32) (i : Nat) : gN (jPop S r) 30 i = gN S 30 i := by
  unfold jPop jadd gN
  rw [jg_jset_ne _ _ _ _ (by decide)]
theorem act_back (H : Inv S) (x : Int32) (hg : gBack S (aR x) = none) : (mTop (jBack S (aR x)) (aR x) = -1 → tMany (jBack S (aR x)) 6 = tMany S 6 - 1) ∧ (¬ mTop (jBack S (aR x)) (aR x) = -1 → tMany (jBack S (aR x)) 6 = tMany S 6) ∧ Inv (jBack S (aR x)) ∧ mDone S ≤ mDone (jBack S (aR x)) := by
  obtain ⟨r, r1, r2⟩ := blw_r (x >>> (3 &&& 31)) (m := 4) (by decide) (by decide)
  have hr : aR x = nI r := r2
  rw [hr] at hg ⊢
  obtain ⟨h, h1, h2, h3⟩ := H.rn r r1
  have h2' : jg S 29 (nI r) = nI h := h2
  have hpos : 0 < h := by
    unfold gBack at hg
    split at hg
    · rename_i hc
      have h0 := of_decide_eq_true hc
      unfold mH at h0
      rw [h2'] at h0
      refine Classical.byContradiction (fun z => ?_)
      have e0 : h = 0 := by omega
      rw [e0] at h0
      exact absurd h0 (by decide)
    · cases hg
  have I0 := H.to0.pop r1 hpos h1 h2
  obtain ⟨IV, C⟩ := all_ok I0
  have J := pop_J S (nI r)
  have e29 : ∀ q, q < 4 → gN (jBack S (nI r)) 29 q = if q = r then nI (h - 1) else gN S 29 q := fun q hq => (fk_gN C.fk (r := 29) (by decide) q).trans (pop_29 r1 hpos h2 q hq)
  have e30 : ∀ i, gN (jBack S (nI r)) 30 i = gN S 30 i := fun i => (fk_gN C.fk (r := 30) (by decide) i).trans (pop_30 _ _)
  have e29r : jg (jBack S (nI r)) 29 (nI r) = nI (h - 1) := by
    have := e29 r r1
    rw [if_pos rfl] at this
    exact this
  have top : mTop (jBack S (nI r)) (nI r) = -1 ↔ h = 1 := by
    unfold mTop mThere mEnt mH
    rw [e29r]
    by_cases e : h = 1
    · subst e
      exact ⟨fun _ => rfl, fun _ => rfl⟩
    · have h01 : (0 : Int32) < nI (h - 1) := nI_lt (a := 0) (by omega) (by omega)
      rw [decide_eq_true h01, if_pos rfl]
      have em : nI (h - 1) - 1 = nI (h - 2) := nI_subn (a := h - 1) (b := 1) (c := h - 2) (by omega)
      rw [em, idx8]
      obtain ⟨p, p1, p2, p3⟩ := h3 (h - 2) (by omega)
      have e30' : jg (jBack S (nI r)) 30 (nI (8 * r + (h - 2))) = nI p := (e30 _).trans p2
      have := H.npN.2
      rw [e30']
      exact ⟨fun z => absurd z (nI_m1 (by omega)), fun z => absurd z e⟩
  have hruns : ∀ T : jS, tMany T 6 = nI 4 - nI (cnt (fun q => decide (gN T 29 q = 0)) 4) := fun T => (runs_cnt T)
  have h1c := cnt_le (fun q => decide (gN S 29 q = 0)) 4
  have h2c := cnt_le (fun q => decide (gN (jBack S (nI r)) 29 q = 0)) 4
  have h0r : gN S 29 r ≠ 0 := fun z => by
    rw [h2] at z
    have := nI_ij (b := 0) (by omega) (by decide) z
    omega
  refine ⟨fun ht => ?_, fun ht => ?_, IV, ?_⟩
  · have e1 := top.mp ht
    subst e1
    have hc : cnt (fun q => decide (gN (jBack S (nI r)) 29 q = 0)) 4 = cnt (fun q => decide (gN S 29 q = 0)) 4 + cnt (fun q => decide (r ≤ q ∧ q < r + 1)) 4 := cnt_or (fun q hq => by
      have h29 := e29 q hq
      by_cases hqr : q = r
      · subst hqr
        rw [if_pos rfl] at h29
        rw [h29]
        simp [h0r]; decide
      · rw [if_neg hqr] at h29
        rw [h29]
        have hx : ¬ (r ≤ q ∧ q < r + 1) := by omega
        simp [hx])
    rw [cnt_iv] at hc
    rw [hruns, hruns, nI_subn (a := 4) (c := 4 - cnt (fun q => decide (gN (jBack S (nI r)) 29 q = 0)) 4) (by omega), nI_subn (a := 4) (c := 4 - cnt (fun q => decide (gN S 29 q = 0)) 4) (by omega)]
    exact (nI_subn (a := 4 - cnt (fun q => decide (gN S 29 q = 0)) 4) (b := 1) (by omega)).symm
  · have hc : cnt (fun q => decide (gN (jBack S (nI r)) 29 q = 0)) 4 = cnt (fun q => decide (gN S 29 q = 0)) 4 := cnt_cg (fun q hq => by
      have h29 := e29 q hq
      by_cases hqr : q = r
      · subst hqr
        rw [if_pos rfl] at h29
        have hh : ¬ nI (h - 1) = 0 := fun z => by
          have := nI_ij (b := 0) (by omega) (by decide) z
          exact ht (top.mpr (by omega))
        rw [h29]; simp [h0r, hh]
      · rw [if_neg hqr] at h29
        rw [h29])
    rw [hruns, hruns, hc]
  · have hn : mNP (jPop S (nI r)) = mNP S := fj_np J
    refine done_le (n := mNP S) (m := mNP S) rfl ((fk_np C.fk).trans hn) (Nat.le_refl _) H.nnN.2 (fun k hk hz => ?_)
    have e33 : gN (jPop S (nI r)) 33 k = gN S 33 k := fj_gN J (by decide) k
    have := C.w k (by rw [hn]; exact hk) (by rw [e33]; exact hz)
    exact this.trans e33
end Back
section PAdd
variable {S : jS}
theorem pa_ne {p g : Int32} {r : Nat} (h : r ≠ 31 ∧ r ≠ 32 ∧ r ≠ 33) (i : Int32) : jg (jPAdd S p g) r i = jg S r i := by
  unfold jPAdd
  rw [jg_js, jg_jset_ne _ _ _ _ h.2.2, jg_jset_ne _ _ _ _ h.2.1, jg_jset_ne _ _ _ _ h.1]
theorem pa_31 (H : Inv0 S) (hn : mNP S < 8) {p g : Int32} (k : Nat) (hk : k < 8) : gN (jPAdd S p g) 31 k = (if k = mNP S then p else gN S 31 k) ∧ gN (jPAdd S p g) 33 k = (if k = mNP S then 0 else gN S 33 k) := by
  have hN := H.nnN
  unfold jPAdd
  rw [hN.1]
  constructor
  · have h1 : ∀ (U : jS) (v : Int32), gN (js U 18 v) 31 k = gN U 31 k := fun _ _ => rfl
    rw [h1, g_of (set_r _ _ (by decide)) k, g_of (set_r _ _ (by decide)) k, set_g (r := 31) (i := mNP S) hn k (by omega)]
  · have h1 : ∀ (U : jS) (v : Int32), gN (js U 18 v) 33 k = gN U 33 k := fun _ _ => rfl
    rw [h1, set_g (r := 33) (i := mNP S) hn k (by omega), g_of (set_r _ _ (by decide)) k, g_of (set_r _ _ (by decide)) k]
theorem pa_n (p g : Int32) {k : Nat} (h : k ≠ 18) : (jPAdd S p g).1 k = S.1 k := js_n _ _ h
theorem pa_18 (H : Inv0 S) (p g : Int32) : (jPAdd S p g).1 18 = nI (mNP S + 1) := by
  unfold jPAdd; rw [js_1, H.nnN.1, nI_succ]
theorem pa_np (H : Inv0 S) (p g : Int32) : mNP (jPAdd S p g) = mNP S + 1 := by
  have := H.nnN.2
  show ((jPAdd S p g).1 18).toNatClampNeg = _
  rw [pa_18 H, nI_clamp (by omega)]
theorem Inv0.padd (H : Inv0 S) {p y : Nat} {g : Int32} (hn : mNP S < 8) (hp : p < mPc S) (hlt : ∀ k q, k < mNP S → q < 40 → gN S 31 k = nI q → q < p) (h2 : gN S 2 p = -1) (h3 : gN S 3 p = nI y) (hy : y < 16) (h18 : gN S 18 p = -1) (h17 : gN S 17 y ≠ -1) (htg : ∀ k j t, gN S 6 p = nI k → k ≤ 3 → j < k → t < 16 → gN S 7 (3 * p + j) = nI t → gN S 17 t ≠ -1) : Inv0 (jPAdd S (nI p) g) := by
  have hN := H.npN
  have hpc : mPc (jPAdd S (nI p) g) = mPc S := rfl
  have hnp := pa_np H (nI p) g
  have gn : ∀ {r : Nat}, (r ≠ 31 ∧ r ≠ 32 ∧ r ≠ 33) → ∀ i, gN (jPAdd S (nI p) g) r i = gN S r i := fun h i => pa_ne h _
  have e2 := fun i => gn (r := 2) (by decide) i
  have e3 := fun i => gn (r := 3) (by decide) i
  have e4 := fun i => gn (r := 4) (by decide) i
  have e6 := fun i => gn (r := 6) (by decide) i
  have e7 := fun i => gn (r := 7) (by decide) i
  have e17 := fun i => gn (r := 17) (by decide) i
  have e18 := fun i => gn (r := 18) (by decide) i
  have f17 := fun i => gn (r := 17 + 3 * 0) (by decide) i
  have f18 := fun i => gn (r := 18 + 3 * 0) (by decide) i
  have f23 := fun i => gn (r := 23 + 3 * 0) (by decide) i
  have f24 := fun i => gn (r := 24 + 3 * 0) (by decide) i
  have f25 := fun i => gn (r := 25 + 3 * 0) (by decide) i
  have e29 := fun i => gn (r := 29) (by decide) i
  have e30 := fun i => gn (r := 30) (by decide) i
  have o31 : ∀ k, k < mNP S → gN (jPAdd S (nI p) g) 31 k = gN S 31 k := fun k hk => by
    rw [(pa_31 H hn k (by omega)).1, if_neg (by omega)]
  have o33 : ∀ k, k < mNP S → gN (jPAdd S (nI p) g) 33 k = gN S 33 k := fun k hk => by
    rw [(pa_31 H hn k (by omega)).2, if_neg (by omega)]
  have n31 : gN (jPAdd S (nI p) g) 31 (mNP S) = nI p := by rw [(pa_31 H hn _ hn).1, if_pos rfl]
  have n33 : gN (jPAdd S (nI p) g) 33 (mNP S) = 0 := by rw [(pa_31 H hn _ hn).2, if_pos rfl]
  have hcase : ∀ k, k < mNP S + 1 → k < mNP S ∨ k = mNP S := fun k hk => by omega
  refine ⟨H.ob, H.np, ?_, ?_, ?_, ?_, ?_, ?_, ?_, ?_, ?_⟩
  · rw [pa_18 H]; exact ⟨nI_pos' (by omega), nI_le (b := 8) (by omega) (by decide)⟩
  · rw [hpc]; intro q hq
    have h0 := H.pc q hq
    unfold Pce at h0 ⊢
    simp only [e2, e3, e4, e6, e7]
    exact h0
  · simp only [hpc, e6]; exact H.rz
  · have h0 := H.im
    rw [hpc]
    unfold Img at h0 ⊢
    simp only [e3, e4, f17, f18, f23, f24, f25]
    exact h0
  · rw [hpc]; intro q hq hd k j t h6 hk hj ht h7
    rw [e6] at h6; rw [e7] at h7; rw [e17]; rw [e18, hnp] at hd
    by_cases hqp : q = p
    · subst hqp; exact htg k j t h6 hk hj ht h7
    · refine H.tg q hq ?_ k j t h6 hk hj ht h7
      rcases hd with hd | ⟨i, i1, i2⟩
      · exact Or.inl hd
      · rcases hcase i i1 with h | rfl
        · exact Or.inr ⟨i, h, (o31 i h).symm.trans i2⟩
        · rw [n31] at i2
          exact absurd (nI_ij (by omega) (by omega) i2).symm hqp
  · simp only [hpc, e29, e30, e18]; exact H.rn
  · rw [hnp]; intro k hk
    rcases hcase k hk with h | rfl
    · have h0 := H.pt k h
      unfold Pat at h0 ⊢
      simp only [e2, e3, e17, e18, o31 k h, o33 k h, hpc]
      exact h0
    · refine ⟨⟨p, y, hp, n31, by rw [e3]; exact h3, hy, by rw [e2]; exact h2, fun _ => by rw [e18]; exact h18, fun h => ?_, fun _ => by rw [e17]; exact h17⟩, Or.inl n33⟩
      rw [n33] at h; exact absurd h (by decide)
  · rw [hnp]; intro j k a q hjk hk ha hq h1 h2'
    rw [o31 j (by omega)] at h1
    rcases hcase k hk with h | rfl
    · rw [o31 k h] at h2'
      exact H.po j k a q hjk h ha hq h1 h2'
    · rw [n31] at h2'
      have : p = q := nI_ij (by omega) (by omega) h2'
      subst this
      exact hlt j a hjk ha h1
  · rw [hnp]; intro j k hjk hk h1 h2'
    rcases hcase k hk with h | rfl
    · rw [o33 j (by omega)] at h1; rw [o33 k h] at h2'
      have ps : ∀ i, i < mNP S → mPSym (jPAdd S (nI p) g) (nI i) = mPSym S (nI i) := fun i hi => by
        have e : jg (jPAdd S (nI p) g) 31 (nI i) = jg S 31 (nI i) := o31 i hi
        unfold mPSym
        rw [e, pa_ne (by decide)]
      rw [ps j (by omega), ps k h]
      exact H.pw j k hjk h h1 h2'
    · rw [n33] at h2'; exact absurd h2' (by decide)
end PAdd
