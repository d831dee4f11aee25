/-! What a link takes. -/
section Take
variable {S T B : jS}
theorem tgB1_mono {p b : Int32} {t : Nat} (ht : t < 16) (h : bit b t) : ∀ k, bit (mTgB1 S p b k) t
  | 0 => h
  | k + 1 => by rw [mTgB1]; exact bit_l ht (tgB1_mono ht h k)
theorem tgB1_in {p b : Int32} {t j : Nat} (ht : t < 16) (e : mTarget S p (nI j) = nI t) : ∀ k, j < k → bit (mTgB1 S p b k) t
  | 0, h => absurd h (Nat.not_lt_zero _)
  | k + 1, h => by
    rw [mTgB1]
    by_cases ej : j = k
    · subst ej
      rw [e]; exact bit_r ht (bit_1 ht)
    · exact bit_l ht (tgB1_in ht e k (by omega))
theorem tgB_in {b : Int32} {p k j t : Nat} (hp : gN S 2 p = b) (h6 : gN S 6 p = nI k) (hk : k ≤ 3) (hj : j < k) (ht : t < 16) (h7 : gN S 7 (3 * p + j) = nI t) : ∀ N, p < N → bit (mTgB S b N) t
  | 0, h => absurd h (Nat.not_lt_zero _)
  | N + 1, h => by
    rw [mTgB]
    by_cases e : p = N
    · subst e
      have e1 : mRefsOf S b (nI p) = nI k := by
        have a : jg S 2 (nI p) = b := hp
        have c : jg S 6 (nI p) = nI k := h6
        unfold mRefsOf
        rw [a, if_pos rfl, c]
      rw [e1, nI_clamp (by omega)]
      refine tgB1_in (j := j) ht ?_ k hj
      unfold mTarget
      rw [idx3]; exact h7
    · exact tgB1_mono ht (tgB_in hp h6 hk hj ht h7 N (by omega)) _
theorem symB_cg (h2 : T.2 2 = S.2 2) (h3 : T.2 3 = S.2 3) (y : Int32) : ∀ n, mSymB T y n = mSymB S y n
  | 0 => rfl
  | n + 1 => by
    have e2 : jg T 2 (nI n) = jg S 2 (nI n) := g_of h2 n
    have e3 : jg T 3 (nI n) = jg S 3 (nI n) := g_of h3 n
    rw [mSymB, mSymB, symB_cg h2 h3 y n, e2, e3]
def Tk (B T : jS) (n : Nat) : Prop :=
  (∀ k, k ≠ 4 → k ≠ 5 → k ≠ 8 → T.1 k = B.1 k) ∧
  (∀ r, r ≠ 11 → T.2 r = B.2 r) ∧
  (T.1 8 = nI n) ∧
  (∀ i, i < n → ∃ b, b < 3 ∧ gN T 11 i = nI b) ∧
  (∀ i p k j t, i < n → p < mPc B → gN B 2 p = gN T 11 i → gN B 6 p = nI k → k ≤ 3 → j < k → t < 16 → gN B 7 (3 * p + j) = nI t → bit (T.1 5) t)
theorem Tk.kn {B T : jS} {n : Nat} (h : Tk B T n) : ∀ k, k ≠ 4 → k ≠ 5 → k ≠ 8 → T.1 k = B.1 k := h.1
theorem Tk.kr {B T : jS} {n : Nat} (h : Tk B T n) : ∀ r, r ≠ 11 → T.2 r = B.2 r := h.2.1
theorem Tk.n8 {B T : jS} {n : Nat} (h : Tk B T n) : T.1 8 = nI n := h.2.2.1
theorem Tk.ob {B T : jS} {n : Nat} (h : Tk B T n) : ∀ i, i < n → ∃ b, b < 3 ∧ gN T 11 i = nI b := h.2.2.2.1
theorem Tk.tb {B T : jS} {n : Nat} (h : Tk B T n) : ∀ i p k j t, i < n → p < mPc B → gN B 2 p = gN T 11 i → gN B 6 p = nI k → k ≤ 3 → j < k → t < 16 → gN B 7 (3 * p + j) = nI t → bit (T.1 5) t := h.2.2.2.2
theorem tk_pc {n : Nat} (H : Tk B T n) : mPc T = mPc B := by unfold mPc; rw [H.kn 2 (by decide) (by decide) (by decide)]
theorem tk_ob {n : Nat} (H : Tk B T n) : mOb T = mOb B := by unfold mOb; rw [H.kn 1 (by decide) (by decide) (by decide)]
theorem Tk.take {n b : Nat} (H : Tk B T n) (hn : n < 8) (hb : b < 3) : Tk B (lkTake T (nI b)) (n + 1) ∧ (lkTake T (nI b)).1 4 = T.1 4 ||| mSymB B (nI b) (mPc B) := by
  have r1 : ∀ r, r ≠ 11 → (lkTake T (nI b)).2 r = T.2 r := fun r h => by
    show (jset T 11 (T.1 8) (nI b)).2 r = T.2 r
    exact set_r _ _ h
  have r2 : ∀ r, r ≠ 11 → (tk2 T (nI b)).2 r = T.2 r := fun r h => by
    show (jset T 11 (T.1 8) (nI b)).2 r = T.2 r
    exact set_r _ _ h
  have g11 : ∀ i, i < 8 → gN (lkTake T (nI b)) 11 i = if i = n then nI b else gN T 11 i := fun i hi => by
    show gN (jset T 11 (T.1 8) (nI b)) 11 i = _
    rw [H.n8]
    exact set_g (r := 11) hn i (by omega)
  have e8 : (lkTake T (nI b)).1 8 = nI (n + 1) := by
    unfold lkTake tk2 tk1
    rw [js_n _ _ (by decide), js_n _ _ (by decide), js_1, H.n8, nI_succ]
  have e5 : (lkTake T (nI b)).1 5 = T.1 5 ||| mTgB (tk2 T (nI b)) (nI b) (mPc (tk2 T (nI b))) := by
    unfold lkTake
    rw [js_1]
    rfl
  have epc : mPc (tk2 T (nI b)) = mPc B := by
    rw [← tk_pc H]; rfl
  refine ⟨⟨fun k h4 h5 h8 => ?_, fun r h => (r1 r h).trans (H.kr r h), e8, fun i hi => ?_, fun i p k j t hi hp h2 h6 hk hj ht h7 => ?_⟩, ?_⟩
  · unfold lkTake tk2 tk1
    rw [js_n _ _ h5, js_n _ _ h4, js_n _ _ h8]
    exact H.kn k h4 h5 h8
  · rw [g11 i (by omega)]
    by_cases e : i = n
    · rw [if_pos e]; exact ⟨b, hb, rfl⟩
    · rw [if_neg e]; exact H.ob i (by omega)
  · rw [g11 i (by omega)] at h2
    rw [e5]
    by_cases e : i = n
    · rw [if_pos e] at h2
      refine bit_r ht ?_
      rw [epc]
      refine tgB_in (p := p) (k := k) (j := j) ?_ ?_ hk hj ht ?_ _ hp
      · rw [g_of (r2 2 (by decide)), g_of (H.kr 2 (by decide))]; exact h2
      · rw [g_of (r2 6 (by decide)), g_of (H.kr 6 (by decide))]; exact h6
      · rw [g_of (r2 7 (by decide)), g_of (H.kr 7 (by decide))]; exact h7
    · rw [if_neg e] at h2
      exact bit_l ht (H.tb i p k j t (by omega) hp h2 h6 hk hj ht h7)
  · unfold lkTake tk2
    rw [js_n _ _ (by decide), js_1]
    have e1 : (tk1 T (nI b)).1 4 = T.1 4 := by unfold tk1; rw [js_n _ _ (by decide)]; rfl
    have e2 : ((tk1 T (nI b)).1 2).toNatClampNeg = mPc B := by
      have : (tk1 T (nI b)).1 2 = T.1 2 := by unfold tk1; rw [js_n _ _ (by decide)]; rfl
      rw [this]; exact tk_pc H
    have rk : ∀ r, r ≠ 11 → (tk1 T (nI b)).2 r = B.2 r := fun r h => by
      show (jset T 11 (T.1 8) (nI b)).2 r = B.2 r
      exact (set_r _ _ h).trans (H.kr r h)
    rw [e1, e2, symB_cg (rk 2 (by decide)) (rk 3 (by decide))]
theorem plain_go (hB : mOb B = 3) (H0 : Tk B B 0) (wo : Int32) : ∀ i, i ≤ 3 → ∃ n, n ≤ i ∧ Tk B (jfo (pl1 wo) B i) n
  | 0, _ => ⟨0, Nat.le_refl _, H0⟩
  | i + 1, h => by
    obtain ⟨n, hn, H⟩ := plain_go hB H0 wo i (by omega)
    rw [jfo]
    unfold pl1
    split
    · exact ⟨n + 1, by omega, (H.take (by omega) (by omega)).1⟩
    · exact ⟨n, by omega, H⟩
def hadF (B T : jS) : Nat := cnt (fun i => decide (mSymB B (nI i) (mPc B) &&& (T.1 4 ^^^ (-1)) = 0)) 3
theorem hadF_le (B T : jS) : hadF B T ≤ 3 := cnt_le _ 3
theorem need_go (hB : mOb B = 3) {P : jS} {n0 : Nat} (h0 : n0 ≤ 3) (H0 : Tk B P n0) (wo : Int32) : ∀ i, ∃ n, n ≤ 3 + hadF B (jfo (nd1 wo) P i) ∧ Tk B (jfo (nd1 wo) P i) n
  | 0 => ⟨n0, by omega, H0⟩
  | i + 1 => by
    obtain ⟨n, hn, H⟩ := need_go hB h0 H0 wo i
    rw [jfo]
    generalize jfo (nd1 wo) P i = T at hn H
    unfold nd1
    by_cases e : mNeed T wo = -1
    · rw [if_pos e]; exact ⟨n, hn, H⟩
    · rw [if_neg e]
      have hle := hadF_le B T
      unfold mNeed jfI at e ⊢
      cases hj : jfind (mNeedQ T wo) (mOb T) with
      | none => rw [hj] at e; exact absurd rfl e
      | some b =>
        obtain ⟨b1, b2⟩ := jfind_lt hj
        rw [tk_ob H, hB] at b1
        dsimp only
        obtain ⟨H', e4⟩ := H.take (by omega) b1
        refine ⟨n + 1, ?_, H'⟩
        have hlt : hadF B T < hadF B (lkTake T (nI b)) := by
          unfold hadF
          refine cnt_lt (j := b) (fun i _ hp => ?_) b1 ?_ ?_
          · have := of_decide_eq_true hp
            refine decide_eq_true ?_
            rw [e4]; exact had_mono this
          · refine decide_eq_false (fun z => ?_)
            unfold mNeedQ at b2
            simp only [Bool.and_eq_true, decide_eq_true_eq] at b2
            have hs : mSymB T (nI b) (T.1 2).toNatClampNeg = mSymB B (nI b) (mPc B) := by
              have e2 : (T.1 2).toNatClampNeg = mPc B := tk_pc H
              rw [e2, symB_cg (H.kr 2 (by decide)) (H.kr 3 (by decide))]
            have h2 := b2.2
            rw [hs] at h2
            exact h2 (had_w z)
          · refine decide_eq_true ?_
            rw [e4]; exact had_or _ _
        omega
theorem take_ok (hB : mOb B = 3) (H0 : Tk B B 0) (wo : Int32) : ∃ n, n ≤ 6 ∧ Tk B (lkNeeded (lkPlain B wo) wo) n := by
  unfold lkNeeded lkPlain
  rw [hB]
  obtain ⟨n, hn, H⟩ := plain_go hB H0 wo 3 (Nat.le_refl _)
  obtain ⟨m, hm, H'⟩ := need_go hB hn H wo 8
  have := hadF_le B (jfo (nd1 wo) (jfo (pl1 wo) B 3) 8)
  exact ⟨m, by omega, H'⟩
end Take
