/-! What a replace leaves, and carrying patches out in the spare. -/
theorem rep_no {S : jS} {p : Int32} (h : rpOk S p = false) : jRep S p = S := by
  unfold jRep; rw [h, if_neg (by decide)]
theorem rep_sp {S : jS} {np p y z : Nat} (H : Img S 1 np) (hnp : np ≤ 40) (hp : p < np) (hy : y < 16) (e3 : gN S 3 p = nI y) (e4 : gN S 4 p = nI z) (hz : 1 ≤ z) (hz2 : z ≤ 20) (hst : gN S 20 y ≠ -1) (hok : rpOk S (nI p) = true) :
    ∃ s x, s < np ∧ x < 200 ∧ gN S 20 y = nI s ∧ gN S 21 s ≠ -1 ∧ (jRep S (nI p)).1 = S.1 ∧ (∀ r, r ≠ 20 → r ≠ 21 → r ≠ 26 → r ≠ 27 → r ≠ 28 → (jRep S (nI p)).2 r = S.2 r) ∧ (∀ q, q < 40 → gN (jRep S (nI p)) 21 q = if q = s then -1 else if q = p then nI x else gN S 21 q) ∧ (∀ q, q < 16 → gN (jRep S (nI p)) 20 q = if q = y then nI p else gN S 20 q) := by
  have E4 : jg S 4 (nI p) = nI z := e4
  have E3 : jg S 3 (nI p) = nI y := e3
  have h1 := jRep_1 S (nI p)
  have hrep : jRep S (nI p) = rpS3 S (nI p) (mRoom S 26 (nI z)) := by unfold jRep; rw [if_pos hok, E4]
  rcases room_sp S 26 hz (by omega) with h | ⟨x, hx, hx2, hfree, -⟩
  · unfold rpOk at hok
    rw [E4, h] at hok
    exact absurd hok (by decide)
  · rcases H.st y hy with h | ⟨s, s1, s2, s3, s4⟩
    · exact absurd h hst
    · rcases H.pl s s1 with h | ⟨a, w, a1, a2, a3, a4, a5⟩
      · exact absurd h s4
      · obtain ⟨-, rr, r26, -, r21, r20⟩ := rp2_sp (x := x) (by omega) hy e3 e4 hx2 (by omega) s2 a1 a2 a4
        rw [hx] at hrep
        have hr3 : ∀ r, r ≠ 26 → r ≠ 27 → r ≠ 28 → (jRep S (nI p)).2 r = (rpS2 S (nI p) (nI x)).2 r := fun r b1 b2 b3 => by
          rw [hrep]
          have Es : mStand S 2 (nI y) = nI s := s2
          have Ea : mPlace S 2 (nI s) = nI a := a1
          unfold rpS3
          rw [E3, Es, Ea]
          split
          · rw [set_r _ _ b3]
            exact (mark_sp (S := rpS2 S (nI p) (nI x)) (a := 26) (b := 27) (x := a) (z := 1) (v := 3) (c := nI y) (by decide) rfl rfl (by omega)).2.1 r b1 b2
          · rfl
        refine ⟨s, x, s1, by omega, s2, s4, h1, fun r b1 b2 b3 b4 b5 => ?_, fun q hq => ?_, fun q hq => ?_⟩
        · rw [hr3 r b3 b4 b5]; exact rr r b1 b2 b3 b4
        · rw [g_of (hr3 21 (by decide) (by decide) (by decide)) q]; exact r21 q hq
        · rw [g_of (hr3 20 (by decide) (by decide) (by decide)) q]; exact r20 q hq
def CoI (S : jS) (b : Int32) (i : Nat) (q : Bool) (U : jS) : Prop :=
  (FrI S U) ∧
  (Img U 1 (mPc S)) ∧
  (∀ y, y < 16 → (gN U 20 y = -1 ↔ gN S 17 y = -1)) ∧
  (∀ y, y < 16 → gN U 20 y = gN S 17 y ∨ ∃ k p, k < i ∧ mGoes S (nI k) b = true ∧ gN S 31 k = nI p ∧ p < mPc S ∧ gN S 3 p = nI y ∧ gN U 20 y = nI p) ∧
  (q = true → ∀ k p y, k < i → mGoes S (nI k) b = true → gN S 31 k = nI p → p < mPc S → y < 16 → gN S 3 p = nI y → gN U 20 y = nI p) ∧
  (∀ k p, k < mNP S → gN S 31 k = nI p → p < mPc S → gN S 33 k ≠ 1 → (k < i → mGoes S (nI k) b = false) → gN U 21 p = -1) ∧
  (∀ p, p < mPc S → gN S 18 p ≠ -1 → gN U 21 p = -1 → mRunsW S (nI p) 4 = 0) ∧
  (∀ p, p < mPc S → gN U 21 p ≠ -1 → gN S 18 p ≠ -1 ∨ ∃ i, i < mNP S ∧ gN S 31 i = nI p)
theorem CoI.fi {S : jS} {b : Int32} {i : Nat} {q : Bool} {U : jS} (h : CoI S b i q U) : FrI S U := h.1
theorem CoI.im {S : jS} {b : Int32} {i : Nat} {q : Bool} {U : jS} (h : CoI S b i q U) : Img U 1 (mPc S) := h.2.1
theorem CoI.st {S : jS} {b : Int32} {i : Nat} {q : Bool} {U : jS} (h : CoI S b i q U) : ∀ y, y < 16 → (gN U 20 y = -1 ↔ gN S 17 y = -1) := h.2.2.1
theorem CoI.wh {S : jS} {b : Int32} {i : Nat} {q : Bool} {U : jS} (h : CoI S b i q U) : ∀ y, y < 16 → gN U 20 y = gN S 17 y ∨ ∃ k p, k < i ∧ mGoes S (nI k) b = true ∧ gN S 31 k = nI p ∧ p < mPc S ∧ gN S 3 p = nI y ∧ gN U 20 y = nI p := h.2.2.2.1
theorem CoI.dn {S : jS} {b : Int32} {i : Nat} {q : Bool} {U : jS} (h : CoI S b i q U) : q = true → ∀ k p y, k < i → mGoes S (nI k) b = true → gN S 31 k = nI p → p < mPc S → y < 16 → gN S 3 p = nI y → gN U 20 y = nI p := h.2.2.2.2.1
theorem CoI.nl {S : jS} {b : Int32} {i : Nat} {q : Bool} {U : jS} (h : CoI S b i q U) : ∀ k p, k < mNP S → gN S 31 k = nI p → p < mPc S → gN S 33 k ≠ 1 → (k < i → mGoes S (nI k) b = false) → gN U 21 p = -1 := h.2.2.2.2.2.1
theorem CoI.lr {S : jS} {b : Int32} {i : Nat} {q : Bool} {U : jS} (h : CoI S b i q U) : ∀ p, p < mPc S → gN S 18 p ≠ -1 → gN U 21 p = -1 → mRunsW S (nI p) 4 = 0 := h.2.2.2.2.2.2.1
theorem CoI.la {S : jS} {b : Int32} {i : Nat} {q : Bool} {U : jS} (h : CoI S b i q U) : ∀ p, p < mPc S → gN U 21 p ≠ -1 → gN S 18 p ≠ -1 ∨ ∃ i, i < mNP S ∧ gN S 31 i = nI p := h.2.2.2.2.2.2.2
section Co
variable {S : jS} {b : Int32}
theorem goes_w {k : Int32} (h : mGoes S k b = true) : mWait S k = true := by
  unfold mGoes at h
  rw [Bool.and_eq_true] at h
  exact h.2
theorem fi_goes {T : jS} (h : FrI S T) (k : Int32) : mGoes T k b = mGoes S k b := by
  unfold mGoes mTog
  rw [fi_wait h, fi_jg h (by decide), fi_jg h (by decide)]
theorem Inv0.wait (H : Inv0 S) {k : Nat} (hk : k < mNP S) : mWait S (nI k) = true ↔ gN S 33 k = 0 := by
  have h8 := H.nnN
  unfold mWait
  rw [decide_eq_true_iff]
  exact ⟨fun h => h.2.2, fun h => ⟨nI_pos' (by omega), by rw [h8.1]; exact nI_lt hk (by omega), h⟩⟩
theorem psym_of {k p y : Nat} (h1 : gN S 31 k = nI p) (h2 : gN S 3 p = nI y) : mPSym S (nI k) = nI y := by
  unfold mPSym; unfold gN at h1 h2; rw [h1, h2]
theorem clear_wb {i k : Nat} (h : mClear S (nI i) = true) (hi : i < 2 ^ 31) (hk : k < i) (hw : mWait S (nI k) = true) : mPSym S (nI k) ≠ mPSym S (nI i) := by
  intro e
  unfold mClear at h
  simp only [Bool.and_eq_true, Bool.not_eq_true'] at h
  have h1 := h.1.1
  unfold mWB at h1
  rw [nI_clamp hi] at h1
  have : mWBQ S (mPSym S (nI i)) k = true := by unfold mWBQ; rw [hw, decide_eq_true e]; rfl
  rw [jany_t hk this] at h1
  cases h1
/-- of those that go, no two have one symbol -/
theorem goes_ne (H : Inv0 S) (hG : ∀ k, k < mNP S → mGoes S (nI k) b = true → mClear S (nI k) = true) {i k p q y : Nat} (hi : i < mNP S) (hk : k < mNP S) (hik : i ≠ k) (gi : mGoes S (nI i) b = true) (gk : mGoes S (nI k) b = true) (e1 : gN S 31 i = nI p) (e2 : gN S 3 p = nI y) (e3 : gN S 31 k = nI q) (e4 : gN S 3 q = nI y) : False := by
  have h8 := H.nnN.2
  rcases Nat.lt_or_gt_of_ne hik with h | h
  · exact clear_wb (hG k hk gk) (by omega) h (goes_w gi) ((psym_of e1 e2).trans (psym_of e3 e4).symm)
  · exact clear_wb (hG i hi gi) (by omega) h (goes_w gk) ((psym_of e3 e4).trans (psym_of e1 e2).symm)
theorem co_0 (H : Inv0 S) : CoI S b 0 true (jIcopy S 1 0) := by
  obtain ⟨n0, r0, a1, a2, a3, a4, a5⟩ := ic_10 S
  have hN := H.npN.2
  have no : ∀ {k : Nat} {P : Prop}, k < 0 → P := fun h => absurd h (Nat.not_lt_zero _)
  refine ⟨⟨n0 1 (by decide), n0 2 (by decide), n0 18 (by decide), fun r hr => r0 r ?_⟩, H.im.to1 hN, fun y hy => by rw [a1 y hy], fun y hy => Or.inl (a1 y hy), fun _ k p y hk => no hk, fun k p hk h1 hp h2 _ => ?_, fun p hp h1 h2 => ?_, fun p hp h => ?_⟩
  · unfold iR at hr
    rw [List.contains_iff_mem] at hr
    simp only [List.mem_cons, List.not_mem_nil, or_false] at hr
    omega
  · rw [a2 p (by omega)]
    obtain ⟨p', y', b1, b2, b3, b4, b5, b6, -⟩ := (H.pt k hk).ex
    have : p' = p := nI_ij (by omega) (by omega) (b2.symm.trans h1)
    subst this
    exact b6 h2
  · rw [a2 p (by omega)] at h2; exact absurd h2 h1
  · rw [a2 p (by omega)] at h; exact Or.inl h
theorem co_step (H : Inv0 S) (hG : ∀ k, k < mNP S → mGoes S (nI k) b = true → mClear S (nI k) = true) {i : Nat} (hi : i < mNP S) {q : Bool} {U : jS} (C : CoI S b i q U) : CoI S b (i + 1) (co1 b i (q, U)).1 (co1 b i (q, U)).2 := by
  have hN := H.npN.2
  have h8 := H.nnN.2
  have skip : ∀ q', (q' = true → q = true ∧ mGoes S (nI i) b = false) → CoI S b (i + 1) q' U := fun q' hq' => by
    refine ⟨C.fi, C.im, C.st, fun y hy => ?_, fun hq k p y hk gk => ?_, fun k p hk h1 hp h2 h3 => C.nl k p hk h1 hp h2 (fun hki => h3 (by omega)), C.lr, C.la⟩
    · rcases C.wh y hy with h | ⟨k, p, k1, k2⟩
      · exact Or.inl h
      · exact Or.inr ⟨k, p, by omega, k2⟩
    · obtain ⟨z1, z2⟩ := hq' hq
      have hki : k ≠ i := fun e => by rw [e, z2] at gk; cases gk
      exact C.dn z1 k p y (by omega) gk
  unfold co1
  cases hq : q with
  | false =>
    rw [if_neg (fun z : false = true => Bool.noConfusion z)]
    exact skip false (fun z => by cases z)
  | true =>
    rw [if_pos rfl]
    dsimp only
    rw [fi_goes C.fi]
    cases hg : mGoes S (nI i) b with
    | false =>
      rw [if_neg (by decide)]
      exact skip true (fun _ => ⟨hq, hg⟩)
    | true =>
      rw [if_pos rfl]
      dsimp only
      have hw := (H.wait hi).mp (goes_w hg)
      obtain ⟨p, y, b1, b2, b3, b4, b5, b6, -, b8⟩ := (H.pt i hi).ex
      have hstS := b8 hw
      have hstU : gN U 20 y ≠ -1 := fun z => hstS ((C.st y b4).mp z)
      obtain ⟨z, z1, z2, z3⟩ := (H.pc p b1).sz
      have e31 : jg U 31 (nI i) = nI p := (fi_gN C.fi (r := 31) (by decide) i).trans b2
      have e3 : gN U 3 p = nI y := (fi_gN C.fi (by decide) p).trans b3
      have e4 : gN U 4 p = nI z := (fi_gN C.fi (by decide) p).trans z3
      have hnl : gN U 21 p = -1 := C.nl i p hi b2 b1 (by rw [hw]; decide) (fun h => absurd h (Nat.lt_irrefl _))
      rw [e31]
      cases hok : rpOk U (nI p) with
      | false => rw [rep_no hok]; exact skip false (fun z => by cases z)
      | true =>
        obtain ⟨s, x, s1, x1, s2, s3, n1, rr, r21, r20⟩ := rep_sp C.im hN b1 b4 e3 e4 z1 z2 hstU hok
        have hsy : gN U 20 y = gN S 17 y := by
          rcases C.wh y b4 with h | ⟨k, p', k1, k2, k3, k4, k5, k6⟩
          · exact h
          · exact (goes_ne H hG hi (by omega) (by omega) hg k2 b2 b3 k3 k5).elim
        have hps : p ≠ s := fun e => by subst e; exact s3 hnl
        have hcl := hG i hi hg
        have hrs : mRunsW S (nI s) 4 = 0 := by
          unfold mClear at hcl
          simp only [Bool.and_eq_true, decide_eq_true_eq] at hcl
          have h1 := hcl.1.2
          have E31 : jg S 31 (nI i) = nI p := b2
          have E3 : jg S 3 (nI p) = nI y := b3
          rw [E31, E3] at h1
          have E17 : mStand S 1 (nI y) = nI s := hsy.symm.trans s2
          rw [E17] at h1
          exact h1
        refine ⟨C.fi.tr ⟨by rw [n1], by rw [n1], by rw [n1], fun r hr => rr r ?_ ?_ ?_ ?_ ?_⟩, C.im.rep hN b1 b4 e3 e4 z1 z2 hnl hstU, fun y' hy' => ?_, fun y' hy' => ?_, fun _ k p' y' hk gk k1 k2 hy' k3 => ?_, fun k p' hk h1 hp' h2 h3 => ?_, fun p' hp' h1 h2 => ?_, fun p' hp' h => ?_⟩
        · intro e; rw [e] at hr; exact absurd hr (by decide)
        · intro e; rw [e] at hr; exact absurd hr (by decide)
        · intro e; rw [e] at hr; exact absurd hr (by decide)
        · intro e; rw [e] at hr; exact absurd hr (by decide)
        · intro e; rw [e] at hr; exact absurd hr (by decide)
        · rw [r20 y' hy']
          by_cases e : y' = y
          · subst e
            rw [if_pos rfl]
            exact ⟨fun z => absurd z (nI_m1 (by omega)), fun z => absurd z hstS⟩
          · rw [if_neg e]; exact C.st y' hy'
        · rw [r20 y' hy']
          by_cases e : y' = y
          · subst e
            rw [if_pos rfl]
            exact Or.inr ⟨i, p, by omega, hg, b2, b1, b3, rfl⟩
          · rw [if_neg e]
            rcases C.wh y' hy' with h | ⟨k, p', k1, k2⟩
            · exact Or.inl h
            · exact Or.inr ⟨k, p', by omega, k2⟩
        · rw [r20 y' hy']
          by_cases e : y' = y
          · subst e
            rw [if_pos rfl]
            by_cases hki : k = i
            · subst hki
              exact b2.symm.trans k1
            · exact (goes_ne H hG hi (by omega) (Ne.symm hki) hg gk b2 b3 k1 k3).elim
          · rw [if_neg e]
            have hki : k ≠ i := fun z => by
              subst z
              have : p = p' := nI_ij (by omega) (by omega) (b2.symm.trans k1)
              subst this
              exact e (nI_ij (by omega) (by omega) (k3.symm.trans b3))
            exact C.dn hq k p' y' (by omega) gk k1 k2 hy' k3
        · rw [r21 p' (by omega)]
          by_cases e : p' = s
          · rw [if_pos e]
          · rw [if_neg e]
            have hki : k ≠ i := fun z => by
              subst z
              rw [h3 (by omega)] at hg; cases hg
            have hpp : p' ≠ p := fun z => by
              subst z
              rcases Nat.lt_or_gt_of_ne hki with h | h
              · exact Nat.lt_irrefl _ (H.po k i p' p' h hi (by omega) (by omega) h1 b2)
              · exact Nat.lt_irrefl _ (H.po i k p' p' h hk (by omega) (by omega) b2 h1)
            rw [if_neg hpp]
            exact C.nl k p' hk h1 hp' h2 (fun hki => h3 (by omega))
        · rw [r21 p' (by omega)] at h2
          by_cases e : p' = s
          · subst e; exact hrs
          · rw [if_neg e] at h2
            by_cases e2 : p' = p
            · rw [if_pos e2] at h2
              exact absurd h2 (nI_m1 (by omega))
            · rw [if_neg e2] at h2; exact C.lr p' hp' h1 h2
        · rw [r21 p' (by omega)] at h
          by_cases e : p' = s
          · rw [if_pos e] at h; exact absurd rfl h
          · rw [if_neg e] at h
            by_cases e2 : p' = p
            · subst e2; exact Or.inr ⟨i, hi, b2⟩
            · rw [if_neg e2] at h; exact C.la p' hp' h
theorem co_all (H : Inv0 S) (hG : ∀ k, k < mNP S → mGoes S (nI k) b = true → mClear S (nI k) = true) : ∀ i, i ≤ mNP S → CoI S b i (coS S b i).1 (coS S b i).2
  | 0, _ => co_0 H
  | i + 1, h => by
    rw [coS]
    exact co_step H hG (by omega) (co_all H hG i (by omega))
end Co
