/-! What a link chooses; a link without faults. -/
section Choose
variable {N T : jS} {n np : Nat}
def Chs (N : jS) (n np : Nat) (T : jS) : Prop :=
  (T.1 = N.1) ∧
  (∀ r, r ≠ 12 → r ≠ 14 → T.2 r = N.2 r) ∧
  (∀ y, y < 16 → gN T 14 y = -1 ∨ ∃ p i, p < np ∧ gN T 14 y = nI p ∧ gN N 3 p = nI y ∧ i < n ∧ gN N 2 p = gN N 11 i)
theorem Chs.n1 {N : jS} {n np : Nat} {T : jS} (h : Chs N n np T) : T.1 = N.1 := h.1
theorem Chs.kr {N : jS} {n np : Nat} {T : jS} (h : Chs N n np T) : ∀ r, r ≠ 12 → r ≠ 14 → T.2 r = N.2 r := h.2.1
theorem Chs.st {N : jS} {n np : Nat} {T : jS} (h : Chs N n np T) : ∀ y, y < 16 → gN T 14 y = -1 ∨ ∃ p i, p < np ∧ gN T 14 y = nI p ∧ gN N 3 p = nI y ∧ i < n ∧ gN N 2 p = gN N 11 i := h.2.2
theorem Chs.cons (H : Chs N n np T) (hnp : np ≤ 40) {p i : Nat} (hp : p < np) (hi : i < n) (h2 : gN N 2 p = gN N 11 i) {y : Nat} (hy : y < 16) (h3 : gN N 3 p = nI y) : Chs N n np (lkCons T (nI p)) := by
  have e3 : jg T 3 (nI p) = nI y := (g_of (H.kr 3 (by decide) (by decide)) p).trans h3
  have h1 : Chs N n np (cn1 T (nI p)) := by
    unfold cn1
    rw [e3]
    split
    · refine ⟨H.n1, fun r a b => (set_r _ _ b).trans (H.kr r a b), fun q hq => ?_⟩
      rw [set_g (r := 14) hy q (by omega)]
      by_cases e : q = y
      · subst e
        rw [if_pos rfl]
        exact Or.inr ⟨p, i, hp, rfl, h3, hi, h2⟩
      · rw [if_neg e]; exact H.st q hq
    · exact H
  unfold lkCons
  split
  · unfold jadd
    refine ⟨h1.n1, fun r a b => (set_r _ _ a).trans (h1.kr r a b), fun q hq => ?_⟩
    rw [g_of (set_r _ _ (by decide)) q]; exact h1.st q hq
  · exact h1
theorem chs_go (hnp : np ≤ 40) (hN : mPc N = np) (h3 : ∀ p, p < np → ∃ y, y < 16 ∧ gN N 3 p = nI y) (H0 : ∀ y, y < 16 → gN N 14 y = -1) : ∀ m, m ≤ n → Chs N n np (jfo ch1 N m)
  | 0, _ => ⟨rfl, fun _ _ _ => rfl, fun y hy => Or.inl (H0 y hy)⟩
  | m + 1, h => by
    have ih := chs_go hnp hN h3 H0 m (by omega)
    rw [jfo]
    generalize jfo ch1 N m = T at ih
    have hpc : mPc T = np := by unfold mPc; rw [ih.n1]; exact hN
    unfold ch1
    rw [hpc]
    have go : ∀ q, q ≤ np → Chs N n np (jfo (ch2 m) T q) := fun q => by
      induction q with
      | zero => exact fun _ => ih
      | succ q iq =>
        intro hq
        have C := iq (by omega)
        rw [jfo]
        generalize jfo (ch2 m) T q = U at C
        unfold ch2
        split
        · rename_i hc
          have c2 : gN N 2 q = gN N 11 m := by
            have a : jg U 2 (nI q) = gN N 2 q := g_of (C.kr 2 (by decide) (by decide)) q
            have b : jg U 11 (nI m) = gN N 11 m := g_of (C.kr 11 (by decide) (by decide)) m
            rw [a, b] at hc
            exact hc
          obtain ⟨y, y1, y2⟩ := h3 q (by omega)
          exact C.cons hnp (by omega) (by omega) c2 y1 y2
        · exact C
    exact go np (Nat.le_refl _)
end Choose
section NoFlt
theorem flt_go {f : Nat → jS → jS} (hf : ∀ i T, f i T = T ∨ ∃ c y, f i T = lkFault T c y) {S : jS} {c : Nat} (hc : S.1 3 = nI c) : ∀ n, ∃ m, m ≤ n ∧ (jfo f S n).1 3 = nI (c + m) ∧ (m = 0 → jfo f S n = S ∧ ∀ i, i < n → f i S = S)
  | 0 => ⟨0, Nat.le_refl _, hc, fun _ => ⟨rfl, fun i h => absurd h (Nat.not_lt_zero _)⟩⟩
  | n + 1 => by
    obtain ⟨m, m1, m2, m3⟩ := flt_go hf hc n
    rw [jfo]
    rcases hf n (jfo f S n) with h | ⟨k, y, h⟩
    · rw [h]
      refine ⟨m, by omega, m2, fun z => ?_⟩
      obtain ⟨e1, e2⟩ := m3 z
      refine ⟨e1, fun i hi => ?_⟩
      by_cases e : i = n
      · subst e
        rw [e1] at h; exact h
      · exact e2 i (by omega)
    · rw [h]
      refine ⟨m + 1, by omega, ?_, fun z => absurd z (by omega)⟩
      unfold lkFault
      rw [js_1, m2]; exact (nI_succ _).symm
theorem flt_1 (T : jS) (c y : Int32) : lkFault T c y ≠ T := by
  intro h
  have h1 : (lkFault T c y).1 3 = T.1 3 + 1 := by unfold lkFault; rw [js_1]
  rw [h] at h1
  have : (1 : Int32) = 0 := by
    have h2 := congrArg (fun v => v - T.1 3) h1
    simp only [Int32.sub_self] at h2
    rw [Int32.add_comm, Int32.add_sub_cancel] at h2
    exact h2.symm
  exact absurd this (by decide)
theorem lay_3 (S : jS) : (lkLay S).1 3 = S.1 3 := by
  have hp : ∀ (b : Int32) (T : jS), (lkPieces T b).1 3 = T.1 3 := fun b T => jfo_1 (fun i U => by
    unfold lkp1; split
    · rw [js_n _ _ (by decide)]; rfl
    · rfl) T _
  have hi : ∀ (b : Int32) (T : jS), (lkIslands T b).1 3 = T.1 3 := fun b T => jfo_1 (fun i U => by
    unfold li1; split
    · rw [js_n _ _ (by decide)]; rfl
    · rfl) T _
  have ha : ∀ T : jS, (lkAll T).1 3 = T.1 3 := fun T => by
    unfold lkAll
    rw [jfo_1 (f := la1) (fun i U => by unfold la1; rw [hi, hp])]
    exact js_n _ _ (by decide)
  unfold lkLay
  rw [jfo_1 (f := il2) (fun i U => by
    unfold il2; split
    · rfl
    · rw [ha]; unfold il1; rw [js_n _ _ (by decide)]; rfl)]
  exact ha S
abbrev lkC (S : jS) (r wo : Int32) : jS := lkChoose (lkNeeded (lkPlain (lkBegin S r) wo) wo)
theorem try_ok {S : jS} {r wo : Int32} (h0 : (lkC S r wo).1 3 = 0) (h : (lkTry S r wo).1 3 = 0) : lkTry S r wo = lkLay (lkC S r wo) ∧ (lkLay (lkC S r wo)).1 6 ≤ 200 ∧ ∀ y, y < 16 → bit ((lkC S r wo).1 5) y → gN (lkC S r wo) 14 y ≠ -1 := by
  have e1 : at1 S r wo = lkMissing (lkDouble (lkC S r wo)) := rfl
  generalize lkC S r wo = C at h0 e1
  obtain ⟨m1, a1, a2, a3⟩ := flt_go (f := db1) (fun i T => by
    unfold db1; split
    · exact Or.inl rfl
    · exact Or.inr ⟨_, _, rfl⟩) (S := C) (c := 0) h0 16
  have a2' : (lkDouble C).1 3 = nI (0 + m1) := by unfold lkDouble; exact a2
  obtain ⟨m2, b1, b2, b3⟩ := flt_go (f := ms1) (fun i T => by
    unfold ms1; split
    · exact Or.inr ⟨_, _, rfl⟩
    · exact Or.inl rfl) (S := lkDouble C) a2' 16
  have b2' : (at1 S r wo).1 3 = nI (0 + m1 + m2) := by rw [e1]; unfold lkMissing; exact b2
  have z : ∀ k, k < 100 → nI k = 0 → k = 0 := fun k hk e => nI_ij (b := 0) (by omega) (by decide) e
  unfold lkTry at h ⊢
  split at h
  · rename_i hle
    rw [if_pos hle]
    have hm : m1 + m2 = 0 := by
      refine Classical.byContradiction (fun q => ?_)
      rw [b2'] at hle
      exact nI_ge (a := 0) (b := 0 + m1 + m2) (by omega) (by omega) hle
    obtain ⟨c1, c2⟩ := a3 (by omega)
    obtain ⟨d1, d2⟩ := b3 (by omega)
    have c1' : lkDouble C = C := by unfold lkDouble; exact c1
    have d1' : lkMissing (lkDouble C) = lkDouble C := by rw [show lkMissing (lkDouble C) = jfo ms1 (lkDouble C) 16 from by unfold lkMissing; rfl]; exact d1
    have eC : at1 S r wo = C := by rw [e1, d1', c1']
    rw [eC] at h ⊢
    have l3 : (lkLay C).1 3 = nI 0 := by rw [lay_3, h0]; rfl
    obtain ⟨m3, f1, f2, f3⟩ := flt_go (f := or1) (fun i T => by
      unfold or1; split
      · exact Or.inr ⟨_, _, rfl⟩
      · exact Or.inl rfl) (S := lkLay C) l3 16
    have f2' : (at2 C).1 3 = nI (0 + m3) := by unfold at2 lkReach; exact f2
    unfold at3 at h ⊢
    split at h
    · rename_i h6
      rw [if_pos h6]
      rw [f2'] at h
      obtain ⟨g1, -⟩ := f3 (by have := z (0 + m3) (by omega) h; omega)
      have g1' : at2 C = lkLay C := by unfold at2 lkReach; exact g1
      rw [g1'] at h6 ⊢
      refine ⟨rfl, h6, fun y hy hb hz => ?_⟩
      have hh := d2 y hy
      rw [c1'] at hh
      unfold ms1 at hh
      rw [if_pos ⟨hb, hz⟩] at hh
      exact flt_1 _ _ _ hh
    · have : (lkFault (at2 C) 4 (-1)).1 3 = nI (0 + m3 + 1) := by unfold lkFault; rw [js_1, f2', nI_succ]
      rw [this] at h
      have := z _ (by omega) h
      omega
  · rename_i hle
    rw [b2'] at h hle
    rw [h] at hle
    exact absurd (by decide) hle
end NoFlt
