/-! All that a link lays. -/
def vA (X : jS) (n m j : Nat) : Prop := (j < mPc X ∧ ∃ i, i < n ∧ gN X 2 j = gN X 11 i) ∨ (40 ≤ j ∧ ∃ k, k < m ∧ gN X 13 k = nI (j - 40) ∧ ∃ i, i < n ∧ gN X 13 k / 16 = gN X 11 i)
section LayAll
variable {T0 Y C : jS} {n m : Nat}
theorem lay_go (h8 : T0.1 8 = nI n) (hn : n ≤ 8) (h9 : T0.1 9 = nI m) (hm : m ≤ 128) (h6 : T0.1 6 = nI 0) (hs : ∀ p, p < mPc T0 → ∃ z, 1 ≤ z ∧ z ≤ 20 ∧ gN T0 4 p = nI z) (hnp : mPc T0 ≤ 40) : ∀ q, q ≤ n → ∃ w, w ≤ q * 928 ∧ Lay T0 (fun j => vA T0 q m j) w (jfo la1 T0 q)
  | 0, _ => by
    have no : ∀ {k : Nat} {P : Prop}, k < 0 → P := fun h => absurd h (Nat.not_lt_zero _)
    have nv : ∀ j, ¬ vA T0 0 m j := fun j h => by
      rcases h with ⟨_, i, h, _⟩ | ⟨_, k, _, _, i, h, _⟩
      · exact no h
      · exact no h
    exact ⟨0, Nat.zero_le _, fun _ _ => rfl, fun _ _ _ => rfl, h6, fun i _ hv => absurd hv (nv i), fun i j _ _ vi => absurd vi (nv i), fun i _ hp => Or.inr hp⟩
  | q + 1, hq => by
    obtain ⟨w, w1, L⟩ := lay_go h8 hn h9 hm h6 hs hnp q (by omega)
    rw [jfo]
    generalize jfo la1 T0 q = U at L
    have e11 : jg U 11 (nI q) = gN T0 11 q := g_of (L.kr 11 (by decide) (by decide)) q
    have epc : mPc U = mPc T0 := by unfold mPc; rw [L.kn 2 (by decide)]
    unfold la1
    rw [e11]
    obtain ⟨u, u1, u2, P⟩ := L.pieces hs hnp (by omega) (gN T0 11 q) (mPc T0) (Nat.le_refl _)
    have eP : lkPieces U (gN T0 11 q) = jfo (lkp1 (gN T0 11 q)) U (mPc T0) := by unfold lkPieces; rw [epc]
    rw [eP]
    generalize jfo (lkp1 (gN T0 11 q)) U (mPc T0) = W at P
    have e11' : jg W 11 (nI q) = gN T0 11 q := g_of (P.kr 11 (by decide) (by decide)) q
    rw [e11']
    obtain ⟨v, v1, v2, I⟩ := P.islands (by omega) (gN T0 11 q) m hm
    have eI : lkIslands W (gN T0 11 q) = jfo (li1 (gN T0 11 q)) W m := by
      unfold lkIslands
      rw [P.kn 9 (by decide), h9, nI_clamp (by omega)]
    rw [eI]
    refine ⟨v, by omega, I.cg (fun j hj => ⟨fun h => ?_, fun h => ?_⟩)⟩
    · rcases h with (h | ⟨h1, h2⟩) | ⟨h1, k, h2, h3, h4⟩
      · rcases h with ⟨h1, i, h2, h3⟩ | ⟨h1, k, h2, h3, i, h4, h5⟩
        · exact Or.inl ⟨h1, i, by omega, h3⟩
        · exact Or.inr ⟨h1, k, h2, h3, i, by omega, h5⟩
      · exact Or.inl ⟨h1, q, by omega, h2⟩
      · exact Or.inr ⟨h1, k, h2, h3, q, by omega, h4⟩
    · rcases h with ⟨h1, i, h2, h3⟩ | ⟨h1, k, h2, h3, i, h4, h5⟩
      · by_cases e : i = q
        · subst e; exact Or.inl (Or.inr ⟨h1, h3⟩)
        · exact Or.inl (Or.inl (Or.inl ⟨h1, i, by omega, h3⟩))
      · by_cases e : i = q
        · subst e; exact Or.inr ⟨h1, k, h2, h3, h5⟩
        · exact Or.inl (Or.inl (Or.inr ⟨h1, k, h2, h3, i, by omega, h5⟩))
def Lst (C : jS) (n q : Nat) (X : jS) : Prop :=
  (∀ k, k ≠ 6 → k ≠ 9 → X.1 k = C.1 k) ∧
  (∀ r, r ≠ 13 → r ≠ 15 → r ≠ 16 → X.2 r = C.2 r) ∧
  (∃ m w, m ≤ q ∧ X.1 9 = nI m ∧ X.1 6 = nI w ∧ w < 10000 ∧ (∀ i, i < 168 → (itP X i ≠ -1 ↔ vA X n m i)) ∧ (∀ i, i < 168 → itP X i ≠ -1 → itP X i = nI (itA X i) ∧ 1 ≤ itZ C i ∧ itA X i + itZ C i ≤ w) ∧ (∀ i j, i < 168 → j < 168 → itP X i ≠ -1 → itP X j ≠ -1 → i ≠ j → itA X i + itZ C i ≤ itA X j ∨ itA X j + itZ C j ≤ itA X i))
theorem Lst.kn {C : jS} {n q : Nat} {X : jS} (h : Lst C n q X) : ∀ k, k ≠ 6 → k ≠ 9 → X.1 k = C.1 k := h.1
theorem Lst.kr {C : jS} {n q : Nat} {X : jS} (h : Lst C n q X) : ∀ r, r ≠ 13 → r ≠ 15 → r ≠ 16 → X.2 r = C.2 r := h.2.1
theorem Lst.ex {C : jS} {n q : Nat} {X : jS} (h : Lst C n q X) : ∃ m w, m ≤ q ∧ X.1 9 = nI m ∧ X.1 6 = nI w ∧ w < 10000 ∧ (∀ i, i < 168 → (itP X i ≠ -1 ↔ vA X n m i)) ∧ (∀ i, i < 168 → itP X i ≠ -1 → itP X i = nI (itA X i) ∧ 1 ≤ itZ C i ∧ itA X i + itZ C i ≤ w) ∧ (∀ i j, i < 168 → j < 168 → itP X i ≠ -1 → itP X j ≠ -1 → i ≠ j → itA X i + itZ C i ≤ itA X j ∨ itA X j + itZ C j ≤ itA X i) := h.2.2
theorem vA_cg {X X' : jS} (h2 : X'.1 2 = X.1 2) (r2 : X'.2 2 = X.2 2) (r11 : X'.2 11 = X.2 11) {m m' : Nat} (h : ∀ k, k < m → k < m' ∧ gN X' 13 k = gN X 13 k) {j : Nat} (hv : vA X n m j) : vA X' n m' j := by
  have e2 : ∀ i, gN X' 2 i = gN X 2 i := g_of r2
  have e11 : ∀ i, gN X' 11 i = gN X 11 i := g_of r11
  rcases hv with ⟨h1, i, h3, h4⟩ | ⟨h1, k, h3, h4, i, h5, h6⟩
  · refine Or.inl ⟨by unfold mPc at h1 ⊢; rw [h2]; exact h1, i, h3, by rw [e2, e11]; exact h4⟩
  · obtain ⟨k1, k2⟩ := h k h3
    exact Or.inr ⟨h1, k, k1, by rw [k2]; exact h4, i, h5, by rw [k2, e11]; exact h6⟩
theorem all_post (h8 : Y.1 8 = nI n) (hn : n ≤ 8) (h9 : Y.1 9 = nI m) (hm : m ≤ 128) (hs : ∀ p, p < mPc Y → ∃ z, 1 ≤ z ∧ z ≤ 20 ∧ gN Y 4 p = nI z) (hnp : mPc Y ≤ 40) (pre : ∀ i, i < 168 → itP Y i ≠ -1 → vA Y n m i) : (∀ k, k ≠ 6 → (lkAll Y).1 k = Y.1 k) ∧ (∀ r, r ≠ 15 → r ≠ 16 → (lkAll Y).2 r = Y.2 r) ∧ ∃ w, (lkAll Y).1 6 = nI w ∧ w < 10000 ∧ (∀ i, i < 168 → (itP (lkAll Y) i ≠ -1 ↔ vA (lkAll Y) n m i)) ∧ (∀ i, i < 168 → itP (lkAll Y) i ≠ -1 → itP (lkAll Y) i = nI (itA (lkAll Y) i) ∧ 1 ≤ itZ Y i ∧ itA (lkAll Y) i + itZ Y i ≤ w) ∧ (∀ i j, i < 168 → j < 168 → itP (lkAll Y) i ≠ -1 → itP (lkAll Y) j ≠ -1 → i ≠ j → itA (lkAll Y) i + itZ Y i ≤ itA (lkAll Y) j ∨ itA (lkAll Y) j + itZ Y j ≤ itA (lkAll Y) i) := by
  have e8 : (js Y 6 0).1 8 = nI n := by rw [js_n _ _ (by decide)]; exact h8
  have e9 : (js Y 6 0).1 9 = nI m := by rw [js_n _ _ (by decide)]; exact h9
  obtain ⟨w, w1, L⟩ := lay_go (T0 := js Y 6 0) e8 hn e9 hm (js_1 _ _ _) hs hnp n (Nat.le_refl _)
  have eA : lkAll Y = jfo la1 (js Y 6 0) n := by
    unfold lkAll
    rw [e8, nI_clamp (by omega)]
  rw [eA]
  generalize jfo la1 (js Y 6 0) n = X at L
  have hv : ∀ i, i < 168 → (itP X i ≠ -1 ↔ vA (js Y 6 0) n m i) := fun i hi => by
    constructor
    · intro h
      rcases L.sn i hi h with z | z
      · exact z
      · exact pre i hi z
    · intro h
      obtain ⟨a, b, c⟩ := L.en i hi h
      rw [a]; exact nI_m1 (by omega)
  have hvX : ∀ i, vA (js Y 6 0) n m i ↔ vA X n m i := fun i => ⟨vA_cg (L.kn 2 (by decide)) (L.kr 2 (by decide) (by decide)) (L.kr 11 (by decide) (by decide)) (fun k hk => ⟨hk, g_of (L.kr 13 (by decide) (by decide)) k⟩), vA_cg (L.kn 2 (by decide)).symm (L.kr 2 (by decide) (by decide)).symm (L.kr 11 (by decide) (by decide)).symm (fun k hk => ⟨hk, (g_of (L.kr 13 (by decide) (by decide)) k).symm⟩)⟩
  refine ⟨fun k hk => (L.kn k hk).trans (js_n _ _ hk), fun r a b => L.kr r a b, w, L.w6, by omega, fun i hi => (hv i hi).trans (hvX i), fun i hi h => L.en i hi ((hv i hi).mp h), fun i j hi hj vi vj hij => L.dj i j hi hj ((hv i hi).mp vi) ((hv j hj).mp vj) hij⟩
theorem itZ_cg {X : jS} (h : X.2 4 = C.2 4) (i : Nat) : itZ X i = itZ C i := by
  unfold itZ; rw [g_of h]
theorem lay_all (h8 : C.1 8 = nI n) (hn : n ≤ 8) (h9 : C.1 9 = nI 0) (hs : ∀ p, p < mPc C → ∃ z, 1 ≤ z ∧ z ≤ 20 ∧ gN C 4 p = nI z) (hnp : mPc C ≤ 40) (pre : ∀ i, i < 168 → itP C i = -1) : ∀ q, q ≤ 128 → Lst C n q (jfo il2 (lkAll C) q)
  | 0, _ => by
    obtain ⟨a, b, w, c⟩ := all_post h8 hn h9 (by omega) hs hnp (fun i hi h => absurd (pre i hi) h)
    exact ⟨fun k h6 _ => a k h6, fun r _ h15 h16 => b r h15 h16, 0, w, Nat.le_refl _, (a 9 (by decide)).trans h9, c⟩
  | q + 1, hq => by
    have H := lay_all h8 hn h9 hs hnp pre q (by omega)
    rw [jfo]
    generalize jfo il2 (lkAll C) q = X at H
    obtain ⟨m, w, m1, m2, w1, w2, c1, c2, c3⟩ := H.ex
    unfold il2
    split
    · exact ⟨H.kn, H.kr, m, w, by omega, m2, w1, w2, c1, c2, c3⟩
    · have k1 : ∀ k, k ≠ 9 → (il1 X).1 k = X.1 k := fun k h => js_n _ _ h
      have r1 : ∀ r, r ≠ 13 → (il1 X).2 r = X.2 r := fun r h => set_r _ _ h
      have n9 : (il1 X).1 9 = nI (m + 1) := by unfold il1; rw [js_1, m2, nI_succ]
      have g13 : ∀ k, k < m → gN (il1 X) 13 k = gN X 13 k := fun k hk => by
        show gN (jset X 13 (X.1 9) (mFm X)) 13 k = gN X 13 k
        rw [m2, set_g (r := 13) (i := m) (by show m < 128; omega) k (by omega), if_neg (by omega)]
      have eit : ∀ i, itP (il1 X) i = itP X i := fun i => by
        unfold itP
        rw [g_of (S := X) (T := il1 X) (r := 15) (r1 15 (by decide)), g_of (S := X) (T := il1 X) (r := 16) (r1 16 (by decide))]
      have epc : mPc (il1 X) = mPc C := by unfold mPc; rw [k1 2 (by decide), H.kn 2 (by decide) (by decide)]
      have r4 : (il1 X).2 4 = C.2 4 := (r1 4 (by decide)).trans (H.kr 4 (by decide) (by decide) (by decide))
      obtain ⟨a, b, w', c⟩ := all_post (Y := il1 X) (n := n) (m := m + 1) (by rw [k1 8 (by decide), H.kn 8 (by decide) (by decide)]; exact h8) hn n9 (by omega) (by rw [epc]; intro p hp; rw [g_of r4]; exact hs p hp) (by rw [epc]; exact hnp) (fun i hi h => by
        rw [eit] at h
        exact vA_cg (k1 2 (by decide)) (r1 2 (by decide)) (r1 11 (by decide)) (fun k hk => ⟨by omega, g13 k hk⟩) ((c1 i hi).mp h))
      simp only [itZ_cg r4] at c
      exact ⟨fun k h6 h9' => (a k h6).trans ((k1 k h9').trans (H.kn k h6 h9')), fun r h13 h15 h16 => (b r h15 h16).trans ((r1 r h13).trans (H.kr r h13 h15 h16)), m + 1, w', by omega, (a 9 (by decide)).trans n9, c⟩
theorem lay_ok (h8 : C.1 8 = nI n) (hn : n ≤ 8) (h9 : C.1 9 = nI 0) (hs : ∀ p, p < mPc C → ∃ z, 1 ≤ z ∧ z ≤ 20 ∧ gN C 4 p = nI z) (hnp : mPc C ≤ 40) (pre : ∀ i, i < 168 → itP C i = -1) : Lst C n 128 (lkLay C) := by
  unfold lkLay
  exact lay_all h8 hn h9 hs hnp pre 128 (Nat.le_refl _)
end LayAll
