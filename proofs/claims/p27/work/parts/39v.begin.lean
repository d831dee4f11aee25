/-! What begins with a link: the image of what is laid. -/
def Bg (S : jS) (n : Nat) (W : jS) : Prop :=
  (W.1 = (jBeg0 S).1) ∧
  (∀ r, r ≠ 23 → r ≠ 24 → W.2 r = (jBeg0 S).2 r) ∧
  (∀ p, p < n → itP S p ≠ -1 → ∀ q, itA S p ≤ q → q < itA S p + itZ S p → gN W 23 q = 1 ∧ gN W 24 q = nI p) ∧
  (∀ q, q < 200 → gN W 23 q = 0 ∨ gN W 23 q = 2 ∨ (gN W 23 q = 1 ∧ ∃ p, p < n ∧ itP S p ≠ -1 ∧ itA S p ≤ q ∧ q < itA S p + itZ S p ∧ gN W 24 q = nI p))
theorem Bg.n1 {S : jS} {n : Nat} {W : jS} (h : Bg S n W) : W.1 = (jBeg0 S).1 := h.1
theorem Bg.kr {S : jS} {n : Nat} {W : jS} (h : Bg S n W) : ∀ r, r ≠ 23 → r ≠ 24 → W.2 r = (jBeg0 S).2 r := h.2.1
theorem Bg.on {S : jS} {n : Nat} {W : jS} (h : Bg S n W) : ∀ p, p < n → itP S p ≠ -1 → ∀ q, itA S p ≤ q → q < itA S p + itZ S p → gN W 23 q = 1 ∧ gN W 24 q = nI p := h.2.2.1
theorem Bg.al {S : jS} {n : Nat} {W : jS} (h : Bg S n W) : ∀ q, q < 200 → gN W 23 q = 0 ∨ gN W 23 q = 2 ∨ (gN W 23 q = 1 ∧ ∃ p, p < n ∧ itP S p ≠ -1 ∧ itA S p ≤ q ∧ q < itA S p + itZ S p ∧ gN W 24 q = nI p) := h.2.2.2
theorem js_g (U : jS) (k : Nat) (v : Int32) (r i : Nat) : gN (js U k v) r i = gN U r i := rfl
section Beg
variable {S W : jS} {np : Nat}
theorem beg0_r (S : jS) : (∀ r, r < 17 ∨ 25 < r ∨ (19 < r ∧ r < 23) → (jBeg0 S).2 r = S.2 r) ∧ (∀ q, q < 16 → gN (jBeg0 S) 17 q = gN S 14 q) ∧ (∀ q, q < 40 → gN (jBeg0 S) 18 q = gN S 15 q) ∧ (∀ q, q < 128 → gN (jBeg0 S) 19 q = gN S 16 q) ∧ (∀ q, q < 200 → gN (jBeg0 S) 23 q = 0) ∧ (∀ q, q < 16 → gN (jBeg0 S) 25 q = -1) := by
  obtain ⟨m1, m2, m3, m4⟩ := mark_sp (S := jfill (jLcopy (js S 16 1) 1 0) 25 (-1)) (a := 23) (b := 24) (x := 0) (z := 200) (v := 0) (c := -1) (by decide) rfl rfl (by decide)
  have e0 : jBeg0 S = jMark (jfill (jLcopy (js S 16 1) 1 0) 25 (-1)) 23 24 (nI 0) (nI 200) 0 (-1) := rfl
  rw [e0]
  have hf : ∀ r, r ≠ 25 → (jfill (jLcopy (js S 16 1) 1 0) 25 (-1)).2 r = (jLcopy (js S 16 1) 1 0).2 r := fun r h => jr_n _ _ h
  have hb : ∀ r i, gN (jLc3 (js S 16 1) 1 0) r i = gN S r i := fun r i => rfl
  have hL : ∀ r, r ≠ 17 → r ≠ 18 → r ≠ 19 → (jLcopy (js S 16 1) 1 0).2 r = S.2 r := fun r a b c => by
    unfold jLcopy
    rw [copy_r c, copy_r b, copy_r a]
    rfl
  refine ⟨fun r hr => ?_, fun q hq => ?_, fun q hq => ?_, fun q hq => ?_, fun q hq => ?_, fun q hq => ?_⟩
  · rw [m2 r (by omega) (by omega), hf r (by omega), hL r (by omega) (by omega) (by omega)]
  · rw [g_of (m2 17 (by decide) (by decide)), g_of (hf 17 (by decide))]
    unfold jLcopy
    rw [copy_n (t := 17) (by decide), copy_n (t := 17) (by decide)]
    exact (copy_g (r := 17) (q := 14) rfl hq).trans (hb _ _)
  · rw [g_of (m2 18 (by decide) (by decide)), g_of (hf 18 (by decide))]
    unfold jLcopy
    rw [copy_n (t := 18) (by decide)]
    exact (copy_g (r := 18) (q := 15) rfl hq).trans ((copy_n (t := 15) (by decide) _).trans (hb _ _))
  · rw [g_of (m2 19 (by decide) (by decide)), g_of (hf 19 (by decide))]
    unfold jLcopy
    refine (copy_g (r := 19) (q := 16) rfl hq).trans ?_
    rw [copy_n (t := 16) (by decide), copy_n (t := 16) (by decide)]; exact hb _ _
  · rw [m3 q hq, if_pos (by omega)]
  · rw [g_of (m2 25 (by decide) (by decide))]
    unfold gN
    rw [jg_jfill_eq, if_pos ⟨nI_pos' (by omega), nI_lt (b := 16) hq (by decide)⟩]
theorem bg_0 (S : jS) : Bg S 0 (jBeg0 S) := ⟨rfl, fun _ _ _ => rfl, fun p h => absurd h (Nat.not_lt_zero _), fun q hq => Or.inl ((beg0_r S).2.2.2.2.1 q hq)⟩
theorem Bg.mk (B : Bg S np W) {a z : Nat} {v c : Int32} (h : a + z ≤ 200) : (jMark W 23 24 (nI a) (nI z) v c).1 = (jBeg0 S).1 ∧ ∀ r, r ≠ 23 → r ≠ 24 → (jMark W 23 24 (nI a) (nI z) v c).2 r = (jBeg0 S).2 r := by
  obtain ⟨m1, m2, -⟩ := mark_sp (S := W) (a := 23) (b := 24) (x := a) (z := z) (v := v) (c := c) (by decide) rfl rfl h
  exact ⟨m1.trans B.n1, fun r x y => (m2 r x y).trans (B.kr r x y)⟩
/-- what is laid, in its words: all of it lies apart -/
def Apt (S : jS) (np : Nat) : Prop :=
  (np ≤ 40) ∧
  (∀ i, i < 168 → itP S i ≠ -1 → itP S i = nI (itA S i) ∧ 1 ≤ itZ S i ∧ itA S i + itZ S i ≤ 200) ∧
  (∀ i j, i < 168 → j < 168 → itP S i ≠ -1 → itP S j ≠ -1 → i ≠ j → itA S i + itZ S i ≤ itA S j ∨ itA S j + itZ S j ≤ itA S i) ∧
  (∀ p, p < np → gN S 4 p = nI (itZ S p) ∧ itZ S p ≤ 20) ∧
  (∀ p, np ≤ p → p < 40 → itP S p = -1)
theorem Apt.nl {S : jS} {np : Nat} (h : Apt S np) : np ≤ 40 := h.1
theorem Apt.en {S : jS} {np : Nat} (h : Apt S np) : ∀ i, i < 168 → itP S i ≠ -1 → itP S i = nI (itA S i) ∧ 1 ≤ itZ S i ∧ itA S i + itZ S i ≤ 200 := h.2.1
theorem Apt.dj {S : jS} {np : Nat} (h : Apt S np) : ∀ i j, i < 168 → j < 168 → itP S i ≠ -1 → itP S j ≠ -1 → i ≠ j → itA S i + itZ S i ≤ itA S j ∨ itA S j + itZ S j ≤ itA S i := h.2.2.1
theorem Apt.sz {S : jS} {np : Nat} (h : Apt S np) : ∀ p, p < np → gN S 4 p = nI (itZ S p) ∧ itZ S p ≤ 20 := h.2.2.2.1
theorem Apt.pz {S : jS} {np : Nat} (h : Apt S np) : ∀ p, np ≤ p → p < 40 → itP S p = -1 := h.2.2.2.2
theorem bg1_ok (A : Apt S np) {n : Nat} (hn : n < np) (B : Bg S n W) : Bg S (n + 1) (bg1 n W) := by
  have h40 := A.nl
  have e18 : jg W 18 (nI n) = itP S n := by
    have a : gN W 18 n = gN S 15 n := (g_of (B.kr 18 (by decide) (by decide)) n).trans ((beg0_r S).2.2.1 n (by omega))
    have b : itP S n = gN S 15 n := if_pos (show n < 40 by omega)
    exact a.trans b.symm
  have e4 : jg W 4 (nI n) = nI (itZ S n) := ((g_of (B.kr 4 (by decide) (by decide)) n).trans (g_of ((beg0_r S).1 4 (by decide)) n)).trans (A.sz n hn).1
  have eP : mPlace W 1 (nI n) = itP S n := e18
  unfold bg1 mLaid
  rw [eP, e4]
  by_cases hl : itP S n = -1
  · rw [decide_eq_false (fun z => z hl), if_neg (by decide)]
    refine ⟨B.n1, B.kr, fun p hp hpl => ?_, fun q hq => ?_⟩
    · refine B.on p ?_ hpl
      by_cases e : p = n
      · subst e; exact absurd hl hpl
      · omega
    · rcases B.al q hq with h | h | ⟨h, p, p1, p2⟩
      · exact Or.inl h
      · exact Or.inr (Or.inl h)
      · exact Or.inr (Or.inr ⟨h, p, by omega, p2⟩)
  · rw [decide_eq_true hl, if_pos rfl]
    obtain ⟨a1, a2, a3⟩ := A.en n (by omega) hl
    rw [a1]
    obtain ⟨k1, k2⟩ := B.mk (v := 1) (c := nI n) a3
    obtain ⟨-, -, m3, m4⟩ := mark_sp (S := W) (a := 23) (b := 24) (x := itA S n) (z := itZ S n) (v := 1) (c := nI n) (by decide) rfl rfl a3
    refine ⟨k1, k2, fun p hp hpl q h1 h2 => ?_, fun q hq => ?_⟩
    · have hq : q < 200 := by have := (A.en p (by omega) hpl).2.2; omega
      rw [m3 q hq, m4 q hq]
      by_cases e : p = n
      · subst e
        rw [if_pos ⟨h1, h2⟩, if_pos ⟨h1, h2⟩]
        exact ⟨rfl, rfl⟩
      · have hd := A.dj p n (by omega) (by omega) hpl hl e
        rw [if_neg (by omega), if_neg (by omega)]
        exact B.on p (by omega) hpl q h1 h2
    · rw [m3 q hq, m4 q hq]
      by_cases h : itA S n ≤ q ∧ q < itA S n + itZ S n
      · rw [if_pos h, if_pos h]
        exact Or.inr (Or.inr ⟨rfl, n, by omega, hl, h.1, h.2, rfl⟩)
      · rw [if_neg h, if_neg h]
        rcases B.al q hq with h | h | ⟨h, p, p1, p2⟩
        · exact Or.inl h
        · exact Or.inr (Or.inl h)
        · exact Or.inr (Or.inr ⟨h, p, by omega, p2⟩)
theorem bg1_all (A : Apt S np) : ∀ n, n ≤ np → Bg S n (jfo bg1 (jBeg0 S) n)
  | 0, _ => bg_0 S
  | n + 1, h => by
    rw [jfo]
    exact bg1_ok A (by omega) (bg1_all A n (by omega))
theorem bg2_ok (A : Apt S np) {k : Nat} (hk : k < 128) (B : Bg S np W) : Bg S np (bg2 k W) := by
  have h40 := A.nl
  have eI : mIsl W 1 (nI k) = itP S (40 + k) := by
    have a : gN W 19 k = gN S 16 k := (g_of (B.kr 19 (by decide) (by decide)) k).trans ((beg0_r S).2.2.2.1 k hk)
    have b : itP S (40 + k) = gN S 16 k := by
      unfold itP; rw [if_neg (by omega)]; congr 1; omega
    exact a.trans b.symm
  unfold bg2
  rw [eI]
  split
  · exact B
  · rename_i hl
    obtain ⟨a1, a2, a3⟩ := A.en (40 + k) (by omega) hl
    rw [a1]
    have ez : itZ S (40 + k) = 1 := if_neg (by omega)
    have a3' : itA S (40 + k) + 1 ≤ 200 := by omega
    obtain ⟨k1, k2⟩ := B.mk (z := 1) (v := 2) (c := nI k - nI k / 16 * 16) a3'
    obtain ⟨-, -, m3, m4⟩ := mark_sp (S := W) (a := 23) (b := 24) (x := itA S (40 + k)) (z := 1) (v := 2) (c := nI k - nI k / 16 * 16) (by decide) rfl rfl a3'
    refine ⟨k1, k2, fun p hp hpl q h1 h2 => ?_, fun q hq => ?_⟩
    · have hq : q < 200 := by have := (A.en p (by omega) hpl).2.2; omega
      have hd := A.dj p (40 + k) (by omega) (by omega) hpl hl (by omega)
      have e3 := m3 q hq
      have e4 := m4 q hq
      rw [if_neg (by omega)] at e3 e4
      obtain ⟨b1, b2⟩ := B.on p hp hpl q h1 h2
      exact ⟨e3.trans b1, e4.trans b2⟩
    · have e3 := m3 q hq
      have e4 := m4 q hq
      by_cases h : itA S (40 + k) ≤ q ∧ q < itA S (40 + k) + 1
      · rw [if_pos h] at e3
        exact Or.inr (Or.inl e3)
      · rw [if_neg h] at e3 e4
        rcases B.al q hq with h | h | ⟨h, p, p1, p2, p3, p4, p5⟩
        · exact Or.inl (e3.trans h)
        · exact Or.inr (Or.inl (e3.trans h))
        · exact Or.inr (Or.inr ⟨e3.trans h, p, p1, p2, p3, p4, e4.trans p5⟩)
theorem bg2_all (A : Apt S np) {W : jS} (B : Bg S np W) : ∀ n, n ≤ 128 → Bg S np (jfo bg2 W n)
  | 0, _ => B
  | n + 1, h => by
    rw [jfo]
    exact bg2_ok A (by omega) (bg2_all A B n (by omega))
theorem begin_ok (A : Apt S np) (hnp : mPc S = np) : Bg S np (jBegin S) := by
  have e2 : ((jBeg0 S).1 2).toNatClampNeg = np := by rw [beg0_n _ (by decide) (by decide)]; exact hnp
  unfold jBegin jBeg1
  rw [e2]
  exact bg2_all A (bg1_all A np (Nat.le_refl _)) 128 (Nat.le_refl _)
/-- the image that a link begins -/
theorem begin_img (A : Apt S np) (hnp : mPc S = np) (hst : ∀ y, y < 16 → gN S 14 y = -1 ∨ ∃ p, p < np ∧ gN S 14 y = nI p ∧ gN S 3 p = nI y ∧ gN S 15 p ≠ -1) : Img (js (jBegin S) 18 0) 0 np := by
  have B := begin_ok A hnp
  obtain ⟨b0, b17, b18, b19, b23, b25⟩ := beg0_r S
  have h40 := A.nl
  have hg : ∀ r i, gN (js (jBegin S) 18 0) r i = gN (jBegin S) r i := fun r i => js_g _ _ _ r i
  have e17 : ∀ y, y < 16 → gN (js (jBegin S) 18 0) 17 y = gN S 14 y := fun y hy => (hg 17 y).trans ((g_of (B.kr 17 (by decide) (by decide)) y).trans (b17 y hy))
  have e18 : ∀ p, p < 40 → gN (js (jBegin S) 18 0) 18 p = itP S p := fun p hp => (hg 18 p).trans (((g_of (B.kr 18 (by decide) (by decide)) p).trans (b18 p hp)).trans (if_pos hp).symm)
  have e25 : ∀ y, y < 16 → gN (js (jBegin S) 18 0) 25 y = -1 := fun y hy => (hg 25 y).trans ((g_of (B.kr 25 (by decide) (by decide)) y).trans (b25 y hy))
  have e3 : ∀ p, gN (js (jBegin S) 18 0) 3 p = gN S 3 p := fun p => (hg 3 p).trans ((g_of (B.kr 3 (by decide) (by decide)) p).trans (g_of (b0 3 (by decide)) p))
  have e4 : ∀ p, gN (js (jBegin S) 18 0) 4 p = gN S 4 p := fun p => (hg 4 p).trans ((g_of (B.kr 4 (by decide) (by decide)) p).trans (g_of (b0 4 (by decide)) p))
  have i15 : ∀ p, p < 40 → itP S p = gN S 15 p := fun p hp => if_pos hp
  refine ⟨fun y hy => ?_, fun p hp => ?_, fun p hp h4 => ?_, fun q hq => ?_, fun q hq => ?_, fun y hy => Or.inl (e25 y hy), fun y hy _ => e25 y hy⟩
  · show gN _ 17 y = -1 ∨ ∃ p, p < np ∧ gN _ 17 y = nI p ∧ gN _ 3 p = nI y ∧ gN _ 18 p ≠ -1
    rw [e17 y hy]
    rcases hst y hy with h | ⟨p, p1, p2, p3, p4⟩
    · exact Or.inl h
    · exact Or.inr ⟨p, p1, p2, by rw [e3]; exact p3, by rw [e18 p (by omega), i15 p (by omega)]; exact p4⟩
  · show gN _ 18 p = -1 ∨ ∃ a z, gN _ 18 p = nI a ∧ gN _ 4 p = nI z ∧ 1 ≤ z ∧ a + z ≤ 200 ∧ ∀ q, a ≤ q → q < a + z → gN _ 23 q = 1 ∧ gN _ 24 q = nI p
    rw [e18 p (by omega), e4]
    by_cases hl : itP S p = -1
    · exact Or.inl hl
    · obtain ⟨a1, a2, a3⟩ := A.en p (by omega) hl
      exact Or.inr ⟨itA S p, itZ S p, a1, (A.sz p hp).1, a2, a3, fun q h1 h2 => by rw [hg, hg]; exact B.on p hp hl q h1 h2⟩
  · show gN _ 18 p = -1
    rw [e18 p h4]; exact A.pz p hp h4
  · show gN _ 23 q = 0 ∨ gN _ 23 q = 1 ∨ gN _ 23 q = 2 ∨ gN _ 23 q = 3
    rw [hg]
    rcases B.al q hq with h | h | ⟨h, -⟩
    · exact Or.inl h
    · exact Or.inr (Or.inr (Or.inl h))
    · exact Or.inr (Or.inl h)
  · show gN _ 23 q = 1 → ∃ p a z, p < np ∧ gN _ 24 q = nI p ∧ gN _ 18 p = nI a ∧ gN _ 4 p = nI z ∧ z ≤ 20 ∧ a ≤ q ∧ q < a + z
    intro hq1
    have hq1' : gN (jBegin S) 23 q = 1 := (hg 23 q).symm.trans hq1
    rcases B.al q hq with h | h | ⟨h, p, p1, p2, p3, p4, p5⟩
    · rw [h] at hq1'; exact absurd hq1' (by decide)
    · rw [h] at hq1'; exact absurd hq1' (by decide)
    · obtain ⟨a1, a2, a3⟩ := A.en p (by omega) p2
      exact ⟨p, itA S p, itZ S p, p1, (hg 24 q).trans p5, by rw [e18 p (by omega)]; exact a1, by rw [e4]; exact (A.sz p p1).1, (A.sz p p1).2, p3, p4⟩
/-- no word of a jump -/
theorem begin_3 (A : Apt S np) (hnp : mPc S = np) : ∀ q, q < 200 → gN (jBegin S) 23 q ≠ 3 := by
  have B := begin_ok A hnp
  intro q hq h3
  rcases B.al q hq with h | h | ⟨h, -⟩
  · rw [h] at h3; exact absurd h3 (by decide)
  · rw [h] at h3; exact absurd h3 (by decide)
  · rw [h] at h3; exact absurd h3 (by decide)
end Beg
