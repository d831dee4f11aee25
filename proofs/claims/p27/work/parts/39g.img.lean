/-! The spare image stays an image when a piece takes another's place. -/
section ImgR
theorem Img.rp2 {S : jS} {np p y z x s a w : Nat} (H : Img S 1 np) (hnp : np ≤ 40) (hp : p < np) (hy : y < 16) (e3 : gN S 3 p = nI y) (e4 : gN S 4 p = nI z) (hz : 1 ≤ z) (hz2 : z ≤ 20) (hx : x + z ≤ 200) (hfree : ∀ q, x ≤ q → q < x + z → gN S 26 q = 0) (hnl : gN S 21 p = -1) (hs : s < np) (es : gN S 20 y = nI s) (ey : gN S 3 s = nI y) (ea : gN S 21 s = nI a) (ew : gN S 4 s = nI w) (ha : a + w ≤ 200) (hreg : ∀ q, a ≤ q → q < a + w → gN S 26 q = 1 ∧ gN S 27 q = nI s) : Img (rpS2 S (nI p) (nI x)) 1 np := by
  obtain ⟨-, r0, r26, r27, r21, r20⟩ := rp2_sp (x := x) (by omega) hy e3 e4 hx (by omega) es ea ew ha
  have g3 := fun q => g_of (r0 3 (by decide) (by decide) (by decide) (by decide)) q
  have g4 := fun q => g_of (r0 4 (by decide) (by decide) (by decide) (by decide)) q
  have g28 := fun q => g_of (r0 28 (by decide) (by decide) (by decide) (by decide)) q
  have hps : p ≠ s := fun e => by
    subst e; rw [hnl] at ea; exact nI_m1 (k := a) (by omega) ea.symm
  have h01 : ∀ q, x ≤ q → q < x + z → ¬ (a ≤ q ∧ q < a + w) := fun q h1 h2 h => by
    have := (hreg q h.1 h.2).1
    rw [hfree q h1 h2] at this
    exact absurd this (by decide)
  refine ⟨fun q hq => ?_, fun t ht => ?_, fun t ht h40 => ?_, fun q hq => ?_, fun q hq => ?_, fun q hq => ?_, fun q hq => ?_⟩
  · show gN _ 20 q = -1 ∨ ∃ t, t < np ∧ gN _ 20 q = nI t ∧ gN _ 3 t = nI q ∧ gN _ 21 t ≠ -1
    by_cases hqy : q = y
    · subst hqy
      refine Or.inr ⟨p, hp, by rw [r20 q hq, if_pos rfl], by rw [g3]; exact e3, ?_⟩
      rw [r21 p (by omega), if_neg hps, if_pos rfl]; exact nI_m1 (by omega)
    · rw [r20 q hq, if_neg hqy]
      rcases H.st q hq with h | ⟨t, t1, t2, t3, t4⟩
      · exact Or.inl h
      · refine Or.inr ⟨t, t1, t2, by rw [g3]; exact t3, ?_⟩
        have hts : t ≠ s := fun e => by
          subst e; rw [ey] at t3; exact hqy (nI_ij (by omega) (by omega) t3).symm
        have htp : t ≠ p := fun e => by subst e; exact t4 hnl
        rw [r21 t (by omega), if_neg hts, if_neg htp]; exact t4
  · show gN _ 21 t = -1 ∨ ∃ a z, gN _ 21 t = nI a ∧ gN _ 4 t = nI z ∧ 1 ≤ z ∧ a + z ≤ 200 ∧ ∀ q, a ≤ q → q < a + z → gN _ 26 q = 1 ∧ gN _ 27 q = nI t
    rw [r21 t (by omega)]
    by_cases hts : t = s
    · rw [if_pos hts]; exact Or.inl rfl
    · rw [if_neg hts]
      by_cases htp : t = p
      · rw [if_pos htp]
        refine Or.inr ⟨x, z, rfl, by rw [g4, htp]; exact e4, hz, hx, fun q h1 h2 => ?_⟩
        rw [r26 q (by omega), if_neg (h01 q h1 h2), if_pos ⟨h1, h2⟩, r27 q (by omega), if_neg (h01 q h1 h2), if_pos ⟨h1, h2⟩, htp]
        exact ⟨rfl, rfl⟩
      · rw [if_neg htp]
        rcases H.pl t ht with h | ⟨a', z', b1, b2, b3, b4, b5⟩
        · exact Or.inl h
        · refine Or.inr ⟨a', z', b1, by rw [g4]; exact b2, b3, b4, fun q h1 h2 => ?_⟩
          obtain ⟨k1, k2⟩ := b5 q h1 h2
          have k1' : gN S 26 q = 1 := k1
          have k2' : gN S 27 q = nI t := k2
          have na : ¬ (a ≤ q ∧ q < a + w) := fun h => by
            have := (hreg q h.1 h.2).2
            rw [k2'] at this
            exact hts (nI_ij (by omega) (by omega) this)
          have nx : ¬ (x ≤ q ∧ q < x + z) := fun h => by
            have := hfree q h.1 h.2
            rw [k1'] at this
            exact absurd this (by decide)
          rw [r26 q (by omega), if_neg na, if_neg nx, r27 q (by omega), if_neg na, if_neg nx]
          exact ⟨k1', k2'⟩
  · show gN _ 21 t = -1
    rw [r21 t h40, if_neg (by omega), if_neg (by omega)]; exact H.pz t ht h40
  · show gN _ 26 q = 0 ∨ gN _ 26 q = 1 ∨ gN _ 26 q = 2 ∨ gN _ 26 q = 3
    rw [r26 q hq]
    split
    · exact Or.inl rfl
    · split
      · exact Or.inr (Or.inl rfl)
      · exact H.kd q hq
  · show gN _ 26 q = 1 → ∃ t a z, t < np ∧ gN _ 27 q = nI t ∧ gN _ 21 t = nI a ∧ gN _ 4 t = nI z ∧ z ≤ 20 ∧ a ≤ q ∧ q < a + z
    rw [r26 q hq, r27 q hq]
    split
    · intro h; exact absurd h (by decide)
    · rename_i na
      split
      · rename_i nx
        intro _
        refine ⟨p, x, z, hp, rfl, ?_, by rw [g4]; exact e4, hz2, nx⟩
        rw [r21 p (by omega), if_neg hps, if_pos rfl]
      · intro h
        obtain ⟨t, a', z', c1, c2, c3, c4, c5, c6, c7⟩ := H.kw q hq h
        have c3' : gN S 21 t = nI a' := c3
        have hts : t ≠ s := fun e => by
          subst e
          rw [ea] at c3'; rw [ew] at c4
          have d1 := nI_ij (by omega) (by omega) c3'
          have d2 := nI_ij (by omega) (by omega) c4
          subst d1; subst d2
          exact na ⟨c6, c7⟩
        have htp : t ≠ p := fun e => by
          subst e; rw [hnl] at c3'; exact nI_m1 (k := a') (by omega) c3'.symm
        refine ⟨t, a', z', c1, c2, ?_, by rw [g4]; exact c4, c5, c6, c7⟩
        rw [r21 t (by omega), if_neg hts, if_neg htp]; exact c3'
  · show gN _ 28 q = -1 ∨ ∃ v, v < 200 ∧ gN _ 28 q = nI v ∧ gN _ 26 v = 3 ∧ gN _ 27 v = nI q
    rw [g28]
    rcases H.jm q hq with h | ⟨v, v1, v2, v3, v4⟩
    · exact Or.inl h
    · have v3' : gN S 26 v = 3 := v3
      have na : ¬ (a ≤ v ∧ v < a + w) := fun h => by
        have := (hreg v h.1 h.2).1
        rw [v3'] at this; exact absurd this (by decide)
      have nx : ¬ (x ≤ v ∧ v < x + z) := fun h => by
        have := hfree v h.1 h.2
        rw [v3'] at this; exact absurd this (by decide)
      refine Or.inr ⟨v, v1, v2, ?_, ?_⟩
      · rw [r26 v v1, if_neg na, if_neg nx]; exact v3
      · rw [r27 v v1, if_neg na, if_neg nx]; exact v4
  · show gN _ 20 q = -1 → gN _ 28 q = -1
    rw [r20 q hq, g28]
    by_cases hqy : q = y
    · rw [if_pos hqy]; intro h; exact absurd h (nI_m1 (by omega))
    · rw [if_neg hqy]; exact H.jz q hq
end ImgR
