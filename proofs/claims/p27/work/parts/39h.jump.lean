/-! .. and when a jump takes a free word. -/
section ImgJ
theorem Img.jump {T : jS} {np a y : Nat} (H : Img T 1 np) (hnp : np ≤ 40) (ha : a < 200) (hk : gN T 26 a = 0) (hy : y < 16) (hst : gN T 20 y ≠ -1) : Img (jset (jMark T 26 27 (nI a) (nI 1) 3 (nI y)) 28 (nI y) (nI a)) 1 np := by
  obtain ⟨-, m2, m3, m4⟩ := mark_sp (S := T) (a := 26) (b := 27) (x := a) (z := 1) (v := 3) (c := nI y) (by decide) rfl rfl (by omega)
  have r0 : ∀ r, r ≠ 26 → r ≠ 27 → r ≠ 28 → (jset (jMark T 26 27 (nI a) (nI 1) 3 (nI y)) 28 (nI y) (nI a)).2 r = T.2 r := fun r h1 h2 h3 => (set_r _ _ h3).trans (m2 r h1 h2)
  have g3 := fun q => g_of (r0 3 (by decide) (by decide) (by decide)) q
  have g4 := fun q => g_of (r0 4 (by decide) (by decide) (by decide)) q
  have g20 := fun q => g_of (r0 20 (by decide) (by decide) (by decide)) q
  have g21 := fun q => g_of (r0 21 (by decide) (by decide) (by decide)) q
  have g26 : ∀ q, q < 200 → gN (jset (jMark T 26 27 (nI a) (nI 1) 3 (nI y)) 28 (nI y) (nI a)) 26 q = if q = a then 3 else gN T 26 q := fun q hq => by
    rw [g_of (set_r _ _ (by decide)) q, m3 q hq]
    by_cases e : q = a
    · rw [if_pos e, if_pos (by omega)]
    · rw [if_neg e, if_neg (by omega)]
  have g27 : ∀ q, q < 200 → gN (jset (jMark T 26 27 (nI a) (nI 1) 3 (nI y)) 28 (nI y) (nI a)) 27 q = if q = a then nI y else gN T 27 q := fun q hq => by
    rw [g_of (set_r _ _ (by decide)) q, m4 q hq]
    by_cases e : q = a
    · rw [if_pos e, if_pos (by omega)]
    · rw [if_neg e, if_neg (by omega)]
  have g28 : ∀ q, q < 16 → gN (jset (jMark T 26 27 (nI a) (nI 1) 3 (nI y)) 28 (nI y) (nI a)) 28 q = if q = y then nI a else gN T 28 q := fun q hq => by
    rw [set_g (r := 28) hy q (by omega), g_of (m2 28 (by decide) (by decide)) q]
  refine ⟨fun q hq => ?_, fun t ht => ?_, fun t ht h40 => ?_, fun q hq => ?_, fun q hq => ?_, fun q hq => ?_, fun q hq => ?_⟩
  · show gN _ 20 q = -1 ∨ ∃ t, t < np ∧ gN _ 20 q = nI t ∧ gN _ 3 t = nI q ∧ gN _ 21 t ≠ -1
    simp only [g20, g3, g21]; exact H.st q hq
  · show gN _ 21 t = -1 ∨ ∃ a z, gN _ 21 t = nI a ∧ gN _ 4 t = nI z ∧ 1 ≤ z ∧ a + z ≤ 200 ∧ ∀ q, a ≤ q → q < a + z → gN _ 26 q = 1 ∧ gN _ 27 q = nI t
    simp only [g21, g4]
    rcases H.pl t ht with h | ⟨a', z', b1, b2, b3, b4, b5⟩
    · exact Or.inl h
    · refine Or.inr ⟨a', z', b1, b2, b3, b4, fun q h1 h2 => ?_⟩
      obtain ⟨k1, k2⟩ := b5 q h1 h2
      have k1' : gN T 26 q = 1 := k1
      have hqa : q ≠ a := fun e => by
        subst e; rw [hk] at k1'; exact absurd k1' (by decide)
      rw [g26 q (by omega), if_neg hqa, g27 q (by omega), if_neg hqa]
      exact ⟨k1, k2⟩
  · show gN _ 21 t = -1
    rw [g21]; exact H.pz t ht h40
  · show gN _ 26 q = 0 ∨ gN _ 26 q = 1 ∨ gN _ 26 q = 2 ∨ gN _ 26 q = 3
    rw [g26 q hq]
    split
    · exact Or.inr (Or.inr (Or.inr rfl))
    · exact H.kd q hq
  · show gN _ 26 q = 1 → ∃ t a z, t < np ∧ gN _ 27 q = nI t ∧ gN _ 21 t = nI a ∧ gN _ 4 t = nI z ∧ z ≤ 20 ∧ a ≤ q ∧ q < a + z
    rw [g26 q hq, g27 q hq]
    simp only [g21, g4]
    split
    · intro h; exact absurd h (by decide)
    · exact H.kw q hq
  · show gN _ 28 q = -1 ∨ ∃ v, v < 200 ∧ gN _ 28 q = nI v ∧ gN _ 26 v = 3 ∧ gN _ 27 v = nI q
    rw [g28 q hq]
    by_cases e : q = y
    · rw [if_pos e]
      refine Or.inr ⟨a, ha, rfl, by rw [g26 a ha, if_pos rfl], by rw [g27 a ha, if_pos rfl, e]⟩
    · rw [if_neg e]
      rcases H.jm q hq with h | ⟨v, v1, v2, v3, v4⟩
      · exact Or.inl h
      · have v3' : gN T 26 v = 3 := v3
        have hva : v ≠ a := fun z => by
          subst z; rw [hk] at v3'; exact absurd v3' (by decide)
        refine Or.inr ⟨v, v1, v2, ?_, ?_⟩
        · rw [g26 v v1, if_neg hva]; exact v3
        · rw [g27 v v1, if_neg hva]; exact v4
  · show gN _ 20 q = -1 → gN _ 28 q = -1
    rw [g20, g28 q hq]
    by_cases e : q = y
    · intro h; rw [e] at h; exact absurd h hst
    · rw [if_neg e]; exact H.jz q hq
end ImgJ
