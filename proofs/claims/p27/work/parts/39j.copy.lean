/-! The image and its spare, copied. -/
section Copy
theorem copy_r {S : jS} {r q t : Nat} (h : t ≠ r) : (jcopy S r q).2 t = S.2 t := jr_n _ _ h
theorem copy_g {S : jS} {r q i : Nat} (hl : jlen r = jlen q) (hi : i < jlen r) : gN (jcopy S r q) r i = gN S q i := by
  rw [gN_in _ hi, gN_in S (r := q) (by omega)]
  unfold jcopy
  rw [jr_2, rcopy, if_pos (by omega)]
theorem copy_n {S : jS} {r q t : Nat} (h : t ≠ r) (i : Nat) : gN (jcopy S r q) t i = gN S t i := g_of (copy_r h) i
/-- the spare, as the image is -/
theorem ic_10 (S : jS) : (∀ k, k < 13 ∨ 17 < k → (jIcopy S 1 0).1 k = S.1 k) ∧ (∀ r, r < 20 ∨ 28 < r ∨ (22 < r ∧ r < 26) → (jIcopy S 1 0).2 r = S.2 r) ∧ (∀ q, q < 16 → gN (jIcopy S 1 0) 20 q = gN S 17 q) ∧ (∀ q, q < 40 → gN (jIcopy S 1 0) 21 q = gN S 18 q) ∧ (∀ q, q < 200 → gN (jIcopy S 1 0) 26 q = gN S 23 q) ∧ (∀ q, q < 200 → gN (jIcopy S 1 0) 27 q = gN S 24 q) ∧ (∀ q, q < 16 → gN (jIcopy S 1 0) 28 q = gN S 25 q) := by
  have hb : ∀ r i, gN (jLc3 (js S (16 + 1) (S.1 (16 + 0) &&& 1)) (1 + 1) (1 + 0)) r i = gN S r i := fun r i => rfl
  unfold jIcopy jLcopy
  refine ⟨fun k hk => ?_, fun r hr => ?_, fun q hq => ?_, fun q hq => ?_, fun q hq => ?_, fun q hq => ?_, fun q hq => ?_⟩
  · show (jLc3 (js S (16 + 1) (S.1 (16 + 0) &&& 1)) (1 + 1) (1 + 0)).1 k = S.1 k
    unfold jLc3 jLc2 jLc1
    rw [js_n _ _ (by omega), js_n _ _ (by omega), js_n _ _ (by omega), js_n _ _ (by omega)]
  · rw [copy_r (by omega), copy_r (by omega), copy_r (by omega), copy_r (by omega), copy_r (by omega), copy_r (by omega)]; rfl
  · rw [copy_n (t := 20) (by decide), copy_n (t := 20) (by decide), copy_n (t := 20) (by decide), copy_n (t := 20) (by decide), copy_n (t := 20) (by decide)]
    exact (copy_g (r := 20) (q := 17) rfl hq).trans (hb _ _)
  · rw [copy_n (t := 21) (by decide), copy_n (t := 21) (by decide), copy_n (t := 21) (by decide), copy_n (t := 21) (by decide)]
    exact (copy_g (r := 21) (q := 18) rfl hq).trans ((copy_n (t := 18) (by decide) _).trans (hb _ _))
  · rw [copy_n (t := 26) (by decide), copy_n (t := 26) (by decide)]
    refine (copy_g (r := 26) (q := 23) rfl hq).trans ?_
    rw [copy_n (t := 23) (by decide), copy_n (t := 23) (by decide), copy_n (t := 23) (by decide)]; exact hb _ _
  · rw [copy_n (t := 27) (by decide)]
    refine (copy_g (r := 27) (q := 24) rfl hq).trans ?_
    rw [copy_n (t := 24) (by decide), copy_n (t := 24) (by decide), copy_n (t := 24) (by decide), copy_n (t := 24) (by decide)]; exact hb _ _
  · refine (copy_g (r := 28) (q := 25) rfl hq).trans ?_
    rw [copy_n (t := 25) (by decide), copy_n (t := 25) (by decide), copy_n (t := 25) (by decide), copy_n (t := 25) (by decide), copy_n (t := 25) (by decide)]; exact hb _ _
/-- the image, as the spare is -/
theorem ic_01 (S : jS) : (∀ k, k < 10 ∨ 16 < k → (jIcopy S 0 1).1 k = S.1 k) ∧ (∀ r, r < 17 ∨ 25 < r ∨ (19 < r ∧ r < 23) → (jIcopy S 0 1).2 r = S.2 r) ∧ (∀ q, q < 16 → gN (jIcopy S 0 1) 17 q = gN S 20 q) ∧ (∀ q, q < 40 → gN (jIcopy S 0 1) 18 q = gN S 21 q) ∧ (∀ q, q < 200 → gN (jIcopy S 0 1) 23 q = gN S 26 q) ∧ (∀ q, q < 200 → gN (jIcopy S 0 1) 24 q = gN S 27 q) ∧ (∀ q, q < 16 → gN (jIcopy S 0 1) 25 q = gN S 28 q) := by
  have hb : ∀ r i, gN (jLc3 (js S (16 + 0) (S.1 (16 + 1) &&& 1)) (1 + 0) (1 + 1)) r i = gN S r i := fun r i => rfl
  unfold jIcopy jLcopy
  refine ⟨fun k hk => ?_, fun r hr => ?_, fun q hq => ?_, fun q hq => ?_, fun q hq => ?_, fun q hq => ?_, fun q hq => ?_⟩
  · show (jLc3 (js S (16 + 0) (S.1 (16 + 1) &&& 1)) (1 + 0) (1 + 1)).1 k = S.1 k
    unfold jLc3 jLc2 jLc1
    rw [js_n _ _ (by omega), js_n _ _ (by omega), js_n _ _ (by omega), js_n _ _ (by omega)]
  · rw [copy_r (by omega), copy_r (by omega), copy_r (by omega), copy_r (by omega), copy_r (by omega), copy_r (by omega)]; rfl
  · rw [copy_n (t := 17) (by decide), copy_n (t := 17) (by decide), copy_n (t := 17) (by decide), copy_n (t := 17) (by decide), copy_n (t := 17) (by decide)]
    exact (copy_g (r := 17) (q := 20) rfl hq).trans (hb _ _)
  · rw [copy_n (t := 18) (by decide), copy_n (t := 18) (by decide), copy_n (t := 18) (by decide), copy_n (t := 18) (by decide)]
    exact (copy_g (r := 18) (q := 21) rfl hq).trans ((copy_n (t := 21) (by decide) _).trans (hb _ _))
  · rw [copy_n (t := 23) (by decide), copy_n (t := 23) (by decide)]
    refine (copy_g (r := 23) (q := 26) rfl hq).trans ?_
    rw [copy_n (t := 26) (by decide), copy_n (t := 26) (by decide), copy_n (t := 26) (by decide)]; exact hb _ _
  · rw [copy_n (t := 24) (by decide)]
    refine (copy_g (r := 24) (q := 27) rfl hq).trans ?_
    rw [copy_n (t := 27) (by decide), copy_n (t := 27) (by decide), copy_n (t := 27) (by decide), copy_n (t := 27) (by decide)]; exact hb _ _
  · refine (copy_g (r := 25) (q := 28) rfl hq).trans ?_
    rw [copy_n (t := 28) (by decide), copy_n (t := 28) (by decide), copy_n (t := 28) (by decide), copy_n (t := 28) (by decide), copy_n (t := 28) (by decide)]; exact hb _ _
end Copy
