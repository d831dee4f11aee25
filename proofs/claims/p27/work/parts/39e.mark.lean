/-! Marking words. -/
section Mark
theorem mark_go {S : jS} {a b x : Nat} {v c : Int32} (hab : a ≠ b) (ha : jlen a = 200) (hb : jlen b = 200) : ∀ z, x + z ≤ 200 → (∀ r, r ≠ a → r ≠ b → (jfo (mk1 a b (nI x) v c) S z).2 r = S.2 r) ∧ (∀ q, q < 200 → gN (jfo (mk1 a b (nI x) v c) S z) a q = if x ≤ q ∧ q < x + z then v else gN S a q) ∧ (∀ q, q < 200 → gN (jfo (mk1 a b (nI x) v c) S z) b q = if x ≤ q ∧ q < x + z then c else gN S b q)
  | 0, _ => ⟨fun r _ _ => rfl, fun q _ => (if_neg (fun h => absurd h.2 (by omega))).symm, fun q _ => (if_neg (fun h => absurd h.2 (by omega))).symm⟩
  | z + 1, hz => by
    obtain ⟨h1, h2, h3⟩ := mark_go (S := S) (x := x) (v := v) (c := c) hab ha hb z (by omega)
    have hj : ∀ q, q < 200 → jin 200 (nI q) := fun q hq => ⟨nI_pos' (by omega), nI_lt (b := 200) hq (by decide)⟩
    have ex : nI x + nI z = nI (x + z) := (nI_a x z).symm
    refine ⟨fun r ra rb => ?_, fun q hq => ?_, fun q hq => ?_⟩
    · rw [jfo]; unfold mk1 jset
      rw [jr_n _ _ rb, jr_n _ _ ra]; exact h1 r ra rb
    · rw [jfo]; unfold mk1 gN
      rw [jg_jset_ne _ _ _ _ hab, jg_jset_eq, ha, ex]
      by_cases e : q = x + z
      · subst e
        rw [if_pos ⟨hj _ hq, rfl⟩, if_pos (by omega)]
      · rw [if_neg (fun h => e (nI_ij (by omega) (by omega) h.2))]
        have := h2 q hq
        unfold gN mk1 at this
        rw [this]
        by_cases hi : x ≤ q ∧ q < x + z
        · rw [if_pos hi, if_pos (by omega)]
        · rw [if_neg hi, if_neg (by omega)]
    · rw [jfo]; unfold mk1 gN
      rw [jg_jset_eq, hb, ex]
      by_cases e : q = x + z
      · subst e
        rw [if_pos ⟨hj _ hq, rfl⟩, if_pos (by omega)]
      · rw [if_neg (fun h => e (nI_ij (by omega) (by omega) h.2)), jg_jset_ne _ _ _ _ (Ne.symm hab)]
        have := h3 q hq
        unfold gN mk1 at this
        rw [this]
        by_cases hi : x ≤ q ∧ q < x + z
        · rw [if_pos hi, if_pos (by omega)]
        · rw [if_neg hi, if_neg (by omega)]
/-- what marking z words from x leaves -/
theorem mark_sp {S : jS} {a b x z : Nat} {v c : Int32} (hab : a ≠ b) (ha : jlen a = 200) (hb : jlen b = 200) (h : x + z ≤ 200) : (jMark S a b (nI x) (nI z) v c).1 = S.1 ∧ (∀ r, r ≠ a → r ≠ b → (jMark S a b (nI x) (nI z) v c).2 r = S.2 r) ∧ (∀ q, q < 200 → gN (jMark S a b (nI x) (nI z) v c) a q = if x ≤ q ∧ q < x + z then v else gN S a q) ∧ (∀ q, q < 200 → gN (jMark S a b (nI x) (nI z) v c) b q = if x ≤ q ∧ q < x + z then c else gN S b q) := by
  refine ⟨jMark_1 _ _ _ _ _ _ _, ?_⟩
  unfold jMark
  rw [nI_clamp (by omega)]
  exact mark_go hab ha hb z h
end Mark
