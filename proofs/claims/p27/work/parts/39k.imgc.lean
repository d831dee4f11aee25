/-! An image, copied, is an image. -/
theorem Img.cp {S T : jS} {i j np : Nat} (H : Img S i np) (hnp : np ≤ 40) (h3 : ∀ q, gN T 3 q = gN S 3 q) (h4 : ∀ q, gN T 4 q = gN S 4 q) (g17 : ∀ q, q < 16 → gN T (17 + 3 * j) q = gN S (17 + 3 * i) q) (g18 : ∀ q, q < 40 → gN T (18 + 3 * j) q = gN S (18 + 3 * i) q) (g23 : ∀ q, q < 200 → gN T (23 + 3 * j) q = gN S (23 + 3 * i) q) (g24 : ∀ q, q < 200 → gN T (24 + 3 * j) q = gN S (24 + 3 * i) q) (g25 : ∀ q, q < 16 → gN T (25 + 3 * j) q = gN S (25 + 3 * i) q) : Img T j np := by
  refine ⟨fun q hq => ?_, fun t ht => ?_, fun t ht h40 => ?_, fun q hq => ?_, fun q hq => ?_, fun q hq => ?_, fun q hq => ?_⟩
  · rw [g17 q hq]
    rcases H.st q hq with h | ⟨t, t1, t2, t3, t4⟩
    · exact Or.inl h
    · exact Or.inr ⟨t, t1, t2, by rw [h3]; exact t3, by rw [g18 t (by omega)]; exact t4⟩
  · rw [g18 t (by omega)]
    rcases H.pl t ht with h | ⟨a, z, b1, b2, b3, b4, b5⟩
    · exact Or.inl h
    · exact Or.inr ⟨a, z, b1, by rw [h4]; exact b2, b3, b4, fun q h1 h2 => by rw [g23 q (by omega), g24 q (by omega)]; exact b5 q h1 h2⟩
  · rw [g18 t h40]; exact H.pz t ht h40
  · rw [g23 q hq]; exact H.kd q hq
  · rw [g23 q hq, g24 q hq]; intro h
    obtain ⟨t, a, z, c1, c2, c3, c4, c5⟩ := H.kw q hq h
    exact ⟨t, a, z, c1, c2, by rw [g18 t (by omega)]; exact c3, by rw [h4]; exact c4, c5⟩
  · rw [g25 q hq]
    rcases H.jm q hq with h | ⟨v, v1, v2, v3, v4⟩
    · exact Or.inl h
    · exact Or.inr ⟨v, v1, v2, by rw [g23 v v1]; exact v3, by rw [g24 v v1]; exact v4⟩
  · rw [g17 q hq, g25 q hq]; exact H.jz q hq
theorem Img.to1 {S : jS} {np : Nat} (H : Img S 0 np) (hnp : np ≤ 40) : Img (jIcopy S 1 0) 1 np := by
  obtain ⟨-, r0, a1, a2, a3, a4, a5⟩ := ic_10 S
  exact H.cp (j := 1) hnp (fun q => g_of (r0 3 (by decide)) q) (fun q => g_of (r0 4 (by decide)) q) a1 a2 a3 a4 a5
theorem Img.to0 {S : jS} {np : Nat} (H : Img S 1 np) (hnp : np ≤ 40) : Img (jIcopy S 0 1) 0 np := by
  obtain ⟨-, r0, a1, a2, a3, a4, a5⟩ := ic_01 S
  exact H.cp (j := 0) hnp (fun q => g_of (r0 3 (by decide)) q) (fun q => g_of (r0 4 (by decide)) q) a1 a2 a3 a4 a5
