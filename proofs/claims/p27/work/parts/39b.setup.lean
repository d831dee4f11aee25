/-! How the law begins: three objects, six pieces, what they refer to. -/
def Bare (S : jS) (n : Nat) : Prop :=
  (Inv S) ∧
  (S.1 2 = nI n) ∧
  (∀ p, p < 40 → gN S 18 p = -1) ∧
  (∀ r, r < 4 → gN S 29 r = 0) ∧
  (∀ p, p < n → gN S 2 p ≠ -1)
theorem Bare.iv {S : jS} {n : Nat} (h : Bare S n) : Inv S := h.1
theorem Bare.n2 {S : jS} {n : Nat} (h : Bare S n) : S.1 2 = nI n := h.2.1
theorem Bare.nl {S : jS} {n : Nat} (h : Bare S n) : ∀ p, p < 40 → gN S 18 p = -1 := h.2.2.1
theorem Bare.nr {S : jS} {n : Nat} (h : Bare S n) : ∀ r, r < 4 → gN S 29 r = 0 := h.2.2.2.1
theorem Bare.ow {S : jS} {n : Nat} (h : Bare S n) : ∀ p, p < n → gN S 2 p ≠ -1 := h.2.2.2.2
theorem Bare.fi {S T : jS} {n : Nat} (H : Bare S n) (h : FrI S T) : Bare T n := by
  refine ⟨H.iv.fi h, by rw [h.2.1]; exact H.n2, fun p hp => ?_, fun r hr => ?_, fun p hp => ?_⟩
  · rw [fi_gN h (by decide)]; exact H.nl p hp
  · rw [fi_gN h (by decide)]; exact H.nr r hr
  · rw [fi_gN h (by decide)]; exact H.ow p hp
def stPO (k : Nat) (S : jS) : Prop := S.1 1 = nI k ∧ Bare (js S 1 3) 0
def stPR (k j : Nat) (S : jS) : Prop := Bare S (k + 1) ∧ ∃ m, m + j ≤ 2 ∧ gN S 6 k = nI m
theorem s0_g (v : Int32) {r i : Nat} (h : i < jlen r) : gN (js (js jS0 0 v) 1 3) r i = jinit r := by
  rw [gN_in _ h]
  show rfill (jlen r) (jinit r) (fun _ => 0) i = jinit r
  exact if_pos h
theorem s0_bare (v : Int32) : Bare (js (js jS0 0 v) 1 3) 0 := by
  have hp : mPc (js (js jS0 0 v) 1 3) = 0 := rfl
  have hn : mNP (js (js jS0 0 v) 1 3) = 0 := rfl
  have g : ∀ r i, i < jlen r → gN (js (js jS0 0 v) 1 3) r i = jinit r := fun r i h => s0_g v h
  have no : ∀ {k : Nat} {P : Prop}, k < 0 → P := fun h => absurd h (Nat.not_lt_zero _)
  refine ⟨⟨rfl, ⟨show (0 : Int32) ≤ 0 by decide, show (0 : Int32) ≤ 40 by decide⟩, ⟨show (0 : Int32) ≤ 0 by decide, show (0 : Int32) ≤ 8 by decide⟩, ?_, ?_, ?_, ?_, ?_, ?_, ?_, ?_, ?_⟩, rfl, fun p h => g 18 p h, fun r h => g 29 r h, fun p h => no h⟩
  · rw [hp]; exact fun p h => no h
  · exact fun p _ h => g 6 p h
  · rw [hp]
    refine ⟨fun y h => Or.inl (g 17 y h), fun p h => no h, fun p _ h => g 18 p h, fun q h => Or.inl (g 23 q h), fun q h e => ?_, fun y h => Or.inl (g 25 y h), fun y h _ => g 25 y h⟩
    have e' : gN (js (js jS0 0 v) 1 3) 23 q = 1 := e
    rw [g 23 q h] at e'
    exact absurd e' (by decide)
  · rw [hp]; exact fun p h => no h
  · exact fun r h => ⟨0, by omega, g 29 r h, fun k h => no h⟩
  · rw [hn]; exact fun k h => no h
  · rw [hn]; exact fun j k p q _ h => no h
  · rw [hn]; exact fun j k _ h => no h
  · rw [hn]; exact fun k h => no h
theorem st_o1 {k : Nat} {S : jS} (hk : k < 3) (H : stPO k S) (b : Int32) : gObject S b = none ∧ stPO (k + 1) (addObj S b) := by
  refine ⟨if_pos ?_, ?_, ?_⟩
  · rw [H.1]; exact nI_lt (b := 8) (by omega) (by decide)
  · unfold addObj; rw [js_1, H.1, nI_succ]
  · refine H.2.fi ?_
    have h1 : FrI (js S 1 3) (js (addObj S b) 1 3) := by
      refine ⟨rfl, ?_, ?_, fun r hr => ?_⟩
      · rfl
      · rfl
      · have h : r ≠ 1 := fun e => by rw [e] at hr; exact absurd hr (by decide)
        show (addObj S b).2 r = S.2 r
        unfold addObj
        exact jr_n _ _ h
    exact h1
theorem st_p0 {S : jS} (H : stPO 3 S) : Bare S 0 := by
  refine H.2.fi ⟨?_, rfl, rfl, fun _ _ => rfl⟩
  rw [js_1]; exact H.1
theorem blw_n (v : Int32) {m : Nat} (h0 : 0 < m) (hm : m < 2 ^ 31) : ∃ k, k < m ∧ blw v (nI m) = nI k := blw_r v h0 hm
theorem st_p1 {k : Nat} {S : jS} (hk : k < 6) (H : Bare S k) (a v : Int32) : gPiece S (blw a 3) (nI k) ((1 : Int32) + blw v 20) 0 = none ∧ Bare (addPc S (blw a 3) (nI k) ((1 : Int32) + blw v 20) (bn 0)) (k + 1) ∧ gN (addPc S (blw a 3) (nI k) ((1 : Int32) + blw v 20) (bn 0)) 6 k = 0 := by
  obtain ⟨o, o1, o2⟩ := blw_r a (m := 3) (by decide) (by decide)
  obtain ⟨z, z1, z2⟩ := blw_r v (m := 20) (by decide) (by decide)
  have ho : blw a 3 = nI o := o2
  have hz : (1 : Int32) + blw v 20 = nI (z + 1) := by
    have e : blw v 20 = nI z := z2
    rw [e, Int32.add_comm, nI_succ]
  rw [ho, hz]
  have hI := H.iv
  have hpc : mPc S = k := by unfold mPc; rw [H.n2, nI_clamp (by omega)]
  refine ⟨?_, ⟨?_, ?_, fun p hp => ?_, fun r hr => ?_, fun p hp => ?_⟩, ?_⟩
  · unfold gPiece
    rw [if_pos ⟨by rw [hI.ob]; exact mw_of (n := 3) rfl o1 (by decide), mw_of (n := 16) rfl (by omega) (by decide)⟩, if_pos (size_ok (by omega) (by omega)), if_pos (by rw [H.n2]; exact nI_lt (b := 40) (by omega) (by decide))]
  · exact (hI.to0.addPc (by omega) ⟨k, by omega, rfl⟩ ⟨z + 1, by omega, by omega, rfl⟩ (Or.inr ⟨o, o1, rfl⟩)).up (quiet_addPc hI _ _ _ _)
  · rw [ap_2 hI.to0, hpc]
  · rw [ap_g (by decide)]; exact H.nl p hp
  · rw [ap_g (by decide)]; exact H.nr r hr
  · by_cases e : p = k
    · subst e
      have := (ap_at (o := nI o) (y := nI p) (z := nI (z + 1)) (b := bn 0) hI.to0 (by omega)).1
      rw [hpc] at this
      rw [this]; exact nI_m1 (by omega)
    · rw [ap_lt hI.to0 (by omega)]; exact H.ow p (by omega)
  · rw [ap_g (by decide)]; exact hI.rz k (by omega) (by omega)
