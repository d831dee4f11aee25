/-! Carrying out all that can be. -/
section CarryAll
variable {S : jS}
theorem can_goes {b : Int32} (h : mCan S b = true) : mWait S b = true ∧ ∀ k, k < mNP S → mGoes S (nI k) b = true → mClear S (nI k) = true := by
  unfold mCan at h
  rw [Bool.and_eq_true, Bool.not_eq_true'] at h
  refine ⟨h.1, fun k hk hg => ?_⟩
  cases hc : mClear S (nI k) with
  | true => rfl
  | false =>
    have hq : mCanQ S b k = true := by unfold mCanQ; rw [hg, hc]; rfl
    have h2 := h.2
    rw [jany_t hk hq] at h2
    cases h2
theorem next_no (h : mNext S = -1) (h8 : mNP S ≤ 8) : ∀ k, k < mNP S → mCan S (nI k) = false := by
  unfold mNext jfI at h
  cases hj : jfind (mNextQ S) (mNP S) with
  | none => exact fun k hk => jfind_nall hj k hk
  | some i =>
    rw [hj] at h
    have := (jfind_lt hj).1
    exact absurd h (nI_m1 (by omega))
theorem next_yes (h : mNext S ≠ -1) : ∃ k, k < mNP S ∧ mNext S = nI k ∧ mCan S (nI k) = true := by
  unfold mNext jfI at h ⊢
  cases hj : jfind (mNextQ S) (mNP S) with
  | none => rw [hj] at h; exact absurd rfl h
  | some i =>
    obtain ⟨h1, h2⟩ := jfind_lt hj
    exact ⟨i, h1, rfl, h2⟩
theorem cnt_lt {P Q : Nat → Bool} : ∀ {n : Nat} {j : Nat}, (∀ i, i < n → P i = true → Q i = true) → j < n → P j = false → Q j = true → cnt P n < cnt Q n
  | 0, _, _, h, _, _ => absurd h (Nat.not_lt_zero _)
  | n + 1, j, hm, hj, hp, hq => by
    rw [cnt, cnt]
    have hle : ∀ {m : Nat}, m ≤ n → cnt P m ≤ cnt Q m := fun {m} hm' => by
      induction m with
      | zero => exact Nat.le_refl _
      | succ m ih =>
        rw [cnt, cnt]
        have := ih (by omega)
        by_cases hP : P m = true
        · rw [if_pos hP, if_pos (hm m (by omega) hP)]; omega
        · rw [if_neg hP]; omega
    by_cases e : j = n
    · subst e
      rw [hp, hq, if_neg (by decide), if_pos rfl]
      have := hle (Nat.le_refl _)
      omega
    · have ih := cnt_lt (P := P) (Q := Q) (n := n) (fun i hi => hm i (by omega)) (show j < n by omega) hp hq
      by_cases hP : P n = true
      · rw [if_pos hP, if_pos (hm n (by omega) hP)]; omega
      · rw [if_neg hP]; omega
def mW (S : jS) : Nat := cnt (fun k => decide (gN S 33 k = 0)) (mNP S)
/-- what is kept by carrying out -/
def Cal (S T : jS) : Prop :=
  (Inv0 T) ∧
  (FrK S T) ∧
  (∀ k, k < mNP S → gN S 33 k ≠ 0 → gN T 33 k = gN S 33 k)
theorem Cal.iv {S T : jS} (h : Cal S T) : Inv0 T := h.1
theorem Cal.fk {S T : jS} (h : Cal S T) : FrK S T := h.2.1
theorem Cal.w {S T : jS} (h : Cal S T) : ∀ k, k < mNP S → gN S 33 k ≠ 0 → gN T 33 k = gN S 33 k := h.2.2
theorem Cal.tr {T U : jS} (h : Cal S T) (g : Cal T U) : Cal S U := ⟨g.iv, h.fk.tr g.fk, fun k hk hz => by
  have e := h.w k hk hz
  rw [← e]
  exact g.w k (by rw [fk_np h.fk]; exact hk) (by rw [e]; exact hz)⟩
theorem carry_step (H : Inv0 S) (h : mNext S ≠ -1) : Cal S (jCarry S (mNext S)) ∧ mW (jCarry S (mNext S)) < mW S := by
  obtain ⟨b, b1, b2, b3⟩ := next_yes h
  rw [b2]
  obtain ⟨hw, hG⟩ := can_goes b3
  have D := carry_ok H hG
  have ng : ∀ k, k < mNP S → gN S 33 k ≠ 0 → ¬ mGoes S (nI k) (nI b) = true := fun k hk hz hg => hz ((H.wait hk).mp (goes_w hg))
  have gb : mGoes S (nI b) (nI b) = true := by
    unfold mGoes mTog
    rw [hw, decide_eq_true rfl]; rfl
  refine ⟨⟨D.iv, D.fk, fun k hk hz => ?_⟩, ?_⟩
  · have := D.w k hk
    rw [if_neg (ng k hk hz)] at this
    exact this
  · unfold mW
    rw [fk_np D.fk]
    refine cnt_lt (j := b) (fun k hk hp => ?_) b1 ?_ ?_
    · have hp' := of_decide_eq_true hp
      refine decide_eq_true ?_
      have e := D.w k hk
      by_cases hg : mGoes S (nI k) (nI b) = true
      · exact (H.wait hk).mp (goes_w hg)
      · rw [if_neg hg] at e
        exact e.symm.trans hp'
    · refine decide_eq_false (fun z => ?_)
      rcases D.v b b1 gb with v | v
      · rw [v] at z; exact absurd z (by decide)
      · rw [v] at z; exact absurd z (by decide)
    · exact decide_eq_true ((H.wait b1).mp hw)
theorem all_go (H : Inv0 S) : ∀ n, n ≤ 8 → Cal S (jfo cp1 S n) ∧ (mNext (jfo cp1 S n) = -1 ∨ mW (jfo cp1 S n) + n ≤ 8)
  | 0, _ => by
    refine ⟨⟨H, ⟨rfl, rfl, rfl, fun _ _ => rfl⟩, fun _ _ _ => rfl⟩, Or.inr ?_⟩
    have h1 := cnt_le (fun k => decide (gN S 33 k = 0)) (mNP S)
    have h2 := H.nnN.2
    show cnt (fun k => decide (gN S 33 k = 0)) (mNP S) + 0 ≤ 8
    omega
  | n + 1, hn => by
    obtain ⟨C, h⟩ := all_go H n (by omega)
    rw [jfo]
    generalize jfo cp1 S n = T at C h
    unfold cp1
    by_cases e : mNext T = -1
    · rw [if_pos e]; exact ⟨C, Or.inl e⟩
    · rw [if_neg e]
      rcases h with h | h
      · exact absurd h e
      · obtain ⟨D, hD⟩ := carry_step C.iv e
        exact ⟨C.tr D, Or.inr (by omega)⟩
theorem all_ok (H : Inv0 S) : Inv (jCarryAll S) ∧ Cal S (jCarryAll S) := by
  obtain ⟨C, h⟩ := all_go H 8 (Nat.le_refl _)
  have e : mNext (jCarryAll S) = -1 := by
    rcases h with h | h
    · exact h
    · refine Classical.byContradiction (fun z => ?_)
      have z' : mNext (jfo cp1 S 8) ≠ -1 := z
      obtain ⟨-, hD⟩ := carry_step C.iv z'
      omega
  exact ⟨Inv0.up C.iv (next_no e C.iv.nnN.2), C⟩
end CarryAll
