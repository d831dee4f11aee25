/-! The end of a carrying: states written, the image taken over or left. -/
def kR (r : Nat) : Bool := [2, 3, 4, 6, 7, 29, 30, 31, 32].contains r
def FrK (S T : jS) : Prop := T.1 1 = S.1 1 ∧ T.1 2 = S.1 2 ∧ T.1 18 = S.1 18 ∧ ∀ r, kR r = true → T.2 r = S.2 r
section FrKs
variable {S T : jS}
theorem fk_jg (h : FrK S T) {r : Nat} (hr : kR r = true) (i : Int32) : jg T r i = jg S r i := by
  unfold jg; rw [h.2.2.2 r hr]
theorem fk_gN (h : FrK S T) {r : Nat} (hr : kR r = true) (i : Nat) : gN T r i = gN S r i := fk_jg h hr _
theorem fk_pc (h : FrK S T) : mPc T = mPc S := by unfold mPc; rw [h.2.1]
theorem fk_np (h : FrK S T) : mNP T = mNP S := by unfold mNP; rw [h.2.2.1]
theorem fk_psym (h : FrK S T) (k : Int32) : mPSym T k = mPSym S k := by
  unfold mPSym; rw [fk_jg h (by decide), fk_jg h (by decide)]
theorem FrK.tr {U : jS} (h : FrK S T) (g : FrK T U) : FrK S U := ⟨g.1.trans h.1, g.2.1.trans h.2.1, g.2.2.1.trans h.2.2.1, fun r hr => (g.2.2.2 r hr).trans (h.2.2.2 r hr)⟩
theorem goes_cg {b k : Int32} (h18 : T.1 18 = S.1 18) (h32 : ∀ i, jg T 32 i = jg S 32 i) (h33 : jg T 33 k = jg S 33 k) : mGoes T k b = mGoes S k b := by
  unfold mGoes mTog mWait
  rw [h18, h32, h32, h33]
theorem pe_r (S : jS) (b v : Int32) : ∀ n r, r ≠ 33 → (jPEnd S b v n).2 r = S.2 r
  | 0, _, _ => rfl
  | n + 1, r, h => by
    rw [jPEnd]
    split
    · rw [set_r _ _ h]; exact pe_r S b v n r h
    · exact pe_r S b v n r h
theorem pe_jg (S : jS) (b v : Int32) (n r : Nat) (h : r ≠ 33) (i : Int32) : jg (jPEnd S b v n) r i = jg S r i := by
  unfold jg; rw [pe_r S b v n r h]
theorem pe_33 (S : jS) (b v : Int32) : ∀ n, n ≤ 8 → ∀ k, k < 8 → gN (jPEnd S b v n) 33 k = if k < n ∧ mGoes S (nI k) b = true then v else gN S 33 k
  | 0, _, k, _ => (if_neg (fun h => absurd h.1 (Nat.not_lt_zero _))).symm
  | n + 1, hn, k, hk => by
    have ih := pe_33 S b v n (by omega)
    have hg : mGoes (jPEnd S b v n) (nI n) b = mGoes S (nI n) b := by
      refine goes_cg (by rw [jPEnd_1]) (fun i => pe_jg S b v n 32 (by decide) i) ?_
      have := ih n (by omega)
      rw [if_neg (fun h => absurd h.1 (Nat.lt_irrefl _))] at this
      exact this
    rw [jPEnd, hg]
    by_cases hc : mGoes S (nI n) b = true
    · rw [if_pos hc, set_g (r := 33) (i := n) (by show n < 8; omega) k (by omega)]
      by_cases e : k = n
      · subst e
        rw [if_pos rfl, if_pos ⟨by omega, hc⟩]
      · rw [if_neg e, ih k hk]
        by_cases h : k < n ∧ mGoes S (nI k) b = true
        · rw [if_pos h, if_pos ⟨by omega, h.2⟩]
        · rw [if_neg h, if_neg (fun z => h ⟨by omega, z.2⟩)]
    · rw [if_neg hc, ih k hk]
      by_cases e : k = n
      · subst e
        rw [if_neg (fun z => hc z.2), if_neg (fun z => hc z.2)]
      · by_cases h : k < n ∧ mGoes S (nI k) b = true
        · rw [if_pos h, if_pos ⟨by omega, h.2⟩]
        · rw [if_neg h, if_neg (fun z => h ⟨by omega, z.2⟩)]
theorem Inv0.cr (H : Inv0 S) (F : FrK S T) (im : Img T 0 (mPc S)) (st : ∀ y, y < 16 → gN S 17 y ≠ -1 → gN T 17 y ≠ -1) (la : ∀ p, p < mPc S → gN T 18 p ≠ -1 → gN S 18 p ≠ -1 ∨ ∃ i, i < mNP S ∧ gN S 31 i = nI p) (lr : ∀ p, p < mPc S → gN S 18 p ≠ -1 → gN T 18 p = -1 → mRunsW S (nI p) 4 = 0) (pt : ∀ k, k < mNP S → Pat T k) (pw : ∀ j k, j < k → k < mNP S → gN T 33 j = 0 → gN T 33 k = 1 → mPSym S (nI j) ≠ mPSym S (nI k)) : Inv0 T := by
  have e2 := fun p => fk_gN F (r := 2) (by decide) p
  have e3 := fun p => fk_gN F (r := 3) (by decide) p
  have e4 := fun p => fk_gN F (r := 4) (by decide) p
  have e6 := fun p => fk_gN F (r := 6) (by decide) p
  have e7 := fun p => fk_gN F (r := 7) (by decide) p
  have e29 := fun p => fk_gN F (r := 29) (by decide) p
  have e30 := fun p => fk_gN F (r := 30) (by decide) p
  have e31 := fun p => fk_gN F (r := 31) (by decide) p
  have hN := H.npN.2
  refine ⟨?_, ?_, ?_, ?_, ?_, ?_, ?_, ?_, ?_, ?_, ?_⟩
  · rw [F.1]; exact H.ob
  · rw [F.2.1]; exact H.np
  · rw [F.2.2.1]; exact H.nn
  · rw [fk_pc F]; intro p hp
    have h0 := H.pc p hp
    unfold Pce at h0 ⊢
    simp only [e2, e3, e4, e6, e7]
    exact h0
  · simp only [fk_pc F, e6]; exact H.rz
  · rw [fk_pc F]; exact im
  · rw [fk_pc F]; intro p hp hd k j t h6 hk hj ht h7
    rw [e6] at h6; rw [e7] at h7; simp only [e31, fk_np F] at hd
    refine st t ht (H.tg p hp ?_ k j t h6 hk hj ht h7)
    rcases hd with h | h
    · exact la p hp h
    · exact Or.inr h
  · rw [fk_pc F]; intro r hr
    obtain ⟨h, h1, h2, h3⟩ := H.rn r hr
    refine ⟨h, h1, by rw [e29]; exact h2, fun k hk => ?_⟩
    obtain ⟨p, p1, p2, p3⟩ := h3 k hk
    refine ⟨p, p1, by rw [e30]; exact p2, fun z => ?_⟩
    have hz := lr p p1 p3 z
    rw [runsW_z] at hz
    exact hz r hr ((backs_pos h1 h2 (nI p)).mpr ⟨k, hk, p2⟩)
  · rw [fk_np F]; exact pt
  · simp only [fk_np F, e31]; exact H.po
  · simp only [fk_np F, fk_psym F]; exact pw
end FrKs
section Carry
variable {S : jS} {b : Int32}
theorem fi_fk {T : jS} (h : FrI S T) : FrK S T := ⟨h.1, h.2.1, h.2.2.1, fun r hr => h.2.2.2 r (by
  unfold kR at hr; unfold iR
  rw [List.contains_iff_mem] at hr ⊢
  simp only [List.mem_cons, List.not_mem_nil, or_false] at hr ⊢
  omega)⟩
theorem ic_fk (U : jS) : FrK U (jIcopy U 0 1) := by
  obtain ⟨n0, r0, -⟩ := ic_01 U
  refine ⟨n0 1 (by decide), n0 2 (by decide), n0 18 (by decide), fun r hr => r0 r ?_⟩
  unfold kR at hr
  rw [List.contains_iff_mem] at hr
  simp only [List.mem_cons, List.not_mem_nil, or_false] at hr
  omega
theorem pe_fk (U : jS) (v : Int32) (n : Nat) : FrK U (jPEnd U b v n) := by
  refine ⟨by rw [jPEnd_1], by rw [jPEnd_1], by rw [jPEnd_1], fun r hr => pe_r U b v n r (fun e => ?_)⟩
  rw [e] at hr; exact absurd hr (by decide)
/-- what a carrying leaves -/
def Crd (S : jS) (b : Int32) (T : jS) : Prop :=
  (Inv0 T) ∧
  (FrK S T) ∧
  (∀ k, k < mNP S → gN T 33 k = if mGoes S (nI k) b = true then gN T 33 k else gN S 33 k) ∧
  (∀ k, k < mNP S → mGoes S (nI k) b = true → gN T 33 k = 1 ∨ gN T 33 k = 2)
theorem Crd.iv {S : jS} {b : Int32} {T : jS} (h : Crd S b T) : Inv0 T := h.1
theorem Crd.fk {S : jS} {b : Int32} {T : jS} (h : Crd S b T) : FrK S T := h.2.1
theorem Crd.w {S : jS} {b : Int32} {T : jS} (h : Crd S b T) : ∀ k, k < mNP S → gN T 33 k = if mGoes S (nI k) b = true then gN T 33 k else gN S 33 k := h.2.2.1
theorem Crd.v {S : jS} {b : Int32} {T : jS} (h : Crd S b T) : ∀ k, k < mNP S → mGoes S (nI k) b = true → gN T 33 k = 1 ∨ gN T 33 k = 2 := h.2.2.2
theorem carry_ok (H : Inv0 S) (hG : ∀ k, k < mNP S → mGoes S (nI k) b = true → mClear S (nI k) = true) : Crd S b (jCarry S b) := by
  have hN := H.npN.2
  have h8 := H.nnN.2
  have C := co_all H hG (mNP S) (Nat.le_refl _)
  unfold jCarry coEnd
  generalize coS S b (mNP S) = Q at C
  obtain ⟨q, U⟩ := Q
  dsimp only at C ⊢
  cases q with
  | false =>
    rw [if_neg (fun z : false = true => Bool.noConfusion z), if_neg (fun z : false = true => Bool.noConfusion z), fi_np C.fi]
    have F : FrK S (jPEnd U b 2 (mNP S)) := (fi_fk C.fi).tr (pe_fk U 2 _)
    have e33 : ∀ k, k < mNP S → gN (jPEnd U b 2 (mNP S)) 33 k = if mGoes S (nI k) b = true then 2 else gN S 33 k := fun k hk => by
      rw [pe_33 U b 2 _ h8 k (by omega), fi_goes C.fi, fi_gN C.fi (by decide)]
      by_cases hg : mGoes S (nI k) b = true
      · rw [if_pos ⟨hk, hg⟩, if_pos hg]
      · rw [if_neg (fun z => hg z.2), if_neg hg]
    have gr : ∀ r, iR r = true → r ≠ 33 → ∀ i, gN (jPEnd U b 2 (mNP S)) r i = gN S r i := fun r hr h i => (g_of (pe_r U b 2 _ r h) i).trans (fi_gN C.fi hr i)
    have e17 := gr 17 (by decide) (by decide)
    have e18 := gr 18 (by decide) (by decide)
    refine ⟨H.cr F (H.im.cp hN (gr 3 (by decide) (by decide)) (gr 4 (by decide) (by decide)) (fun q _ => e17 q) (fun q _ => e18 q) (fun q _ => gr 23 (by decide) (by decide) q) (fun q _ => gr 24 (by decide) (by decide) q) (fun q _ => gr 25 (by decide) (by decide) q)) (fun y _ h => by rw [e17]; exact h) (fun p _ h => by rw [e18] at h; exact Or.inl h) (fun p _ h1 h2 => by rw [e18] at h2; exact absurd h2 h1) (fun k hk => ?_) (fun j k hjk hk h1 h2 => ?_), F, fun k hk => ?_, fun k hk hg => ?_⟩
    · obtain ⟨p, y, b1, b2, b3, b4, b5, b6, b7, b8⟩ := (H.pt k hk).ex
      refine ⟨⟨p, y, by rw [fk_pc F]; exact b1, by rw [gr 31 (by decide) (by decide)]; exact b2, by rw [gr 3 (by decide) (by decide)]; exact b3, b4, by rw [gr 2 (by decide) (by decide)]; exact b5, fun h => ?_, fun h => ?_, fun h => ?_⟩, ?_⟩
      · rw [e18]
        refine b6 (fun z => ?_)
        rw [e33 k hk] at h
        by_cases hg : mGoes S (nI k) b = true
        · have := (H.wait hk).mp (goes_w hg)
          rw [this] at z; exact absurd z (by decide)
        · rw [if_neg hg] at h; exact h z
      · rw [e33 k hk] at h
        by_cases hg : mGoes S (nI k) b = true
        · rw [if_pos hg] at h; exact absurd h (by decide)
        · rw [if_neg hg] at h
          obtain ⟨s, s1, s2, s3⟩ := b7 h
          exact ⟨s, by rw [fk_pc F]; exact s1, by rw [e17]; exact s2, s3⟩
      · rw [e33 k hk] at h
        by_cases hg : mGoes S (nI k) b = true
        · rw [if_pos hg] at h; exact absurd h (by decide)
        · rw [if_neg hg] at h
          rw [e17]; exact b8 h
      · rw [e33 k hk]
        split
        · exact Or.inr (Or.inr rfl)
        · exact (H.pt k hk).st
    · rw [e33 j (by omega)] at h1
      rw [e33 k hk] at h2
      by_cases hg : mGoes S (nI j) b = true
      · rw [if_pos hg] at h1; exact absurd h1 (by decide)
      · rw [if_neg hg] at h1
        by_cases hg2 : mGoes S (nI k) b = true
        · rw [if_pos hg2] at h2; exact absurd h2 (by decide)
        · rw [if_neg hg2] at h2
          exact H.pw j k hjk hk h1 h2
    · rw [e33 k hk]
      split
      · rfl
      · rfl
    · rw [e33 k hk, if_pos hg]; exact Or.inr rfl
  | true =>
    rw [if_pos rfl, if_pos rfl, fk_np (ic_fk U), fi_np C.fi]
    have F0 : FrK S (jIcopy U 0 1) := (fi_fk C.fi).tr (ic_fk U)
    have F : FrK S (jPEnd (jIcopy U 0 1) b 1 (mNP S)) := F0.tr (pe_fk _ 1 _)
    obtain ⟨n0, r0, a1, a2, a3, a4, a5⟩ := ic_01 U
    have hgo : ∀ k, mGoes (jIcopy U 0 1) k b = mGoes S k b := fun k => by
      rw [← fi_goes (b := b) C.fi k]
      exact goes_cg (n0 18 (by decide)) (fun i => by unfold jg; rw [r0 32 (by decide)]) (by unfold jg; rw [r0 33 (by decide)])
    have e33 : ∀ k, k < mNP S → gN (jPEnd (jIcopy U 0 1) b 1 (mNP S)) 33 k = if mGoes S (nI k) b = true then 1 else gN S 33 k := fun k hk => by
      rw [pe_33 _ b 1 _ h8 k (by omega), hgo, g_of (r0 33 (by decide)) k, fi_gN C.fi (by decide)]
      by_cases hg : mGoes S (nI k) b = true
      · rw [if_pos ⟨hk, hg⟩, if_pos hg]
      · rw [if_neg (fun z => hg z.2), if_neg hg]
    have gr : ∀ r, r ≠ 33 → ∀ i, gN (jPEnd (jIcopy U 0 1) b 1 (mNP S)) r i = gN (jIcopy U 0 1) r i := fun r h i => g_of (pe_r _ b 1 _ r h) i
    have e17 : ∀ y, y < 16 → gN (jPEnd (jIcopy U 0 1) b 1 (mNP S)) 17 y = gN U 20 y := fun y hy => (gr 17 (by decide) y).trans (a1 y hy)
    have e18 : ∀ p, p < 40 → gN (jPEnd (jIcopy U 0 1) b 1 (mNP S)) 18 p = gN U 21 p := fun p hp => (gr 18 (by decide) p).trans (a2 p hp)
    refine ⟨H.cr F ((C.im.to0 hN).cp hN (gr 3 (by decide)) (gr 4 (by decide)) (fun q _ => gr 17 (by decide) q) (fun q _ => gr 18 (by decide) q) (fun q _ => gr 23 (by decide) q) (fun q _ => gr 24 (by decide) q) (fun q _ => gr 25 (by decide) q)) (fun y hy h => ?_) (fun p hp h => ?_) (fun p hp h1 h2 => ?_) (fun k hk => ?_) (fun j k hjk hk h1 h2 => ?_), F, fun k hk => ?_, fun k hk hg => ?_⟩
    · rw [e17 y hy]; exact fun z => h ((C.st y hy).mp z)
    · rw [e18 p (by omega)] at h; exact C.la p hp h
    · rw [e18 p (by omega)] at h2; exact C.lr p hp h1 h2
    · obtain ⟨p, y, b1, b2, b3, b4, b5, b6, b7, b8⟩ := (H.pt k hk).ex
      refine ⟨⟨p, y, by rw [fk_pc F]; exact b1, by rw [fk_gN F (by decide)]; exact b2, by rw [fk_gN F (by decide)]; exact b3, b4, by rw [fk_gN F (by decide)]; exact b5, fun h => ?_, fun h => ?_, fun h => ?_⟩, ?_⟩
      · rw [e18 p (by omega)]
        rw [e33 k hk] at h
        by_cases hg : mGoes S (nI k) b = true
        · rw [if_pos hg] at h; exact absurd rfl h
        · rw [if_neg hg] at h
          exact C.nl k p hk b2 b1 h (fun _ => by cases hx : mGoes S (nI k) b with | false => rfl | true => exact absurd hx hg)
      · rw [e17 y b4, fk_pc F]
        by_cases hg : mGoes S (nI k) b = true
        · exact ⟨p, b1, C.dn rfl k p y hk hg b2 b1 b4 b3, Nat.le_refl _⟩
        · rw [e33 k hk, if_neg hg] at h
          rcases C.wh y b4 with hw | ⟨k', p', k1, k2, k3, k4, k5, k6⟩
          · obtain ⟨s, s1, s2, s3⟩ := b7 h
            exact ⟨s, s1, hw.trans s2, s3⟩
          · have hne : k' ≠ k := fun z => by subst z; exact hg k2
            have hlt : k < k' := by
              rcases Nat.lt_or_gt_of_ne hne with h1 | h1
              · exact absurd ((psym_of k3 k5).trans (psym_of b2 b3).symm) (H.pw k' k h1 hk ((H.wait k1).mp (goes_w k2)) h)
              · exact h1
            exact ⟨p', k4, k6, Nat.le_of_lt (H.po k k' p p' hlt k1 (by omega) (by omega) b2 k3)⟩
      · rw [e33 k hk] at h
        by_cases hg : mGoes S (nI k) b = true
        · rw [if_pos hg] at h; exact absurd h (by decide)
        · rw [if_neg hg] at h
          rw [e17 y b4]; exact fun z => b8 h ((C.st y b4).mp z)
      · rw [e33 k hk]
        split
        · exact Or.inr (Or.inl rfl)
        · exact (H.pt k hk).st
    · rw [e33 j (by omega)] at h1
      rw [e33 k hk] at h2
      by_cases hg : mGoes S (nI j) b = true
      · rw [if_pos hg] at h1; exact absurd h1 (by decide)
      · rw [if_neg hg] at h1
        by_cases hg2 : mGoes S (nI k) b = true
        · exact clear_wb (hG k hk hg2) (by omega) hjk ((H.wait (by omega)).mpr h1)
        · rw [if_neg hg2] at h2
          exact H.pw j k hjk hk h1 h2
    · rw [e33 k hk]
      split
      · rfl
      · rfl
    · rw [e33 k hk, if_pos hg]; exact Or.inl rfl
end Carry
