/-! What holds of a yard between two steps of the law: the definition, and what its asking needs. -/
def gN (S : jS) (r i : Nat) : Int32 := jg S r (nI i)
theorem nI_cl {x : Int32} (h : 0 ≤ x) : nI x.toNatClampNeg = x := by
  have h1 := i32_pos x h
  have h2 := jb_31 x
  exact Int32.toInt.inj (by rw [nI_toInt (by omega)]; omega)
theorem nI_ij {a b : Nat} (ha : a < 2 ^ 31) (hb : b < 2 ^ 31) (h : nI a = nI b) : a = b := by
  have := congrArg Int32.toInt h
  rw [nI_toInt ha, nI_toInt hb] at this
  omega
theorem nI_a (a b : Nat) : nI (a + b) = nI a + nI b := by
  show Int32.ofNat (a + b) = Int32.ofNat a + Int32.ofNat b
  exact Int32.ofNat_add a b
theorem nI_p (a b : Nat) : nI (a * b) = nI a * nI b := by
  show Int32.ofNat (a * b) = Int32.ofNat a * Int32.ofNat b
  exact Int32.ofNat_mul a b
theorem gN_in (S : jS) {r i : Nat} (h : i < jlen r) : gN S r i = S.2 r i := by
  have h2 := jlen_lt r
  unfold gN jg
  rw [rget_in (nI_pos (by omega)) (nI_ge h h2), nI_clamp (by omega)]
theorem jfind_no {q : Nat → Bool} : ∀ {N : Nat}, (∀ i, i < N → q i = false) → jfind q N = none
  | 0, _ => rfl
  | N + 1, h => by rw [jfind, jfind_no (fun i hi => h i (by omega))]; simp [h N (by omega)]
/-- one image: what stands, what is laid, what its words and jumps say -/
def Img (S : jS) (i np : Nat) : Prop :=
  (∀ y, y < 16 → gN S (17 + 3 * i) y = -1 ∨ ∃ p, p < np ∧ gN S (17 + 3 * i) y = nI p ∧ gN S 3 p = nI y ∧ gN S (18 + 3 * i) p ≠ -1) ∧
  (∀ p, p < np → gN S (18 + 3 * i) p = -1 ∨ ∃ a z, gN S (18 + 3 * i) p = nI a ∧ gN S 4 p = nI z ∧ 1 ≤ z ∧ a + z ≤ 200 ∧ ∀ q, a ≤ q → q < a + z → gN S (23 + 3 * i) q = 1 ∧ gN S (24 + 3 * i) q = nI p) ∧
  (∀ p, np ≤ p → p < 40 → gN S (18 + 3 * i) p = -1) ∧
  (∀ q, q < 200 → gN S (23 + 3 * i) q = 0 ∨ gN S (23 + 3 * i) q = 1 ∨ gN S (23 + 3 * i) q = 2 ∨ gN S (23 + 3 * i) q = 3) ∧
  (∀ q, q < 200 → gN S (23 + 3 * i) q = 1 → ∃ p a z, p < np ∧ gN S (24 + 3 * i) q = nI p ∧ gN S (18 + 3 * i) p = nI a ∧ gN S 4 p = nI z ∧ z ≤ 20 ∧ a ≤ q ∧ q < a + z) ∧
  (∀ y, y < 16 → gN S (25 + 3 * i) y = -1 ∨ ∃ q, q < 200 ∧ gN S (25 + 3 * i) y = nI q ∧ gN S (23 + 3 * i) q = 3 ∧ gN S (24 + 3 * i) q = nI y) ∧
  (∀ y, y < 16 → gN S (17 + 3 * i) y = -1 → gN S (25 + 3 * i) y = -1)
theorem Img.st {S : jS} {i np : Nat} (h : Img S i np) : ∀ y, y < 16 → gN S (17 + 3 * i) y = -1 ∨ ∃ p, p < np ∧ gN S (17 + 3 * i) y = nI p ∧ gN S 3 p = nI y ∧ gN S (18 + 3 * i) p ≠ -1 := h.1
theorem Img.pl {S : jS} {i np : Nat} (h : Img S i np) : ∀ p, p < np → gN S (18 + 3 * i) p = -1 ∨ ∃ a z, gN S (18 + 3 * i) p = nI a ∧ gN S 4 p = nI z ∧ 1 ≤ z ∧ a + z ≤ 200 ∧ ∀ q, a ≤ q → q < a + z → gN S (23 + 3 * i) q = 1 ∧ gN S (24 + 3 * i) q = nI p := h.2.1
theorem Img.pz {S : jS} {i np : Nat} (h : Img S i np) : ∀ p, np ≤ p → p < 40 → gN S (18 + 3 * i) p = -1 := h.2.2.1
theorem Img.kd {S : jS} {i np : Nat} (h : Img S i np) : ∀ q, q < 200 → gN S (23 + 3 * i) q = 0 ∨ gN S (23 + 3 * i) q = 1 ∨ gN S (23 + 3 * i) q = 2 ∨ gN S (23 + 3 * i) q = 3 := h.2.2.2.1
theorem Img.kw {S : jS} {i np : Nat} (h : Img S i np) : ∀ q, q < 200 → gN S (23 + 3 * i) q = 1 → ∃ p a z, p < np ∧ gN S (24 + 3 * i) q = nI p ∧ gN S (18 + 3 * i) p = nI a ∧ gN S 4 p = nI z ∧ z ≤ 20 ∧ a ≤ q ∧ q < a + z := h.2.2.2.2.1
theorem Img.jm {S : jS} {i np : Nat} (h : Img S i np) : ∀ y, y < 16 → gN S (25 + 3 * i) y = -1 ∨ ∃ q, q < 200 ∧ gN S (25 + 3 * i) y = nI q ∧ gN S (23 + 3 * i) q = 3 ∧ gN S (24 + 3 * i) q = nI y := h.2.2.2.2.2.1
theorem Img.jz {S : jS} {i np : Nat} (h : Img S i np) : ∀ y, y < 16 → gN S (17 + 3 * i) y = -1 → gN S (25 + 3 * i) y = -1 := h.2.2.2.2.2.2
/-- what is known of a patch -/
def Pat (S : jS) (k : Nat) : Prop :=
  (∃ p y, p < mPc S ∧ gN S 31 k = nI p ∧ gN S 3 p = nI y ∧ y < 16 ∧ gN S 2 p = -1 ∧ (gN S 33 k ≠ 1 → gN S 18 p = -1) ∧ (gN S 33 k = 1 → ∃ s, s < mPc S ∧ gN S 17 y = nI s ∧ p ≤ s) ∧ (gN S 33 k = 0 → gN S 17 y ≠ -1)) ∧
  (gN S 33 k = 0 ∨ gN S 33 k = 1 ∨ gN S 33 k = 2)
theorem Pat.ex {S : jS} {k : Nat} (h : Pat S k) : ∃ p y, p < mPc S ∧ gN S 31 k = nI p ∧ gN S 3 p = nI y ∧ y < 16 ∧ gN S 2 p = -1 ∧ (gN S 33 k ≠ 1 → gN S 18 p = -1) ∧ (gN S 33 k = 1 → ∃ s, s < mPc S ∧ gN S 17 y = nI s ∧ p ≤ s) ∧ (gN S 33 k = 0 → gN S 17 y ≠ -1) := h.1
theorem Pat.st {S : jS} {k : Nat} (h : Pat S k) : gN S 33 k = 0 ∨ gN S 33 k = 1 ∨ gN S 33 k = 2 := h.2
/-- what is known of a piece -/
def Pce (S : jS) (p : Nat) : Prop :=
  (∃ y, y < 16 ∧ gN S 3 p = nI y) ∧
  (∃ z, 1 ≤ z ∧ z ≤ 20 ∧ gN S 4 p = nI z) ∧
  (∃ k, k ≤ 3 ∧ gN S 6 p = nI k ∧ ∀ j, j < k → ∃ t, t < 16 ∧ gN S 7 (3 * p + j) = nI t) ∧
  (gN S 2 p = -1 ∨ ∃ o, o < 3 ∧ gN S 2 p = nI o)
theorem Pce.sy {S : jS} {p : Nat} (h : Pce S p) : ∃ y, y < 16 ∧ gN S 3 p = nI y := h.1
theorem Pce.sz {S : jS} {p : Nat} (h : Pce S p) : ∃ z, 1 ≤ z ∧ z ≤ 20 ∧ gN S 4 p = nI z := h.2.1
theorem Pce.rf {S : jS} {p : Nat} (h : Pce S p) : ∃ k, k ≤ 3 ∧ gN S 6 p = nI k ∧ ∀ j, j < k → ∃ t, t < 16 ∧ gN S 7 (3 * p + j) = nI t := h.2.2.1
theorem Pce.ow {S : jS} {p : Nat} (h : Pce S p) : gN S 2 p = -1 ∨ ∃ o, o < 3 ∧ gN S 2 p = nI o := h.2.2.2
/-- what is known of a yard -/
def Inv (S : jS) : Prop :=
  (S.1 1 = 3) ∧
  (0 ≤ S.1 2 ∧ S.1 2 ≤ 40) ∧
  (0 ≤ S.1 18 ∧ S.1 18 ≤ 8) ∧
  (∀ p, p < mPc S → Pce S p) ∧
  (∀ p, mPc S ≤ p → p < 40 → gN S 6 p = 0) ∧
  (Img S 0 (mPc S)) ∧
  (∀ p, p < mPc S → (gN S 18 p ≠ -1 ∨ ∃ i, i < mNP S ∧ gN S 31 i = nI p) → ∀ k j t, gN S 6 p = nI k → k ≤ 3 → j < k → t < 16 → gN S 7 (3 * p + j) = nI t → gN S 17 t ≠ -1) ∧
  (∀ r, r < 4 → ∃ h, h ≤ 8 ∧ gN S 29 r = nI h ∧ ∀ k, k < h → ∃ p, p < mPc S ∧ gN S 30 (8 * r + k) = nI p ∧ gN S 18 p ≠ -1) ∧
  (∀ k, k < mNP S → Pat S k) ∧
  (∀ j k p q, j < k → k < mNP S → p < 40 → q < 40 → gN S 31 j = nI p → gN S 31 k = nI q → p < q) ∧
  (∀ j k, j < k → k < mNP S → gN S 33 j = 0 → gN S 33 k = 1 → mPSym S (nI j) ≠ mPSym S (nI k)) ∧
  (∀ k, k < mNP S → mCan S (nI k) = false)
theorem Inv.ob {S : jS} (h : Inv S) : S.1 1 = 3 := h.1
theorem Inv.np {S : jS} (h : Inv S) : 0 ≤ S.1 2 ∧ S.1 2 ≤ 40 := h.2.1
theorem Inv.nn {S : jS} (h : Inv S) : 0 ≤ S.1 18 ∧ S.1 18 ≤ 8 := h.2.2.1
theorem Inv.pc {S : jS} (h : Inv S) : ∀ p, p < mPc S → Pce S p := h.2.2.2.1
theorem Inv.rz {S : jS} (h : Inv S) : ∀ p, mPc S ≤ p → p < 40 → gN S 6 p = 0 := h.2.2.2.2.1
theorem Inv.im {S : jS} (h : Inv S) : Img S 0 (mPc S) := h.2.2.2.2.2.1
theorem Inv.tg {S : jS} (h : Inv S) : ∀ p, p < mPc S → (gN S 18 p ≠ -1 ∨ ∃ i, i < mNP S ∧ gN S 31 i = nI p) → ∀ k j t, gN S 6 p = nI k → k ≤ 3 → j < k → t < 16 → gN S 7 (3 * p + j) = nI t → gN S 17 t ≠ -1 := h.2.2.2.2.2.2.1
theorem Inv.rn {S : jS} (h : Inv S) : ∀ r, r < 4 → ∃ h, h ≤ 8 ∧ gN S 29 r = nI h ∧ ∀ k, k < h → ∃ p, p < mPc S ∧ gN S 30 (8 * r + k) = nI p ∧ gN S 18 p ≠ -1 := h.2.2.2.2.2.2.2.1
theorem Inv.pt {S : jS} (h : Inv S) : ∀ k, k < mNP S → Pat S k := h.2.2.2.2.2.2.2.2.1
theorem Inv.po {S : jS} (h : Inv S) : ∀ j k p q, j < k → k < mNP S → p < 40 → q < 40 → gN S 31 j = nI p → gN S 31 k = nI q → p < q := h.2.2.2.2.2.2.2.2.2.1
theorem Inv.pw {S : jS} (h : Inv S) : ∀ j k, j < k → k < mNP S → gN S 33 j = 0 → gN S 33 k = 1 → mPSym S (nI j) ≠ mPSym S (nI k) := h.2.2.2.2.2.2.2.2.2.2.1
theorem Inv.qt {S : jS} (h : Inv S) : ∀ k, k < mNP S → mCan S (nI k) = false := h.2.2.2.2.2.2.2.2.2.2.2
section InvB
variable {S : jS}
theorem Inv.npN (H : Inv S) : S.1 2 = nI (mPc S) ∧ mPc S ≤ 40 := by
  have h := H.np
  refine ⟨(nI_cl h.1).symm, ?_⟩
  have h1 := i32_pos _ h.1
  have h2 := h.2
  rw [Int32.le_iff_toInt_le] at h2
  have : (40 : Int32).toInt = 40 := rfl
  unfold mPc; omega
theorem Inv.nnN (H : Inv S) : S.1 18 = nI (mNP S) ∧ mNP S ≤ 8 := by
  have h := H.nn
  refine ⟨(nI_cl h.1).symm, ?_⟩
  have h1 := i32_pos _ h.1
  have h2 := h.2
  rw [Int32.le_iff_toInt_le] at h2
  have : (8 : Int32).toInt = 8 := rfl
  unfold mNP; omega
theorem waitFor_0 {y : Int32} : ∀ {n : Nat}, (∀ k, k < n → ¬ (mWait S (nI k) = true ∧ mPSym S (nI k) = y)) → mWaitFor S y n = 0
  | 0, _ => rfl
  | n + 1, h => by rw [mWaitFor, if_neg (h n (by omega)), waitFor_0 (fun k hk => h k (by omega))]
theorem Inv.wait (H : Inv S) {k : Nat} (hk : k < mNP S) : mWait S (nI k) = true ↔ gN S 33 k = 0 := by
  have h8 := H.nnN
  unfold mWait
  rw [decide_eq_true_iff]
  exact ⟨fun h => h.2.2, fun h => ⟨nI_pos' (by omega), by rw [h8.1]; exact nI_lt hk (by omega), h⟩⟩
theorem Inv.psym (H : Inv S) {k p y : Nat} (h1 : gN S 31 k = nI p) (h2 : gN S 3 p = nI y) : mPSym S (nI k) = nI y := by
  unfold mPSym; unfold gN at h1 h2; rw [h1, h2]
theorem Inv.noWait (H : Inv S) {y : Nat} (hy : y < 16) (h : gN S 17 y = -1) : mWaitFor S (nI y) (mNP S) = 0 := by
  refine waitFor_0 (fun k hk hw => ?_)
  obtain ⟨p, y', h1, h2, h3, h4, h5, h6, h7, h8⟩ := (H.pt k hk).ex
  have h9 := h8 ((H.wait hk).mp hw.1)
  have e := hw.2
  rw [H.psym h2 h3] at e
  rw [nI_ij (by omega) (by omega) e] at h9
  exact h9 h
theorem Inv.backs0 (H : Inv S) {p r : Nat} (hp : p < 40) (hr : r < 4) (h : gN S 18 p = -1) : mBacks S (nI r) (nI p) = 0 := by
  obtain ⟨hh, h1, h2, h3⟩ := H.rn r hr
  unfold mBacks mH
  have e : jg S 29 (nI r) = nI hh := h2
  rw [e, nI_clamp (by omega), jfind_no (fun k hk => ?_)]
  obtain ⟨p', q1, q2, q3⟩ := h3 k hk
  unfold mBkQ mEnt
  have e2 : jg S 30 (nI r * 8 + nI k) = nI p' := by
    rw [show nI r * 8 + nI k = nI (8 * r + k) by rw [nI_a, Nat.mul_comm, nI_p]; rfl]; exact q2
  rw [e2]
  refine decide_eq_false (fun e => ?_)
  have := H.npN.2
  have e3 := nI_ij (by omega) (by omega) e
  subst e3
  exact q3 h
theorem runsW_0 {p : Int32} (h : ∀ r, r < 4 → mBacks S (nI r) p = 0) : mRunsW S p 4 = 0 := by
  simp [mRunsW, h 0 (by decide), h 1 (by decide), h 2 (by decide), h 3 (by decide)]
end InvB
/-! counting words -/
def cnt (P : Nat → Bool) : Nat → Nat
  | 0 => 0
  | i + 1 => cnt P i + if P i = true then 1 else 0
theorem cnt_cg {P Q : Nat → Bool} : ∀ {n : Nat}, (∀ i, i < n → P i = Q i) → cnt P n = cnt Q n
  | 0, _ => rfl
  | n + 1, h => by rw [cnt, cnt, cnt_cg (fun i hi => h i (by omega)), h n (by omega)]
theorem cnt_no {P : Nat → Bool} : ∀ {n : Nat}, (∀ i, i < n → P i = false) → cnt P n = 0
  | 0, _ => rfl
  | n + 1, h => by rw [cnt, cnt_no (fun i hi => h i (by omega)), h n (by omega)]; rfl
theorem cnt_or {P Q R : Nat → Bool} : ∀ {n : Nat}, (∀ i, i < n → P i = (Q i || R i) ∧ (Q i = true → R i = false)) → cnt P n = cnt Q n + cnt R n
  | 0, _ => rfl
  | n + 1, h => by
    rw [cnt, cnt, cnt, cnt_or (fun i hi => h i (by omega)), (h n (by omega)).1]
    cases hq : Q n with
    | true => rw [(h n (by omega)).2 hq]; simp; omega
    | false => cases R n <;> simp <;> omega
theorem cnt_iv (a z : Nat) : ∀ n, cnt (fun q => decide (a ≤ q ∧ q < a + z)) n = min n (a + z) - min n a
  | 0 => by simp [cnt]
  | n + 1 => by
    rw [cnt, cnt_iv a z n]
    by_cases h : a ≤ n ∧ n < a + z
    · simp only [h, and_self, decide_true, if_true]; omega
    · simp only [h, decide_false, Bool.false_eq_true, if_false]; omega
theorem rcnt_cnt (f : Nat → Int32) (v : Int32) : ∀ n, rcnt f v n = cnt (fun q => decide (f q = v)) n
  | 0 => rfl
  | n + 1 => by rw [rcnt, cnt, rcnt_cnt f v n]; by_cases h : f n = v <;> simp [h]
section InvU
variable {S : jS}
def kHB (S : jS) (m q : Nat) : Bool := decide (gN S 23 q = 1) && decide ((gN S 24 q).toNatClampNeg < m)
theorem Inv.used (H : Inv S) : ∀ m, m ≤ mPc S → mUsed S m = nI (cnt (kHB S m) 200)
  | 0, _ => by rw [cnt_no (fun i _ => by simp [kHB])]; rfl
  | m + 1, hm => by
    have hN := H.npN.2
    have ih := Inv.used H m (by omega)
    have hsplit : cnt (kHB S (m + 1)) 200 = cnt (kHB S m) 200 + cnt (fun q => decide (gN S 23 q = 1) && decide ((gN S 24 q).toNatClampNeg = m)) 200 := by
      refine cnt_or (fun q hq => ?_)
      unfold kHB
      by_cases h1 : gN S 23 q = 1
      · rcases Nat.lt_trichotomy (gN S 24 q).toNatClampNeg m with h | h | h
        · simp [h1, h, Nat.ne_of_lt h, Nat.lt_succ_of_lt h]
        · simp [h1, h]
        · simp [h1, Nat.not_lt.mpr (Nat.le_of_lt h), (Nat.ne_of_lt h).symm, show ¬ (gN S 24 q).toNatClampNeg < m + 1 by omega]
      · simp [h1]
    rw [mUsed, hsplit, nI_a, ih]
    have e5 : tPiece S (nI m) 5 = gN S 18 m := rfl
    have e2 : tPiece S (nI m) 2 = gN S 4 m := rfl
    rw [e5, e2]
    rcases (H.im).pl m (by omega) with h | ⟨a, z, h1, h2, h3, h4, h5⟩
    · have hc : cnt (fun q => decide (gN S 23 q = 1) && decide ((gN S 24 q).toNatClampNeg = m)) 200 = 0 := by
        refine cnt_no (fun q hq => ?_)
        by_cases hk : gN S 23 q = 1
        · obtain ⟨p, a, z, g1, g2, g3, g4, g5, g6, g7⟩ := (H.im).kw q hq hk
          have g2' : gN S 24 q = nI p := g2
          rw [g2', nI_clamp (by omega)]
          by_cases hp : p = m
          · subst hp
            have h' : gN S 18 p = -1 := h
            have g3' : gN S 18 p = nI a := g3
            rw [g3'] at h'
            exact absurd h' (nI_m1 (by omega))
          · simp [hp]
        · simp [hk]
      have h' : gN S 18 m = -1 := h
      rw [h', if_pos (by decide), hc]; rfl
    · have h1' : gN S 18 m = nI a := h1
      have hc : cnt (fun q => decide (gN S 23 q = 1) && decide ((gN S 24 q).toNatClampNeg = m)) 200 = z := by
        rw [cnt_cg (Q := fun q => decide (a ≤ q ∧ q < a + z)), cnt_iv]
        · omega
        · intro q hq
          by_cases hiv : a ≤ q ∧ q < a + z
          · obtain ⟨k1, k2⟩ := h5 q hiv.1 hiv.2
            have k1' : gN S 23 q = 1 := k1
            have k2' : gN S 24 q = nI m := k2
            rw [k1', k2', nI_clamp (by omega)]; simp [hiv]
          · rw [decide_eq_false hiv]
            by_cases hk : gN S 23 q = 1
            · obtain ⟨p, a', z', g1, g2, g3, g4, g5, g6, g7⟩ := (H.im).kw q hq hk
              have g2' : gN S 24 q = nI p := g2
              rw [g2', nI_clamp (by omega)]
              by_cases hp : p = m
              · subst hp
                have g3' : gN S 18 p = nI a' := g3
                rw [h1'] at g3'
                rw [h2] at g4
                have e1 := nI_ij (by omega) (by omega) g3'
                have e2 := nI_ij (by omega) (by omega) g4
                subst e1; subst e2
                exact absurd ⟨g6, g7⟩ hiv
              · simp [hp]
            · simp [hk]
      have h2' : gN S 4 m = nI z := h2
      rw [h1', if_neg (nI_pos (by omega)), hc, h2']
end InvU
