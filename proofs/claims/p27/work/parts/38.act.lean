/-! What act asks for when it begins a run, and calls. -/
section Act1
variable {S : jS}
theorem jfind_nall {q : Nat → Bool} : ∀ {n : Nat}, jfind q n = none → ∀ i, i < n → q i = false
  | n + 1, h, i, hi => by
    rw [jfind] at h
    split at h
    · cases h
    · rename_i hn
      split at h
      · cases h
      · rename_i hq
        by_cases e : i = n
        · subst e; simpa using hq
        · exact jfind_nall hn i (by omega)
theorem backs_pos {q h : Nat} (hh : h ≤ 8) (e : gN S 29 q = nI h) (x : Int32) : 0 < mBacks S (nI q) x ↔ ∃ k, k < h ∧ gN S 30 (8 * q + k) = x := by
  unfold mBacks mH
  have e' : jg S 29 (nI q) = nI h := e
  rw [e', nI_clamp (by omega)]
  split
  · rename_i k hk
    obtain ⟨h1, h2⟩ := jfind_lt hk
    rw [nI_subn (c := h - k) (by omega)]
    refine ⟨fun _ => ⟨k, h1, ?_⟩, fun _ => nI_lt (a := 0) (by omega) (by omega)⟩
    unfold mBkQ mEnt at h2
    rw [idx8] at h2
    exact of_decide_eq_true h2
  · rename_i hk
    refine ⟨fun z => absurd z (by decide), fun ⟨k, h1, h2⟩ => ?_⟩
    have := jfind_nall hk k h1
    unfold mBkQ mEnt at this
    rw [idx8] at this
    exact absurd h2 (of_decide_eq_false this)
theorem runsW_cnt (x : Int32) : ∀ n, mRunsW S x n = nI (cnt (fun q => decide (0 < mBacks S (nI q) x)) n)
  | 0 => rfl
  | n + 1 => by
    rw [mRunsW, cnt, nI_a, runsW_cnt x n]
    by_cases h : 0 < mBacks S (nI n) x
    · rw [if_pos h, if_pos (decide_eq_true h)]; rfl
    · rw [if_neg h, if_neg (by simpa using h)]; exact (Int32.add_zero _).symm
theorem runsW_z (x : Int32) : mRunsW S x 4 = 0 ↔ ∀ q, q < 4 → ¬ 0 < mBacks S (nI q) x := by
  have hc := cnt_le (fun q => decide (0 < mBacks S (nI q) x)) 4
  rw [runsW_cnt]
  constructor
  · intro h q hq hb
    have h0 : cnt (fun q => decide (0 < mBacks S (nI q) x)) 4 = 0 := nI_ij (by omega) (by decide) h
    have := cnt_pos (P := fun q => decide (0 < mBacks S (nI q) x)) hq (decide_eq_true hb)
    omega
  · intro h
    rw [cnt_no (fun q hq => decide_eq_false (h q hq))]; rfl
theorem runs_cnt (S : jS) : mRuns S = nI 4 - nI (cnt (fun q => decide (gN S 29 q = 0)) 4) := by
  unfold mRuns jcnt
  rw [rcnt_cnt, show jlen 29 = 4 from rfl, cnt_cg (Q := fun q => decide (gN S 29 q = 0)) (fun q hq => by rw [gN_in S (r := 29) (i := q) hq])]
  rfl
theorem quiet_push (H : Inv S) {r h p : Nat} (hr : r < 4) (h8 : h < 8) (e : gN S 29 r = nI h) : ∀ k, k < mNP (jPush S (nI r) (nI p)) → mCan (jPush S (nI r) (nI p)) (nI k) = false := by
  have J := push_J S (nI r) (nI p)
  have Q : Qk S (jPush S (nI r) (nI p)) := by
    refine ⟨fun k => fj_wait J k, fj_np J, fun i => fj_jg J (by decide) i, fun i _ => fj_jg J (by decide) _, fun i hi => fj_jg J (by decide) _, fun i hi => fj_jg J (by decide) _, fun y' => fj_jg J (by decide) _, room_cg (fun i => fj_jg J (by decide) i), fun x hx => ?_⟩
    rw [runsW_z] at hx ⊢
    intro q hq hb
    obtain ⟨g, g1, g2, -⟩ := H.rn q hq
    obtain ⟨k, k1, k2⟩ := (backs_pos g1 g2 x).mp hb
    refine hx q hq ?_
    by_cases hqr : q = r
    · subst hqr
      have : g = h := nI_ij (by omega) (by omega) (g2.symm.trans e)
      subst this
      refine (backs_pos (h := g + 1) (by omega) (by rw [push_29 hq e _ q hq, if_pos rfl]) x).mpr ⟨k, by omega, ?_⟩
      rw [push_30 hq h8 e _ q k hq (by omega), if_neg (fun z => by omega)]; exact k2
    · refine (backs_pos (h := g) g1 (by rw [push_29 hr e _ q hq, if_neg hqr]; exact g2) x).mpr ⟨k, k1, ?_⟩
      rw [push_30 hr h8 e _ q k hq (by omega), if_neg (fun z => hqr z.1)]; exact k2
  exact Q.keep H.nnN.2 H.qt
theorem Inv.push (H : Inv S) {r h p : Nat} (hr : r < 4) (h8 : h < 8) (e : gN S 29 r = nI h) (hp : p < mPc S) (hl : gN S 18 p ≠ -1) : Inv (jPush S (nI r) (nI p)) :=
  (H.to0.push hr h8 e hp hl).up (quiet_push H hr h8 e)
/-- a run that isn't there, where there are fewer than 4 -/
theorem Inv.ff (H : Inv S) (h : mRuns S < 4) : ∃ r, r < 4 ∧ mFF S = nI r ∧ gN S 29 r = nI 0 := by
  have hx : ∃ r, r < 4 ∧ gN S 29 r = 0 := by
    refine Classical.byContradiction (fun hno => ?_)
    rw [runs_cnt, cnt_no (fun q hq => decide_eq_false (fun z => hno ⟨q, hq, z⟩)), nI_subn (c := 4) (by omega)] at h
    exact absurd h (by decide)
  have hth : ∀ q, q < 4 → ((!mThere S (nI q)) = true ↔ gN S 29 q = nI 0) := fun q hq => by
    obtain ⟨g, g1, g2, -⟩ := H.rn q hq
    unfold mThere mH
    have e' : jg S 29 (nI q) = nI g := g2
    rw [e', g2]
    simp only [Bool.not_eq_true', decide_eq_false_iff_not]
    constructor
    · intro z
      have : g = 0 := by
        refine Classical.byContradiction (fun h0 => z (nI_lt (a := 0) (by omega) (by omega)))
      rw [this]
    · intro z
      have : g = 0 := nI_ij (by omega) (by decide) z
      subst this; decide
  obtain ⟨r, r1, r2⟩ := hx
  unfold mFF jfI
  cases hj : jfind (fun i => !mThere S (nI i)) 4 with
  | none => exact absurd ((hth r r1).mpr r2) (by rw [jfind_nall hj r r1]; decide)
  | some k =>
    obtain ⟨k1, k2⟩ := jfind_lt hj
    exact ⟨k, k1, rfl, (hth k k1).mp k2⟩
theorem Inv.stand (H : Inv S) {y : Nat} (hy : y < 16) (h : gN S 17 y ≠ -1) : ∃ p, p < mPc S ∧ gN S 17 y = nI p ∧ gN S 3 p = nI y ∧ gN S 18 p ≠ -1 := by
  rcases (H.im).st y hy with g | g
  · exact absurd g h
  · exact g
theorem act_run (H : Inv S) (x : Int32) (hg : gRun S (aY x) = none) : ActRun S (jRun S (aY x)) x ∧ Inv (jRun S (aY x)) := by
  obtain ⟨y, y1, y2⟩ := blw_r (x >>> (4 &&& 31)) (m := 6) (by decide) (by decide)
  have hy : aY x = nI y := y2
  have hsym : mSym (aY x) = true := by rw [hy]; exact mw_of (n := 16) rfl (by omega) (by decide)
  unfold gRun at hg
  rw [if_pos hsym] at hg
  split at hg
  · rename_i hc
    obtain ⟨c1, -, c3⟩ := hc
    have hst : gN S 17 y ≠ -1 := by
      unfold mStd at c1
      rw [hy] at c1
      exact of_decide_eq_true c1
    obtain ⟨p, p1, p2, p3, p4⟩ := H.stand (by omega) hst
    obtain ⟨r, r1, r2, r3⟩ := H.ff c3
    have e17 : mStand S 1 (aY x) = nI p := by rw [hy]; exact p2
    have eS : jRun S (aY x) = jPush S (nI r) (nI p) := by unfold jRun; rw [r2, e17]
    have J := push_J S (nI r) (nI p)
    rw [eS]
    have h29 : jg (jPush S (nI r) (nI p)) 29 (nI r) = nI 1 := by
      have := push_29 r1 r3 (nI p) r r1
      rw [if_pos rfl] at this
      exact this
    refine ⟨⟨?_, hsym, ?_, ?_⟩, H.push r1 (by decide) r3 p1 p4⟩
    · rw [r2]
      refine if_pos ⟨?_, ?_⟩
      · unfold mThere mH; rw [h29]; decide
      · unfold mH; rw [h29]; decide
    · rw [r2]
      have e1 : mEnt (jPush S (nI r) (nI p)) (nI r) 0 = nI p := by
        unfold mEnt
        rw [show nI r * 8 + (0 : Int32) = nI (8 * r + 0) from idx8 r 0]
        have := push_30 r1 (by decide) r3 (nI p) r 0 r1 (by decide)
        rw [if_pos ⟨rfl, rfl⟩] at this
        exact this
      rw [e1]
      show nI p = jg (jPush S (nI r) (nI p)) 17 (aY x)
      rw [fj_jg J (by decide)]; exact e17.symm
    · show mRuns (jPush S (nI r) (nI p)) = mRuns S + 1
      rw [runs_cnt, runs_cnt]
      have hc : cnt (fun q => decide (gN S 29 q = 0)) 4 = cnt (fun q => decide (gN (jPush S (nI r) (nI p)) 29 q = 0)) 4 + cnt (fun q => decide (r ≤ q ∧ q < r + 1)) 4 := cnt_or (fun q hq => by
        have h29 := push_29 r1 r3 (nI p) q hq
        by_cases hqr : q = r
        · subst hqr
          rw [if_pos rfl] at h29
          rw [h29, r3]; simp; decide
        · rw [if_neg hqr] at h29
          rw [h29]
          have hx : ¬ (r ≤ q ∧ q < r + 1) := by omega
          simp [hx])
      rw [cnt_iv] at hc
      have h1 := cnt_le (fun q => decide (gN (jPush S (nI r) (nI p)) 29 q = 0)) 4
      have h2 := cnt_le (fun q => decide (gN S 29 q = 0)) 4
      rw [nI_subn (a := 4) (c := 4 - cnt (fun q => decide (gN (jPush S (nI r) (nI p)) 29 q = 0)) 4) (by omega), nI_subn (a := 4) (c := 4 - cnt (fun q => decide (gN S 29 q = 0)) 4) (by omega), ← nI_succ]
      congr 1
      omega
  · cases hg
end Act1
