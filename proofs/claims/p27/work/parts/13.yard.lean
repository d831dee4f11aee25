/-! The class LinkfactoryYard (ob 0): what it asks of itself, and the checksum. -/
theorem jsw_out {w : Int32} {n : Nat} (hn : n < 2 ^ 30) (h : ∀ i, i ≤ n → ¬ w = nI i) : w.toInt < 0 ∨ (n : Int) < w.toInt := by
  rcases pk_ix w (n := n + 1) (by omega) with q | q | ⟨j, hj, e⟩
  · left; rw [Int32.lt_iff_toInt_lt] at q; exact q
  · right
    rw [Int32.le_iff_toInt_le, nI_toInt (by omega)] at q
    omega
  · exact absurd e (h j (by omega))
def mWithin (a b : Int32) : Bool := decide (0 ≤ a ∧ a < b)
def mSym (a : Int32) : Bool := mWithin a 16
def mSize (a : Int32) : Bool := decide (1 ≤ a ∧ a ≤ 20)
def mRch (a : Int32) : Bool := decide (5 ≤ a ∧ a ≤ 100)
def mStd (S : jS) (y : Int32) : Bool := decide (mStand S 1 y ≠ -1)
def mHeld (S : jS) (y : Int32) : Bool := decide (jg S 0 y = 1) && decide (0 < mWaitFor S y (mNP S))
def tFault (S : jS) (k w : Int32) : Int32 := if w = 0 then jg S 9 k else jg S 10 k
def tSymbol (S : jS) (y w : Int32) : Int32 := if w = 0 then mStand S 1 y else if w = 1 then mPlace S 1 (mStand S 1 y) else if w = 2 then jg S 25 y else mWaitFor S y (mNP S)
def tPiece (S : jS) (p w : Int32) : Int32 := if w = 0 then jg S 2 p else if w = 1 then jg S 3 p else if w = 2 then jg S 4 p else if w = 3 then jg S 5 p else if w = 4 then jg S 6 p else if w = 5 then mPlace S 1 p else mRunsW S p 4
def tDirect (S : jS) (p k : Int32) : Bool := !mNear S p k || mReSy S 1 p (mTarget S p k)
def tSteps (S : jS) (p k : Int32) : Int32 := if tDirect S p k = true then 1 else 2
def tWord (S : jS) (q w : Int32) : Int32 := if w = 0 then jg S 23 q else jg S 24 q
def tMany (S : jS) (w : Int32) : Int32 := if w = 0 then S.1 1 else if w = 1 then S.1 2 else if w = 2 then S.1 11 else if w = 3 then 200 - jcnt S 23 0 else if w = 4 then jcnt S 23 2 else if w = 5 then jcnt S 23 3 else if w = 6 then mRuns S else if w = 7 then S.1 18 else if w = 8 then mWaiting S (mNP S) else if S.1 16 &&& 1 = 0 then 0 else 1
def tPatch (S : jS) (k w : Int32) : Int32 := if w = 0 then jg S 3 (jg S 31 k) else if w = 1 then jg S 31 k else if w = 2 then jg S 32 k else jg S 33 k
def mClear (S : jS) (k : Int32) : Bool := !mWB S k && decide (mRunsW S (mStand S 1 (jg S 3 (jg S 31 k))) 4 = 0) && decide (mRoom S 23 (jg S 4 (jg S 31 k)) ≠ -1)
def mCanQ (S : jS) (k : Int32) (i : Nat) : Bool := mGoes S (nI i) k && !mClear S (nI i)
def mCan (S : jS) (k : Int32) : Bool := mWait S k && !jany (mCanQ S k) (mNP S)
def co1 (b : Int32) (i : Nat) (q : Bool × jS) : Bool × jS := if q.1 = true then (if mGoes q.2 (nI i) b = true then (rpOk q.2 (jg q.2 31 (nI i)), jRep q.2 (jg q.2 31 (nI i))) else q) else q
def coS (S : jS) (b : Int32) : Nat → Bool × jS
  | 0 => (true, jIcopy S 1 0)
  | i + 1 => co1 b i (coS S b i)
def coEnd (q : Bool × jS) (b : Int32) : jS := jPEnd (if q.1 = true then jIcopy q.2 0 1 else q.2) b (if q.1 = true then 1 else 2) (mNP (if q.1 = true then jIcopy q.2 0 1 else q.2))
def jCarry (S : jS) (b : Int32) : jS := coEnd (coS S b (mNP S)) b
theorem jset_1 (S : jS) (r : Nat) (i v : Int32) : (jset S r i v).1 = S.1 := rfl
theorem jRep_1 (S : jS) (p : Int32) : (jRep S p).1 = S.1 := by
  have h1 : ∀ x, (rpS1 S p x).1 = S.1 := fun x => by rw [rpS1, jset_1, jset_1, jMark_1]
  have h2 : ∀ x, (rpS2 S p x).1 = S.1 := fun x => by rw [rpS2, jset_1, jMark_1, h1]
  rw [jRep]; split
  · rw [rpS3]; split
    · rw [jset_1, jMark_1, h2]
    · rw [h2]
  · rfl
theorem jIcopy_18 (S : jS) : (jIcopy S 1 0).1 18 = S.1 18 := rfl
theorem coS_18 (S : jS) (b : Int32) : ∀ i, (coS S b i).2.1 18 = S.1 18
  | 0 => jIcopy_18 S
  | i + 1 => by
    rw [coS, co1]
    split
    · split
      · dsimp only
        rw [jRep_1]
        exact coS_18 S b i
      · exact coS_18 S b i
    · exact coS_18 S b i
theorem coS_stop {S : jS} {b : Int32} {i : Nat} (h : (coS S b i).1 = false) : ∀ d, coS S b (i + d) = coS S b i
  | 0 => rfl
  | d + 1 => by
    rw [← Nat.add_assoc, coS, coS_stop h d, co1, h]; rfl
def mNextQ (S : jS) (k : Nat) : Bool := mCan S (nI k)
def mNext (S : jS) : Int32 := jfI (mNextQ S) (mNP S)
def cp1 (_ : Nat) (T : jS) : jS := if mNext T = -1 then T else jCarry T (mNext T)
def jCarryAll (S : jS) : jS := jfo cp1 S 8
theorem nI_m1 {k : Nat} (h : k < 2 ^ 31) : ¬ nI k = -1 := fun e => nI_pos h (by rw [e]; decide)
def mix (d v : Int64) : Int64 := d * 31 + v
def dSy1 (S : jS) (y : Int32) (d : Int64) : Nat → Int64
  | 0 => d
  | k + 1 => mix (dSy1 S y d k) (tSymbol S y (nI k)).toInt64
def dSy (S : jS) (d : Int64) : Nat → Int64
  | 0 => d
  | i + 1 => dSy1 S (nI i) (dSy S d i) 4
def dPc1 (S : jS) (p : Int32) (d : Int64) : Nat → Int64
  | 0 => d
  | k + 1 => mix (dPc1 S p d k) (tPiece S p (nI k)).toInt64
def dPc2 (S : jS) (p : Int32) (d : Int64) : Nat → Int64
  | 0 => d
  | k + 1 => mix (dPc2 S p d k) (tSteps S p (nI k)).toInt64
def dPcK (S : jS) (p : Int32) : Int32 := if mLaid S 1 p = true then jg S 6 p else 0
def dPc (S : jS) (d : Int64) : Nat → Int64
  | 0 => d
  | i + 1 => dPc2 S (nI i) (dPc1 S (nI i) (dPc S d i) 7) (dPcK S (nI i)).toNatClampNeg
def dWd (S : jS) (d : Int64) : Nat → Int64
  | 0 => d
  | i + 1 => mix (mix (dWd S d i) (tWord S (nI i) 0).toInt64) (tWord S (nI i) 1).toInt64
def dRn1 (S : jS) (r : Int32) (d : Int64) : Nat → Int64
  | 0 => d
  | k + 1 => mix (dRn1 S r d k) (mEnt S r (nI k)).toInt64
def dRn0 (S : jS) (r : Int32) (d : Int64) : Int64 := if mThere S r = true then mix d r.toInt64 else d
def dRn (S : jS) (d : Int64) : Nat → Int64
  | 0 => d
  | i + 1 => dRn1 S (nI i) (dRn0 S (nI i) (dRn S d i)) (mH S (nI i)).toNatClampNeg
def dPt1 (S : jS) (k : Int32) (d : Int64) : Nat → Int64
  | 0 => d
  | i + 1 => mix (dPt1 S k d i) (tPatch S k (nI i)).toInt64
def dPt (S : jS) (d : Int64) : Nat → Int64
  | 0 => d
  | i + 1 => dPt1 S (nI i) (dPt S d i) 4
def dFa (S : jS) (d : Int64) : Nat → Int64
  | 0 => d
  | i + 1 => mix (mix (dFa S d i) (tFault S (nI i) 0).toInt64) (tFault S (nI i) 1).toInt64
def dMn (S : jS) : Nat → Int64
  | 0 => 5737
  | i + 1 => mix (dMn S i) (tMany S (nI i)).toInt64
def dAll (S : jS) : Int64 := dPt S (dRn S (dWd S (dPc S (dSy S (dMn S 10) 16) (S.1 2).toNatClampNeg) 200) 4) (mNP S)
def dS1 (S : jS) : jS := lkTry S (S.1 0) (-1)
def dS2 (S : jS) : jS := lkTry (dS1 S) 5 (-1)
def dDig (S : jS) : Int64 := mix (dFa (dS1 S) (dAll S) ((dS1 S).1 3).toNatClampNeg) ((dS2 S).1 9).toInt64
set_option maxHeartbeats 4000000 in
theorem c_X7_isWithin (l : Launch) (D : va_G) (cA : ClassId) (ob ro ar : Nat → Nat) (S : jS) (a b : Int32) : jjFn l yX7_isWithin wsX7_isWithin 0 D cA [.int a, .int b] (jW cA ob ro ar S) (some (.int (bI (mWithin a b)))) (jW cA ob ro ar S) := by
  refine jjCon_of (own := RX7) (cc := cX7_isWithin) (nL := 2) (rt := (some .boolean)) (I := jI0) [some (.int a), some (.int b)] jm_X7_isWithin (by decide +kernel) rfl (fun _ _ _ _ _ => trivial) (Nat.le_of_ble_eq_true rfl) rfl ?_
  refine jj_iload_n (pc := 0) 0 dX7_isWithin_0 rfl rfl ?_
  refine jj_if_lt (pc := 1) 13 dX7_isWithin_1 (by decide) (fun h1 => ?_) (fun h1 => ?_)
  · refine jj_iconst (pc := 13) (v := 0) dX7_isWithin_13 rfl ?_
    refine jj_zret (pc := 14) rfl dX7_isWithin_14 ?_
    exact ⟨by rw [mWithin, decide_eq_false (fun z => absurd z.1 (by rw [Int32.not_le]; exact h1))]; rfl, rfl⟩
  · refine jj_iload_n (pc := 4) 0 dX7_isWithin_4 rfl rfl ?_
    refine jj_iload_n (pc := 5) 1 dX7_isWithin_5 rfl rfl ?_
    refine jj_icmp_ge (pc := 6) 13 dX7_isWithin_6 (by decide) (fun h6 => ?_) (fun h6 => ?_)
    · refine jj_iconst (pc := 13) (v := 0) dX7_isWithin_13 rfl ?_
      refine jj_zret (pc := 14) rfl dX7_isWithin_14 ?_
      exact ⟨by rw [mWithin, decide_eq_false (fun z => absurd z.2 (by rw [Int32.not_lt]; exact h6))]; rfl, rfl⟩
    · refine jj_iconst (pc := 9) (v := 1) dX7_isWithin_9 rfl ?_
      refine jj_goto (pc := 10) 14 dX7_isWithin_10 (by decide) ?_
      refine jj_zret (pc := 14) rfl dX7_isWithin_14 ?_
      exact ⟨by rw [mWithin, decide_eq_true ⟨by rw [Int32.not_lt] at h1; exact h1, (by rw [Int32.not_le] at h6; exact h6)⟩]; rfl, rfl⟩
set_option maxHeartbeats 4000000 in
theorem c_X7_isSymbol (l : Launch) (D : va_G) (cA : ClassId) (ob ro ar : Nat → Nat) (S : jS) (a : Int32) : jjFn l yX7_isSymbol wsX7_isSymbol 1 D cA [.int a] (jW cA ob ro ar S) (some (.int (bI (mSym a)))) (jW cA ob ro ar S) := by
  refine jjCon_of (own := RX7) (cc := cX7_isSymbol) (nL := 1) (rt := (some .boolean)) (I := jI0) [some (.int a)] jm_X7_isSymbol (by decide +kernel) rfl (fun _ _ _ _ _ => trivial) (Nat.le_of_ble_eq_true rfl) rfl ?_
  refine jj_iload_n (pc := 0) 0 dX7_isSymbol_0 rfl rfl ?_
  refine jj_bipush (pc := 1) (v := 16) dX7_isSymbol_1 rfl ?_
  refine jj_callSr (pc := 3) _ (c_X7_isWithin l D cA ob ro ar _ _ _) dX7_isSymbol_3 gX7_isSymbol_X7_isWithin jm_X7_isWithin (by decide) rfl rfl (Nat.le_of_ble_eq_true rfl) jz ?_
  refine jj_zret (pc := 6) (bI_n _) dX7_isSymbol_6 ?_
  exact ⟨rfl, rfl⟩
set_option maxHeartbeats 4000000 in
theorem c_X7_isPieceSize (l : Launch) (D : va_G) (cA : ClassId) (ob ro ar : Nat → Nat) (S : jS) (a : Int32) : jjFn l yX7_isPieceSize wsX7_isPieceSize 0 D cA [.int a] (jW cA ob ro ar S) (some (.int (bI (mSize a)))) (jW cA ob ro ar S) := by
  refine jjCon_of (own := RX7) (cc := cX7_isPieceSize) (nL := 1) (rt := (some .boolean)) (I := jI0) [some (.int a)] jm_X7_isPieceSize (by decide +kernel) rfl (fun _ _ _ _ _ => trivial) (Nat.le_of_ble_eq_true rfl) rfl ?_
  refine jj_iload_n (pc := 0) 0 dX7_isPieceSize_0 rfl rfl ?_
  refine jj_iconst (pc := 1) (v := 1) dX7_isPieceSize_1 rfl ?_
  refine jj_icmp_lt (pc := 2) 15 dX7_isPieceSize_2 (by decide) (fun h2 => ?_) (fun h2 => ?_)
  · refine jj_iconst (pc := 15) (v := 0) dX7_isPieceSize_15 rfl ?_
    refine jj_zret (pc := 16) rfl dX7_isPieceSize_16 ?_
    exact ⟨by rw [mSize, decide_eq_false (fun z => absurd z.1 (by rw [Int32.not_le]; exact h2))]; rfl, rfl⟩
  · refine jj_iload_n (pc := 5) 0 dX7_isPieceSize_5 rfl rfl ?_
    refine jj_bipush (pc := 6) (v := 20) dX7_isPieceSize_6 rfl ?_
    refine jj_icmp_gt (pc := 8) 15 dX7_isPieceSize_8 (by decide) (fun h8 => ?_) (fun h8 => ?_)
    · refine jj_iconst (pc := 15) (v := 0) dX7_isPieceSize_15 rfl ?_
      refine jj_zret (pc := 16) rfl dX7_isPieceSize_16 ?_
      exact ⟨by rw [mSize, decide_eq_false (fun z => absurd z.2 (by rw [Int32.not_le]; exact h8))]; rfl, rfl⟩
    · refine jj_iconst (pc := 11) (v := 1) dX7_isPieceSize_11 rfl ?_
      refine jj_goto (pc := 12) 16 dX7_isPieceSize_12 (by decide) ?_
      refine jj_zret (pc := 16) rfl dX7_isPieceSize_16 ?_
      exact ⟨by rw [mSize, decide_eq_true ⟨by rw [Int32.not_lt] at h2; exact h2, (by rw [Int32.not_lt] at h8; exact h8)⟩]; rfl, rfl⟩
set_option maxHeartbeats 4000000 in
theorem c_X7_isReach (l : Launch) (D : va_G) (cA : ClassId) (ob ro ar : Nat → Nat) (S : jS) (a : Int32) : jjFn l yX7_isReach wsX7_isReach 0 D cA [.int a] (jW cA ob ro ar S) (some (.int (bI (mRch a)))) (jW cA ob ro ar S) := by
  refine jjCon_of (own := RX7) (cc := cX7_isReach) (nL := 1) (rt := (some .boolean)) (I := jI0) [some (.int a)] jm_X7_isReach (by decide +kernel) rfl (fun _ _ _ _ _ => trivial) (Nat.le_of_ble_eq_true rfl) rfl ?_
  refine jj_iload_n (pc := 0) 0 dX7_isReach_0 rfl rfl ?_
  refine jj_iconst (pc := 1) (v := 5) dX7_isReach_1 rfl ?_
  refine jj_icmp_lt (pc := 2) 15 dX7_isReach_2 (by decide) (fun h2 => ?_) (fun h2 => ?_)
  · refine jj_iconst (pc := 15) (v := 0) dX7_isReach_15 rfl ?_
    refine jj_zret (pc := 16) rfl dX7_isReach_16 ?_
    exact ⟨by rw [mRch, decide_eq_false (fun z => absurd z.1 (by rw [Int32.not_le]; exact h2))]; rfl, rfl⟩
  · refine jj_iload_n (pc := 5) 0 dX7_isReach_5 rfl rfl ?_
    refine jj_bipush (pc := 6) (v := 100) dX7_isReach_6 rfl ?_
    refine jj_icmp_gt (pc := 8) 15 dX7_isReach_8 (by decide) (fun h8 => ?_) (fun h8 => ?_)
    · refine jj_iconst (pc := 15) (v := 0) dX7_isReach_15 rfl ?_
      refine jj_zret (pc := 16) rfl dX7_isReach_16 ?_
      exact ⟨by rw [mRch, decide_eq_false (fun z => absurd z.2 (by rw [Int32.not_le]; exact h8))]; rfl, rfl⟩
    · refine jj_iconst (pc := 11) (v := 1) dX7_isReach_11 rfl ?_
      refine jj_goto (pc := 12) 16 dX7_isReach_12 (by decide) ?_
      refine jj_zret (pc := 16) rfl dX7_isReach_16 ?_
      exact ⟨by rw [mRch, decide_eq_true ⟨by rw [Int32.not_lt] at h2; exact h2, (by rw [Int32.not_lt] at h8; exact h8)⟩]; rfl, rfl⟩
set_option maxHeartbeats 4000000 in
theorem c_X7_isStanding (l : Launch) (D : va_G) (cA : ClassId) (ob ro ar : Nat → Nat) (S : jS) (y : Int32) : jjFn l yX7_isStanding wsX7_isStanding 1 D cA [.ref (ob 0), .int y] (jW cA ob ro ar S) (some (.int (bI (mStd S y)))) (jW cA ob ro ar S) := by
  refine jjCon_of (own := RX7) (cc := cX7_isStanding) (nL := 2) (rt := (some .boolean)) (I := jI0) [some (.ref (ob 0)), some (.int y)] jm_X7_isStanding (by decide +kernel) rfl (fun _ _ _ _ _ => trivial) (Nat.le_of_ble_eq_true rfl) rfl ?_
  refine jj_aload_n (pc := 0) 0 dX7_isStanding_0 rfl rfl ?_
  refine jj_g_0_2 (pc := 1) dX7_isStanding_1 fd_X7_isStanding_26 ?_
  refine jj_g_3_1 (pc := 4) dX7_isStanding_4 fd_X7_isStanding_116 ?_
  refine jj_g_8_3 (pc := 7) dX7_isStanding_7 fd_X7_isStanding_205 ?_
  refine jj_iload_n (pc := 10) 1 dX7_isStanding_10 rfl rfl ?_
  refine jj_rget (pc := 11) (r := 17) (by decide) dX7_isStanding_11 gX7_isStanding_X4_get (by decide) (Nat.le_of_ble_eq_true rfl) jz ?_
  refine jj_iconst (pc := 14) (v := (-1)) dX7_isStanding_14 rfl ?_
  refine jj_icmp_eq (pc := 15) 22 dX7_isStanding_15 (by decide) (fun h15 => ?_) (fun h15 => ?_)
  · refine jj_iconst (pc := 22) (v := 0) dX7_isStanding_22 rfl ?_
    refine jj_zret (pc := 23) rfl dX7_isStanding_23 ?_
    exact ⟨by rw [mStd, show decide (mStand S 1 y ≠ -1) = false from decide_eq_false (fun z => z h15)]; rfl, rfl⟩
  · refine jj_iconst (pc := 18) (v := 1) dX7_isStanding_18 rfl ?_
    refine jj_goto (pc := 19) 23 dX7_isStanding_19 (by decide) ?_
    refine jj_zret (pc := 23) rfl dX7_isStanding_23 ?_
    exact ⟨by rw [mStd, show decide (mStand S 1 y ≠ -1) = true from decide_eq_true h15]; rfl, rfl⟩
set_option maxHeartbeats 4000000 in
theorem c_X7_isHeld (l : Launch) (D : va_G) (cA : ClassId) (ob ro ar : Nat → Nat) (S : jS) (y : Int32) : jjFn l yX7_isHeld wsX7_isHeld 3 D cA [.ref (ob 0), .int y] (jW cA ob ro ar S) (some (.int (bI (mHeld S y)))) (jW cA ob ro ar S) := by
  refine jjCon_of (own := RX7) (cc := cX7_isHeld) (nL := 2) (rt := (some .boolean)) (I := jI0) [some (.ref (ob 0)), some (.int y)] jm_X7_isHeld (by decide +kernel) rfl (fun _ _ _ _ _ => trivial) (Nat.le_of_ble_eq_true rfl) rfl ?_
  refine jj_aload_n (pc := 0) 0 dX7_isHeld_0 rfl rfl ?_
  refine jj_g_0_6 (pc := 1) dX7_isHeld_1 fd_X7_isHeld_52 ?_
  refine jj_iload_n (pc := 4) 1 dX7_isHeld_4 rfl rfl ?_
  refine jj_rget (pc := 5) (r := 0) (by decide) dX7_isHeld_5 gX7_isHeld_X4_get (by decide) (Nat.le_of_ble_eq_true rfl) jz ?_
  refine jj_iconst (pc := 8) (v := 1) dX7_isHeld_8 rfl ?_
  refine jj_icmp_ne (pc := 9) 31 dX7_isHeld_9 (by decide) (fun h9 => ?_) (fun h9 => ?_)
  · refine jj_iconst (pc := 31) (v := 0) dX7_isHeld_31 rfl ?_
    refine jj_zret (pc := 32) rfl dX7_isHeld_32 ?_
    exact ⟨by rw [mHeld, decide_eq_false h9]; rfl, rfl⟩
  · refine jj_aload_n (pc := 12) 0 dX7_isHeld_12 rfl rfl ?_
    refine jj_g_0_5 (pc := 13) dX7_isHeld_13 fd_X7_isHeld_43 ?_
    refine jj_aload_n (pc := 16) 0 dX7_isHeld_16 rfl rfl ?_
    refine jj_g_0_0 (pc := 17) dX7_isHeld_17 fd_X7_isHeld_12 ?_
    refine jj_iload_n (pc := 20) 1 dX7_isHeld_20 rfl rfl ?_
    refine jj_callVr (pc := 21) _ (c_X3_waitingFor l D cA ob ro ar _ _) dX7_isHeld_21 gX7_isHeld_X3_waitingFor jm_X3_waitingFor rfl (by decide) 6 jq_6 rfl rfl rfl (Nat.le_of_ble_eq_true rfl) jz ?_
    refine jj_if_le (pc := 24) 31 dX7_isHeld_24 (by decide) (fun h24 => ?_) (fun h24 => ?_)
    · refine jj_iconst (pc := 31) (v := 0) dX7_isHeld_31 rfl ?_
      refine jj_zret (pc := 32) rfl dX7_isHeld_32 ?_
      exact ⟨by rw [mHeld, decide_eq_true h9, decide_eq_false (by rw [Int32.not_lt]; exact h24)]; rfl, rfl⟩
    · refine jj_iconst (pc := 27) (v := 1) dX7_isHeld_27 rfl ?_
      refine jj_goto (pc := 28) 32 dX7_isHeld_28 (by decide) ?_
      refine jj_zret (pc := 32) rfl dX7_isHeld_32 ?_
      exact ⟨by rw [mHeld, decide_eq_true h9, decide_eq_true (by rw [Int32.not_le] at h24; exact h24)]; rfl, rfl⟩
set_option maxHeartbeats 4000000 in
theorem c_X7_tellFault (l : Launch) (D : va_G) (cA : ClassId) (ob ro ar : Nat → Nat) (S : jS) (k w : Int32) : jjFn l yX7_tellFault wsX7_tellFault 1 D cA [.ref (ob 0), .int k, .int w] (jW cA ob ro ar S) (some (.int (tFault S k w))) (jW cA ob ro ar S) := by
  refine jjCon_of (own := RX7) (cc := cX7_tellFault) (nL := 3) (rt := (some .int)) (I := jI0) [some (.ref (ob 0)), some (.int k), some (.int w)] jm_X7_tellFault (by decide +kernel) rfl (fun _ _ _ _ _ => trivial) (Nat.le_of_ble_eq_true rfl) rfl ?_
  refine jj_iload_n (pc := 0) 2 dX7_tellFault_0 rfl rfl ?_
  refine jj_if_ne (pc := 1) 18 dX7_tellFault_1 (by decide) (fun h1 => ?_) (fun h1 => ?_)
  · refine jj_aload_n (pc := 18) 0 dX7_tellFault_18 rfl rfl ?_
    refine jj_g_0_1 (pc := 19) dX7_tellFault_19 fd_X7_tellFault_19 ?_
    refine jj_g_2_2 (pc := 22) dX7_tellFault_22 fd_X7_tellFault_317 ?_
    refine jj_iload_n (pc := 25) 1 dX7_tellFault_25 rfl rfl ?_
    refine jj_rget (pc := 26) (r := 10) (by decide) dX7_tellFault_26 gX7_tellFault_X4_get (by decide) (Nat.le_of_ble_eq_true rfl) jz ?_
    refine jj_iret (pc := 29) dX7_tellFault_29 ?_
    exact ⟨by rw [tFault, if_neg h1], rfl⟩
  · refine jj_aload_n (pc := 4) 0 dX7_tellFault_4 rfl rfl ?_
    refine jj_g_0_1 (pc := 5) dX7_tellFault_5 fd_X7_tellFault_19 ?_
    refine jj_g_2_1 (pc := 8) dX7_tellFault_8 fd_X7_tellFault_314 ?_
    refine jj_iload_n (pc := 11) 1 dX7_tellFault_11 rfl rfl ?_
    refine jj_rget (pc := 12) (r := 9) (by decide) dX7_tellFault_12 gX7_tellFault_X4_get (by decide) (Nat.le_of_ble_eq_true rfl) jz ?_
    refine jj_goto (pc := 15) 29 dX7_tellFault_15 (by decide) ?_
    refine jj_iret (pc := 29) dX7_tellFault_29 ?_
    exact ⟨by rw [tFault, if_pos h1], rfl⟩
set_option maxHeartbeats 4000000 in
theorem c_X7_tellWord (l : Launch) (D : va_G) (cA : ClassId) (ob ro ar : Nat → Nat) (S : jS) (k w : Int32) : jjFn l yX7_tellWord wsX7_tellWord 1 D cA [.ref (ob 0), .int k, .int w] (jW cA ob ro ar S) (some (.int (tWord S k w))) (jW cA ob ro ar S) := by
  refine jjCon_of (own := RX7) (cc := cX7_tellWord) (nL := 3) (rt := (some .int)) (I := jI0) [some (.ref (ob 0)), some (.int k), some (.int w)] jm_X7_tellWord (by decide +kernel) rfl (fun _ _ _ _ _ => trivial) (Nat.le_of_ble_eq_true rfl) rfl ?_
  refine jj_iload_n (pc := 0) 2 dX7_tellWord_0 rfl rfl ?_
  refine jj_if_ne (pc := 1) 18 dX7_tellWord_1 (by decide) (fun h1 => ?_) (fun h1 => ?_)
  · refine jj_aload_n (pc := 18) 0 dX7_tellWord_18 rfl rfl ?_
    refine jj_g_0_2 (pc := 19) dX7_tellWord_19 fd_X7_tellWord_26 ?_
    refine jj_g_3_3 (pc := 22) dX7_tellWord_22 fd_X7_tellWord_350 ?_
    refine jj_iload_n (pc := 25) 1 dX7_tellWord_25 rfl rfl ?_
    refine jj_rget (pc := 26) (r := 24) (by decide) dX7_tellWord_26 gX7_tellWord_X4_get (by decide) (Nat.le_of_ble_eq_true rfl) jz ?_
    refine jj_iret (pc := 29) dX7_tellWord_29 ?_
    exact ⟨by rw [tWord, if_neg h1], rfl⟩
  · refine jj_aload_n (pc := 4) 0 dX7_tellWord_4 rfl rfl ?_
    refine jj_g_0_2 (pc := 5) dX7_tellWord_5 fd_X7_tellWord_26 ?_
    refine jj_g_3_2 (pc := 8) dX7_tellWord_8 fd_X7_tellWord_347 ?_
    refine jj_iload_n (pc := 11) 1 dX7_tellWord_11 rfl rfl ?_
    refine jj_rget (pc := 12) (r := 23) (by decide) dX7_tellWord_12 gX7_tellWord_X4_get (by decide) (Nat.le_of_ble_eq_true rfl) jz ?_
    refine jj_goto (pc := 15) 29 dX7_tellWord_15 (by decide) ?_
    refine jj_iret (pc := 29) dX7_tellWord_29 ?_
    exact ⟨by rw [tWord, if_pos h1], rfl⟩
set_option maxHeartbeats 4000000 in
theorem c_X7_tellSymbol (l : Launch) (D : va_G) (cA : ClassId) (ob ro ar : Nat → Nat) (S : jS) (k w : Int32) : jjFn l yX7_tellSymbol wsX7_tellSymbol 3 D cA [.ref (ob 0), .int k, .int w] (jW cA ob ro ar S) (some (.int (tSymbol S k w))) (jW cA ob ro ar S) := by
  refine jjCon_of (own := RX7) (cc := cX7_tellSymbol) (nL := 3) (rt := (some .int)) (I := jI0) [some (.ref (ob 0)), some (.int k), some (.int w)] jm_X7_tellSymbol (by decide +kernel) rfl (fun _ _ _ _ _ => trivial) (Nat.le_of_ble_eq_true rfl) rfl ?_
  refine jj_iload_n (pc := 0) 2 dX7_tellSymbol_0 rfl rfl ?_
  by_cases hw0 : w = 0
  · subst hw0
    refine jj_tabIn (pc := 1) 28 dX7_tellSymbol_1 (by decide) (by decide) rfl (by decide) ?_
    refine jj_aload_n (pc := 28) 0 dX7_tellSymbol_28 rfl rfl ?_
    refine jj_g_0_2 (pc := 29) dX7_tellSymbol_29 fd_X7_tellSymbol_26 ?_
    refine jj_g_3_1 (pc := 32) dX7_tellSymbol_32 fd_X7_tellSymbol_116 ?_
    refine jj_g_8_3 (pc := 35) dX7_tellSymbol_35 fd_X7_tellSymbol_205 ?_
    refine jj_iload_n (pc := 38) 1 dX7_tellSymbol_38 rfl rfl ?_
    refine jj_rget (pc := 39) (r := 17) (by decide) dX7_tellSymbol_39 gX7_tellSymbol_X4_get (by decide) (Nat.le_of_ble_eq_true rfl) jz ?_
    refine jj_iret (pc := 42) dX7_tellSymbol_42 ?_
    exact ⟨rfl, rfl⟩
  · by_cases hw1 : w = 1
    · subst hw1
      refine jj_tabIn (pc := 1) 43 dX7_tellSymbol_1 (by decide) (by decide) rfl (by decide) ?_
      refine jj_aload_n (pc := 43) 0 dX7_tellSymbol_43 rfl rfl ?_
      refine jj_g_0_2 (pc := 44) dX7_tellSymbol_44 fd_X7_tellSymbol_26 ?_
      refine jj_g_3_1 (pc := 47) dX7_tellSymbol_47 fd_X7_tellSymbol_116 ?_
      refine jj_iload_n (pc := 50) 1 dX7_tellSymbol_50 rfl rfl ?_
      refine jj_callVr (pc := 51) _ (c_X1_placeOfSymbol l D cA ob ro ar _ (j := 1) (by decide) _) dX7_tellSymbol_51 gX7_tellSymbol_X1_placeOfSymbol jm_X1_placeOfSymbol rfl (by decide) 8 jq_8 rfl rfl rfl (Nat.le_of_ble_eq_true rfl) jz ?_
      refine jj_iret (pc := 54) dX7_tellSymbol_54 ?_
      exact ⟨rfl, rfl⟩
    · by_cases hw2 : w = 2
      · subst hw2
        refine jj_tabIn (pc := 1) 55 dX7_tellSymbol_1 (by decide) (by decide) rfl (by decide) ?_
        refine jj_aload_n (pc := 55) 0 dX7_tellSymbol_55 rfl rfl ?_
        refine jj_g_0_2 (pc := 56) dX7_tellSymbol_56 fd_X7_tellSymbol_26 ?_
        refine jj_g_3_4 (pc := 59) dX7_tellSymbol_59 fd_X7_tellSymbol_323 ?_
        refine jj_iload_n (pc := 62) 1 dX7_tellSymbol_62 rfl rfl ?_
        refine jj_rget (pc := 63) (r := 25) (by decide) dX7_tellSymbol_63 gX7_tellSymbol_X4_get (by decide) (Nat.le_of_ble_eq_true rfl) jz ?_
        refine jj_iret (pc := 66) dX7_tellSymbol_66 ?_
        exact ⟨rfl, rfl⟩
      · refine jj_tabOut (pc := 1) 67 dX7_tellSymbol_1 (jsw_out (n := 2) (by decide) (fun z hz => by rcases (by omega : z = 0 ∨ z = 1 ∨ z = 2) with rfl | rfl | rfl <;> first | exact hw0 | exact hw1 | exact hw2)) (by decide) ?_
        refine jj_aload_n (pc := 67) 0 dX7_tellSymbol_67 rfl rfl ?_
        refine jj_g_0_5 (pc := 68) dX7_tellSymbol_68 fd_X7_tellSymbol_43 ?_
        refine jj_aload_n (pc := 71) 0 dX7_tellSymbol_71 rfl rfl ?_
        refine jj_g_0_0 (pc := 72) dX7_tellSymbol_72 fd_X7_tellSymbol_12 ?_
        refine jj_iload_n (pc := 75) 1 dX7_tellSymbol_75 rfl rfl ?_
        refine jj_callVr (pc := 76) _ (c_X3_waitingFor l D cA ob ro ar _ _) dX7_tellSymbol_76 gX7_tellSymbol_X3_waitingFor jm_X3_waitingFor rfl (by decide) 6 jq_6 rfl rfl rfl (Nat.le_of_ble_eq_true rfl) jz ?_
        refine jj_iret (pc := 79) dX7_tellSymbol_79 ?_
        exact ⟨by rw [tSymbol, if_neg hw0, if_neg hw1, if_neg hw2], rfl⟩
set_option maxHeartbeats 4000000 in
theorem c_X7_tellPiece (l : Launch) (D : va_G) (cA : ClassId) (ob ro ar : Nat → Nat) (S : jS) (k w : Int32) : jjFn l yX7_tellPiece wsX7_tellPiece 3 D cA [.ref (ob 0), .int k, .int w] (jW cA ob ro ar S) (some (.int (tPiece S k w))) (jW cA ob ro ar S) := by
  refine jjCon_of (own := RX7) (cc := cX7_tellPiece) (nL := 3) (rt := (some .int)) (I := jI0) [some (.ref (ob 0)), some (.int k), some (.int w)] jm_X7_tellPiece (by decide +kernel) rfl (fun _ _ _ _ _ => trivial) (Nat.le_of_ble_eq_true rfl) rfl ?_
  refine jj_iload_n (pc := 0) 2 dX7_tellPiece_0 rfl rfl ?_
  by_cases hw0 : w = 0
  · subst hw0
    refine jj_tabIn (pc := 1) 40 dX7_tellPiece_1 (by decide) (by decide) rfl (by decide) ?_
    refine jj_aload_n (pc := 40) 0 dX7_tellPiece_40 rfl rfl ?_
    refine jj_g_0_0 (pc := 41) dX7_tellPiece_41 fd_X7_tellPiece_12 ?_
    refine jj_g_1_2 (pc := 44) dX7_tellPiece_44 fd_X7_tellPiece_326 ?_
    refine jj_iload_n (pc := 47) 1 dX7_tellPiece_47 rfl rfl ?_
    refine jj_rget (pc := 48) (r := 2) (by decide) dX7_tellPiece_48 gX7_tellPiece_X4_get (by decide) (Nat.le_of_ble_eq_true rfl) jz ?_
    refine jj_iret (pc := 51) dX7_tellPiece_51 ?_
    exact ⟨rfl, rfl⟩
  · by_cases hw1 : w = 1
    · subst hw1
      refine jj_tabIn (pc := 1) 52 dX7_tellPiece_1 (by decide) (by decide) rfl (by decide) ?_
      refine jj_aload_n (pc := 52) 0 dX7_tellPiece_52 rfl rfl ?_
      refine jj_g_0_0 (pc := 53) dX7_tellPiece_53 fd_X7_tellPiece_12 ?_
      refine jj_g_1_3 (pc := 56) dX7_tellPiece_56 fd_X7_tellPiece_266 ?_
      refine jj_iload_n (pc := 59) 1 dX7_tellPiece_59 rfl rfl ?_
      refine jj_rget (pc := 60) (r := 3) (by decide) dX7_tellPiece_60 gX7_tellPiece_X4_get (by decide) (Nat.le_of_ble_eq_true rfl) jz ?_
      refine jj_iret (pc := 63) dX7_tellPiece_63 ?_
      exact ⟨rfl, rfl⟩
    · by_cases hw2 : w = 2
      · subst hw2
        refine jj_tabIn (pc := 1) 64 dX7_tellPiece_1 (by decide) (by decide) rfl (by decide) ?_
        refine jj_aload_n (pc := 64) 0 dX7_tellPiece_64 rfl rfl ?_
        refine jj_g_0_0 (pc := 65) dX7_tellPiece_65 fd_X7_tellPiece_12 ?_
        refine jj_g_1_4 (pc := 68) dX7_tellPiece_68 fd_X7_tellPiece_329 ?_
        refine jj_iload_n (pc := 71) 1 dX7_tellPiece_71 rfl rfl ?_
        refine jj_rget (pc := 72) (r := 4) (by decide) dX7_tellPiece_72 gX7_tellPiece_X4_get (by decide) (Nat.le_of_ble_eq_true rfl) jz ?_
        refine jj_iret (pc := 75) dX7_tellPiece_75 ?_
        exact ⟨rfl, rfl⟩
      · by_cases hw3 : w = 3
        · subst hw3
          refine jj_tabIn (pc := 1) 76 dX7_tellPiece_1 (by decide) (by decide) rfl (by decide) ?_
          refine jj_aload_n (pc := 76) 0 dX7_tellPiece_76 rfl rfl ?_
          refine jj_g_0_0 (pc := 77) dX7_tellPiece_77 fd_X7_tellPiece_12 ?_
          refine jj_g_1_5 (pc := 80) dX7_tellPiece_80 fd_X7_tellPiece_332 ?_
          refine jj_iload_n (pc := 83) 1 dX7_tellPiece_83 rfl rfl ?_
          refine jj_rget (pc := 84) (r := 5) (by decide) dX7_tellPiece_84 gX7_tellPiece_X4_get (by decide) (Nat.le_of_ble_eq_true rfl) jz ?_
          refine jj_iret (pc := 87) dX7_tellPiece_87 ?_
          exact ⟨rfl, rfl⟩
        · by_cases hw4 : w = 4
          · subst hw4
            refine jj_tabIn (pc := 1) 88 dX7_tellPiece_1 (by decide) (by decide) rfl (by decide) ?_
            refine jj_aload_n (pc := 88) 0 dX7_tellPiece_88 rfl rfl ?_
            refine jj_g_0_0 (pc := 89) dX7_tellPiece_89 fd_X7_tellPiece_12 ?_
            refine jj_g_1_6 (pc := 92) dX7_tellPiece_92 fd_X7_tellPiece_106 ?_
            refine jj_iload_n (pc := 95) 1 dX7_tellPiece_95 rfl rfl ?_
            refine jj_rget (pc := 96) (r := 6) (by decide) dX7_tellPiece_96 gX7_tellPiece_X4_get (by decide) (Nat.le_of_ble_eq_true rfl) jz ?_
            refine jj_iret (pc := 99) dX7_tellPiece_99 ?_
            exact ⟨rfl, rfl⟩
          · by_cases hw5 : w = 5
            · subst hw5
              refine jj_tabIn (pc := 1) 100 dX7_tellPiece_1 (by decide) (by decide) rfl (by decide) ?_
              refine jj_aload_n (pc := 100) 0 dX7_tellPiece_100 rfl rfl ?_
              refine jj_g_0_2 (pc := 101) dX7_tellPiece_101 fd_X7_tellPiece_26 ?_
              refine jj_g_3_1 (pc := 104) dX7_tellPiece_104 fd_X7_tellPiece_116 ?_
              refine jj_g_8_4 (pc := 107) dX7_tellPiece_107 fd_X7_tellPiece_335 ?_
              refine jj_iload_n (pc := 110) 1 dX7_tellPiece_110 rfl rfl ?_
              refine jj_rget (pc := 111) (r := 18) (by decide) dX7_tellPiece_111 gX7_tellPiece_X4_get (by decide) (Nat.le_of_ble_eq_true rfl) jz ?_
              refine jj_iret (pc := 114) dX7_tellPiece_114 ?_
              exact ⟨rfl, rfl⟩
            · refine jj_tabOut (pc := 1) 115 dX7_tellPiece_1 (jsw_out (n := 5) (by decide) (fun z hz => by rcases (by omega : z = 0 ∨ z = 1 ∨ z = 2 ∨ z = 3 ∨ z = 4 ∨ z = 5) with rfl | rfl | rfl | rfl | rfl | rfl <;> first | exact hw0 | exact hw1 | exact hw2 | exact hw3 | exact hw4 | exact hw5)) (by decide) ?_
              refine jj_aload_n (pc := 115) 0 dX7_tellPiece_115 rfl rfl ?_
              refine jj_g_0_4 (pc := 116) dX7_tellPiece_116 fd_X7_tellPiece_36 ?_
              refine jj_iload_n (pc := 119) 1 dX7_tellPiece_119 rfl rfl ?_
              refine jj_callVr (pc := 120) _ (c_X5_runsWith l D cA ob ro ar _ _) dX7_tellPiece_120 gX7_tellPiece_X5_runsWith jm_X5_runsWith rfl (by decide) 5 jq_5 rfl rfl rfl (Nat.le_of_ble_eq_true rfl) jz ?_
              refine jj_iret (pc := 123) dX7_tellPiece_123 ?_
              exact ⟨by rw [tPiece, if_neg hw0, if_neg hw1, if_neg hw2, if_neg hw3, if_neg hw4, if_neg hw5], rfl⟩
set_option maxHeartbeats 4000000 in
theorem c_X7_tellPatch (l : Launch) (D : va_G) (cA : ClassId) (ob ro ar : Nat → Nat) (S : jS) (k w : Int32) : jjFn l yX7_tellPatch wsX7_tellPatch 1 D cA [.ref (ob 0), .int k, .int w] (jW cA ob ro ar S) (some (.int (tPatch S k w))) (jW cA ob ro ar S) := by
  refine jjCon_of (own := RX7) (cc := cX7_tellPatch) (nL := 3) (rt := (some .int)) (I := jI0) [some (.ref (ob 0)), some (.int k), some (.int w)] jm_X7_tellPatch (by decide +kernel) rfl (fun _ _ _ _ _ => trivial) (Nat.le_of_ble_eq_true rfl) rfl ?_
  refine jj_iload_n (pc := 0) 2 dX7_tellPatch_0 rfl rfl ?_
  by_cases hw0 : w = 0
  · subst hw0
    refine jj_tabIn (pc := 1) 28 dX7_tellPatch_1 (by decide) (by decide) rfl (by decide) ?_
    refine jj_aload_n (pc := 28) 0 dX7_tellPatch_28 rfl rfl ?_
    refine jj_g_0_0 (pc := 29) dX7_tellPatch_29 fd_X7_tellPatch_12 ?_
    refine jj_g_1_3 (pc := 32) dX7_tellPatch_32 fd_X7_tellPatch_266 ?_
    refine jj_aload_n (pc := 35) 0 dX7_tellPatch_35 rfl rfl ?_
    refine jj_g_0_5 (pc := 36) dX7_tellPatch_36 fd_X7_tellPatch_43 ?_
    refine jj_g_6_0 (pc := 39) dX7_tellPatch_39 fd_X7_tellPatch_269 ?_
    refine jj_iload_n (pc := 42) 1 dX7_tellPatch_42 rfl rfl ?_
    refine jj_rget (pc := 43) (r := 31) (by decide) dX7_tellPatch_43 gX7_tellPatch_X4_get (by decide) (Nat.le_of_ble_eq_true rfl) jz ?_
    refine jj_rget (pc := 46) (r := 3) (by decide) dX7_tellPatch_46 gX7_tellPatch_X4_get (by decide) (Nat.le_of_ble_eq_true rfl) jz ?_
    refine jj_iret (pc := 49) dX7_tellPatch_49 ?_
    exact ⟨rfl, rfl⟩
  · by_cases hw1 : w = 1
    · subst hw1
      refine jj_tabIn (pc := 1) 50 dX7_tellPatch_1 (by decide) (by decide) rfl (by decide) ?_
      refine jj_aload_n (pc := 50) 0 dX7_tellPatch_50 rfl rfl ?_
      refine jj_g_0_5 (pc := 51) dX7_tellPatch_51 fd_X7_tellPatch_43 ?_
      refine jj_g_6_0 (pc := 54) dX7_tellPatch_54 fd_X7_tellPatch_269 ?_
      refine jj_iload_n (pc := 57) 1 dX7_tellPatch_57 rfl rfl ?_
      refine jj_rget (pc := 58) (r := 31) (by decide) dX7_tellPatch_58 gX7_tellPatch_X4_get (by decide) (Nat.le_of_ble_eq_true rfl) jz ?_
      refine jj_iret (pc := 61) dX7_tellPatch_61 ?_
      exact ⟨rfl, rfl⟩
    · by_cases hw2 : w = 2
      · subst hw2
        refine jj_tabIn (pc := 1) 62 dX7_tellPatch_1 (by decide) (by decide) rfl (by decide) ?_
        refine jj_aload_n (pc := 62) 0 dX7_tellPatch_62 rfl rfl ?_
        refine jj_g_0_5 (pc := 63) dX7_tellPatch_63 fd_X7_tellPatch_43 ?_
        refine jj_g_6_1 (pc := 66) dX7_tellPatch_66 fd_X7_tellPatch_364 ?_
        refine jj_iload_n (pc := 69) 1 dX7_tellPatch_69 rfl rfl ?_
        refine jj_rget (pc := 70) (r := 32) (by decide) dX7_tellPatch_70 gX7_tellPatch_X4_get (by decide) (Nat.le_of_ble_eq_true rfl) jz ?_
        refine jj_iret (pc := 73) dX7_tellPatch_73 ?_
        exact ⟨rfl, rfl⟩
      · refine jj_tabOut (pc := 1) 74 dX7_tellPatch_1 (jsw_out (n := 2) (by decide) (fun z hz => by rcases (by omega : z = 0 ∨ z = 1 ∨ z = 2) with rfl | rfl | rfl <;> first | exact hw0 | exact hw1 | exact hw2)) (by decide) ?_
        refine jj_aload_n (pc := 74) 0 dX7_tellPatch_74 rfl rfl ?_
        refine jj_g_0_5 (pc := 75) dX7_tellPatch_75 fd_X7_tellPatch_43 ?_
        refine jj_g_6_2 (pc := 78) dX7_tellPatch_78 fd_X7_tellPatch_367 ?_
        refine jj_iload_n (pc := 81) 1 dX7_tellPatch_81 rfl rfl ?_
        refine jj_rget (pc := 82) (r := 33) (by decide) dX7_tellPatch_82 gX7_tellPatch_X4_get (by decide) (Nat.le_of_ble_eq_true rfl) jz ?_
        refine jj_iret (pc := 85) dX7_tellPatch_85 ?_
        exact ⟨by rw [tPatch, if_neg hw0, if_neg hw1, if_neg hw2], rfl⟩
set_option maxHeartbeats 4000000 in
theorem c_X7_tellMany (l : Launch) (D : va_G) (cA : ClassId) (ob ro ar : Nat → Nat) (S : jS) (w : Int32) : jjFn l yX7_tellMany wsX7_tellMany 3 D cA [.ref (ob 0), .int w] (jW cA ob ro ar S) (some (.int (tMany S w))) (jW cA ob ro ar S) := by
  refine jjCon_of (own := RX7) (cc := cX7_tellMany) (nL := 2) (rt := (some .int)) (I := jI0) [some (.ref (ob 0)), some (.int w)] jm_X7_tellMany (by decide +kernel) rfl (fun _ _ _ _ _ => trivial) (Nat.le_of_ble_eq_true rfl) rfl ?_
  refine jj_iload_n (pc := 0) 1 dX7_tellMany_0 rfl rfl ?_
  by_cases hw0 : w = 0
  · subst hw0
    refine jj_tabIn (pc := 1) 52 dX7_tellMany_1 (by decide) (by decide) rfl (by decide) ?_
    refine jj_aload_n (pc := 52) 0 dX7_tellMany_52 rfl rfl ?_
    refine jj_g_0_0 (pc := 53) dX7_tellMany_53 fd_X7_tellMany_12 ?_
    refine jj_g_1_1 (pc := 56) dX7_tellMany_56 fd_X7_tellMany_60 ?_
    refine jj_iret (pc := 59) dX7_tellMany_59 ?_
    exact ⟨rfl, rfl⟩
  · by_cases hw1 : w = 1
    · subst hw1
      refine jj_tabIn (pc := 1) 60 dX7_tellMany_1 (by decide) (by decide) rfl (by decide) ?_
      refine jj_aload_n (pc := 60) 0 dX7_tellMany_60 rfl rfl ?_
      refine jj_g_0_0 (pc := 61) dX7_tellMany_61 fd_X7_tellMany_12 ?_
      refine jj_g_1_9 (pc := 64) dX7_tellMany_64 fd_X7_tellMany_95 ?_
      refine jj_iret (pc := 67) dX7_tellMany_67 ?_
      exact ⟨rfl, rfl⟩
    · by_cases hw2 : w = 2
      · subst hw2
        refine jj_tabIn (pc := 1) 68 dX7_tellMany_1 (by decide) (by decide) rfl (by decide) ?_
        refine jj_aload_n (pc := 68) 0 dX7_tellMany_68 rfl rfl ?_
        refine jj_g_0_2 (pc := 69) dX7_tellMany_69 fd_X7_tellMany_26 ?_
        refine jj_g_3_1 (pc := 72) dX7_tellMany_72 fd_X7_tellMany_116 ?_
        refine jj_g_8_1 (pc := 75) dX7_tellMany_75 fd_X7_tellMany_353 ?_
        refine jj_iret (pc := 78) dX7_tellMany_78 ?_
        exact ⟨rfl, rfl⟩
      · by_cases hw3 : w = 3
        · subst hw3
          refine jj_tabIn (pc := 1) 79 dX7_tellMany_1 (by decide) (by decide) rfl (by decide) ?_
          refine jj_sipush (pc := 79) (v := 200) dX7_tellMany_79 rfl ?_
          refine jj_aload_n (pc := 82) 0 dX7_tellMany_82 rfl rfl ?_
          refine jj_g_0_2 (pc := 83) dX7_tellMany_83 fd_X7_tellMany_26 ?_
          refine jj_g_3_2 (pc := 86) dX7_tellMany_86 fd_X7_tellMany_347 ?_
          refine jj_iconst (pc := 89) (v := 0) dX7_tellMany_89 rfl ?_
          refine jj_rcnt (pc := 90) (r := 23) (by decide) dX7_tellMany_90 gX7_tellMany_X4_count (by decide) (Nat.le_of_ble_eq_true rfl) jz ?_
          refine jj_isub (pc := 93) dX7_tellMany_93 ?_
          refine jj_iret (pc := 94) dX7_tellMany_94 ?_
          exact ⟨rfl, rfl⟩
        · by_cases hw4 : w = 4
          · subst hw4
            refine jj_tabIn (pc := 1) 95 dX7_tellMany_1 (by decide) (by decide) rfl (by decide) ?_
            refine jj_aload_n (pc := 95) 0 dX7_tellMany_95 rfl rfl ?_
            refine jj_g_0_2 (pc := 96) dX7_tellMany_96 fd_X7_tellMany_26 ?_
            refine jj_g_3_2 (pc := 99) dX7_tellMany_99 fd_X7_tellMany_347 ?_
            refine jj_iconst (pc := 102) (v := 2) dX7_tellMany_102 rfl ?_
            refine jj_rcnt (pc := 103) (r := 23) (by decide) dX7_tellMany_103 gX7_tellMany_X4_count (by decide) (Nat.le_of_ble_eq_true rfl) jz ?_
            refine jj_iret (pc := 106) dX7_tellMany_106 ?_
            exact ⟨rfl, rfl⟩
          · by_cases hw5 : w = 5
            · subst hw5
              refine jj_tabIn (pc := 1) 107 dX7_tellMany_1 (by decide) (by decide) rfl (by decide) ?_
              refine jj_aload_n (pc := 107) 0 dX7_tellMany_107 rfl rfl ?_
              refine jj_g_0_2 (pc := 108) dX7_tellMany_108 fd_X7_tellMany_26 ?_
              refine jj_g_3_2 (pc := 111) dX7_tellMany_111 fd_X7_tellMany_347 ?_
              refine jj_iconst (pc := 114) (v := 3) dX7_tellMany_114 rfl ?_
              refine jj_rcnt (pc := 115) (r := 23) (by decide) dX7_tellMany_115 gX7_tellMany_X4_count (by decide) (Nat.le_of_ble_eq_true rfl) jz ?_
              refine jj_iret (pc := 118) dX7_tellMany_118 ?_
              exact ⟨rfl, rfl⟩
            · by_cases hw6 : w = 6
              · subst hw6
                refine jj_tabIn (pc := 1) 119 dX7_tellMany_1 (by decide) (by decide) rfl (by decide) ?_
                refine jj_aload_n (pc := 119) 0 dX7_tellMany_119 rfl rfl ?_
                refine jj_g_0_4 (pc := 120) dX7_tellMany_120 fd_X7_tellMany_36 ?_
                refine jj_callVr (pc := 123) _ (c_X5_count l D cA ob ro ar _) dX7_tellMany_123 gX7_tellMany_X5_count jm_X5_count rfl (by decide) 5 jq_5 rfl rfl rfl (Nat.le_of_ble_eq_true rfl) jz ?_
                refine jj_iret (pc := 126) dX7_tellMany_126 ?_
                exact ⟨rfl, rfl⟩
              · by_cases hw7 : w = 7
                · subst hw7
                  refine jj_tabIn (pc := 1) 127 dX7_tellMany_1 (by decide) (by decide) rfl (by decide) ?_
                  refine jj_aload_n (pc := 127) 0 dX7_tellMany_127 rfl rfl ?_
                  refine jj_g_0_5 (pc := 128) dX7_tellMany_128 fd_X7_tellMany_43 ?_
                  refine jj_g_6_3 (pc := 131) dX7_tellMany_131 fd_X7_tellMany_246 ?_
                  refine jj_iret (pc := 134) dX7_tellMany_134 ?_
                  exact ⟨rfl, rfl⟩
                · by_cases hw8 : w = 8
                  · subst hw8
                    refine jj_tabIn (pc := 1) 135 dX7_tellMany_1 (by decide) (by decide) rfl (by decide) ?_
                    refine jj_aload_n (pc := 135) 0 dX7_tellMany_135 rfl rfl ?_
                    refine jj_g_0_5 (pc := 136) dX7_tellMany_136 fd_X7_tellMany_43 ?_
                    refine jj_callVr (pc := 139) _ (c_X3_waiting l D cA ob ro ar _) dX7_tellMany_139 gX7_tellMany_X3_waiting jm_X3_waiting rfl (by decide) 6 jq_6 rfl rfl rfl (Nat.le_of_ble_eq_true rfl) jz ?_
                    refine jj_iret (pc := 142) dX7_tellMany_142 ?_
                    exact ⟨rfl, rfl⟩
                  · refine jj_tabOut (pc := 1) 143 dX7_tellMany_1 (jsw_out (n := 8) (by decide) (fun z hz => by rcases (by omega : z = 0 ∨ z = 1 ∨ z = 2 ∨ z = 3 ∨ z = 4 ∨ z = 5 ∨ z = 6 ∨ z = 7 ∨ z = 8) with rfl | rfl | rfl | rfl | rfl | rfl | rfl | rfl | rfl <;> first | exact hw0 | exact hw1 | exact hw2 | exact hw3 | exact hw4 | exact hw5 | exact hw6 | exact hw7 | exact hw8)) (by decide) ?_
                    refine jj_aload_n (pc := 143) 0 dX7_tellMany_143 rfl rfl ?_
                    refine jj_g_0_2 (pc := 144) dX7_tellMany_144 fd_X7_tellMany_26 ?_
                    refine jj_g_3_0 (pc := 147) dX7_tellMany_147 fd_X7_tellMany_361 ?_
                    refine jj_if_eq (pc := 150) 157 dX7_tellMany_150 (by decide) (fun h150 => ?_) (fun h150 => ?_)
                    · refine jj_iconst (pc := 157) (v := 0) dX7_tellMany_157 rfl ?_
                      refine jj_iret (pc := 158) dX7_tellMany_158 ?_
                      exact ⟨by rw [tMany, if_neg hw0, if_neg hw1, if_neg hw2, if_neg hw3, if_neg hw4, if_neg hw5, if_neg hw6, if_neg hw7, if_neg hw8, if_pos h150], rfl⟩
                    · refine jj_iconst (pc := 153) (v := 1) dX7_tellMany_153 rfl ?_
                      refine jj_goto (pc := 154) 158 dX7_tellMany_154 (by decide) ?_
                      refine jj_iret (pc := 158) dX7_tellMany_158 ?_
                      exact ⟨by rw [tMany, if_neg hw0, if_neg hw1, if_neg hw2, if_neg hw3, if_neg hw4, if_neg hw5, if_neg hw6, if_neg hw7, if_neg hw8, if_neg h150], rfl⟩
set_option maxHeartbeats 4000000 in
theorem c_X7_tellSteps (l : Launch) (D : va_G) (cA : ClassId) (ob ro ar : Nat → Nat) (S : jS) (p k : Int32) : jjFn l yX7_tellSteps wsX7_tellSteps 2 D cA [.ref (ob 0), .int p, .int k] (jW cA ob ro ar S) (some (.int (tSteps S p k))) (jW cA ob ro ar S) := by
  refine jjCon_of (own := RX7) (cc := cX7_tellSteps) (nL := 4) (rt := (some .int)) (I := jI0) [some (.ref (ob 0)), some (.int p), some (.int k), none] jm_X7_tellSteps (by decide +kernel) rfl (fun _ _ _ _ _ => trivial) (Nat.le_of_ble_eq_true rfl) rfl ?_
  refine jj_aload_n (pc := 0) 0 dX7_tellSteps_0 rfl rfl ?_
  refine jj_g_0_0 (pc := 1) dX7_tellSteps_1 fd_X7_tellSteps_12 ?_
  refine jj_iload_n (pc := 4) 1 dX7_tellSteps_4 rfl rfl ?_
  refine jj_iload_n (pc := 5) 2 dX7_tellSteps_5 rfl rfl ?_
  refine jj_callVr (pc := 6) _ (c_X6_isNear l D cA ob ro ar _ _ _) dX7_tellSteps_6 gX7_tellSteps_X6_isNear jm_X6_isNear rfl (by decide) 1 jq_1 rfl rfl rfl (Nat.le_of_ble_eq_true rfl) jz ?_
  refine jj_if_eq (pc := 9) 35 dX7_tellSteps_9 (by decide) (fun h9 => ?_) (fun h9 => ?_)
  · refine jj_iconst (pc := 35) (v := 1) dX7_tellSteps_35 rfl ?_
    refine jj_goto (pc := 36) 40 dX7_tellSteps_36 (by decide) ?_
    refine jj_istore_n_3 (pc := 40) dX7_tellSteps_40 rfl rfl (by decide) ?_
    refine jj_iload_n (pc := 41) 3 dX7_tellSteps_41 rfl rfl ?_
    refine jj_if_eq (pc := 42) 49 dX7_tellSteps_42 (by decide) (fun h42 => ?_) (fun h42 => ?_)
    · refine jj_iconst (pc := 49) (v := 2) dX7_tellSteps_49 rfl ?_
      refine jj_iret (pc := 50) dX7_tellSteps_50 ?_
      exact absurd h42 (by decide)
    · refine jj_iconst (pc := 45) (v := 1) dX7_tellSteps_45 rfl ?_
      refine jj_goto (pc := 46) 50 dX7_tellSteps_46 (by decide) ?_
      refine jj_iret (pc := 50) dX7_tellSteps_50 ?_
      have ht : tDirect S p k = true := by rw [tDirect, bI_0 h9]; rfl
      exact ⟨by rw [tSteps, ht]; rfl, rfl⟩
  · refine jj_aload_n (pc := 12) 0 dX7_tellSteps_12 rfl rfl ?_
    refine jj_g_0_2 (pc := 13) dX7_tellSteps_13 fd_X7_tellSteps_26 ?_
    refine jj_g_3_1 (pc := 16) dX7_tellSteps_16 fd_X7_tellSteps_116 ?_
    refine jj_iload_n (pc := 19) 1 dX7_tellSteps_19 rfl rfl ?_
    refine jj_aload_n (pc := 20) 0 dX7_tellSteps_20 rfl rfl ?_
    refine jj_g_0_0 (pc := 21) dX7_tellSteps_21 fd_X7_tellSteps_12 ?_
    refine jj_iload_n (pc := 24) 1 dX7_tellSteps_24 rfl rfl ?_
    refine jj_iload_n (pc := 25) 2 dX7_tellSteps_25 rfl rfl ?_
    refine jj_callVr (pc := 26) _ (c_X6_target l D cA ob ro ar _ _ _) dX7_tellSteps_26 gX7_tellSteps_X6_target jm_X6_target rfl (by decide) 1 jq_1 rfl rfl rfl (Nat.le_of_ble_eq_true rfl) jz ?_
    refine jj_callVr (pc := 29) _ (c_X1_reachesSymbol l D cA ob ro ar _ (j := 1) (by decide) _ _) dX7_tellSteps_29 gX7_tellSteps_X1_reachesSymbol jm_X1_reachesSymbol rfl (by decide) 8 jq_8 rfl rfl rfl (Nat.le_of_ble_eq_true rfl) jz ?_
    refine jj_if_eq (pc := 32) 39 dX7_tellSteps_32 (by decide) (fun h32 => ?_) (fun h32 => ?_)
    · refine jj_iconst (pc := 39) (v := 0) dX7_tellSteps_39 rfl ?_
      refine jj_istore_n_3 (pc := 40) dX7_tellSteps_40 rfl rfl (by decide) ?_
      refine jj_iload_n (pc := 41) 3 dX7_tellSteps_41 rfl rfl ?_
      refine jj_if_eq (pc := 42) 49 dX7_tellSteps_42 (by decide) (fun h42 => ?_) (fun h42 => ?_)
      · refine jj_iconst (pc := 49) (v := 2) dX7_tellSteps_49 rfl ?_
        refine jj_iret (pc := 50) dX7_tellSteps_50 ?_
        have ht : tDirect S p k = false := by rw [tDirect, bI_1 h9, bI_0 h32]; rfl
        exact ⟨by rw [tSteps, ht]; rfl, rfl⟩
      · refine jj_iconst (pc := 45) (v := 1) dX7_tellSteps_45 rfl ?_
        refine jj_goto (pc := 46) 50 dX7_tellSteps_46 (by decide) ?_
        refine jj_iret (pc := 50) dX7_tellSteps_50 ?_
        exact absurd rfl h42
    · refine jj_iconst (pc := 35) (v := 1) dX7_tellSteps_35 rfl ?_
      refine jj_goto (pc := 36) 40 dX7_tellSteps_36 (by decide) ?_
      refine jj_istore_n_3 (pc := 40) dX7_tellSteps_40 rfl rfl (by decide) ?_
      refine jj_iload_n (pc := 41) 3 dX7_tellSteps_41 rfl rfl ?_
      refine jj_if_eq (pc := 42) 49 dX7_tellSteps_42 (by decide) (fun h42 => ?_) (fun h42 => ?_)
      · refine jj_iconst (pc := 49) (v := 2) dX7_tellSteps_49 rfl ?_
        refine jj_iret (pc := 50) dX7_tellSteps_50 ?_
        exact absurd h42 (by decide)
      · refine jj_iconst (pc := 45) (v := 1) dX7_tellSteps_45 rfl ?_
        refine jj_goto (pc := 46) 50 dX7_tellSteps_46 (by decide) ?_
        refine jj_iret (pc := 50) dX7_tellSteps_50 ?_
        have ht : tDirect S p k = true := by rw [tDirect, bI_1 h32, Bool.or_true]
        exact ⟨by rw [tSteps, ht]; rfl, rfl⟩
set_option maxHeartbeats 4000000 in
theorem c_X7_isClear (l : Launch) (D : va_G) (cA : ClassId) (ob ro ar : Nat → Nat) (S : jS) (k : Int32) : jjFn l yX7_isClear wsX7_isClear 3 D cA [.ref (ob 0), .int k] (jW cA ob ro ar S) (some (.int (bI (mClear S k)))) (jW cA ob ro ar S) := by
  refine jjCon_of (own := RX7) (cc := cX7_isClear) (nL := 4) (rt := (some .boolean)) (I := jI0) [some (.ref (ob 0)), some (.int k), none, none] jm_X7_isClear (by decide +kernel) rfl (fun _ _ _ _ _ => trivial) (Nat.le_of_ble_eq_true rfl) rfl ?_
  refine jj_aload_n (pc := 0) 0 dX7_isClear_0 rfl rfl ?_
  refine jj_g_0_5 (pc := 1) dX7_isClear_1 fd_X7_isClear_43 ?_
  refine jj_aload_n (pc := 4) 0 dX7_isClear_4 rfl rfl ?_
  refine jj_g_0_0 (pc := 5) dX7_isClear_5 fd_X7_isClear_12 ?_
  refine jj_iload_n (pc := 8) 1 dX7_isClear_8 rfl rfl ?_
  refine jj_callVr (pc := 9) _ (c_X3_waitsBehind l D cA ob ro ar _ _) dX7_isClear_9 gX7_isClear_X3_waitsBehind jm_X3_waitsBehind rfl (by decide) 6 jq_6 rfl rfl rfl (Nat.le_of_ble_eq_true rfl) jz ?_
  refine jj_if_eq (pc := 12) 17 dX7_isClear_12 (by decide) (fun h12 => ?_) (fun h12 => ?_)
  · refine jj_aload_n (pc := 17) 0 dX7_isClear_17 rfl rfl ?_
    refine jj_g_0_5 (pc := 18) dX7_isClear_18 fd_X7_isClear_43 ?_
    refine jj_g_6_0 (pc := 21) dX7_isClear_21 fd_X7_isClear_269 ?_
    refine jj_iload_n (pc := 24) 1 dX7_isClear_24 rfl rfl ?_
    refine jj_rget (pc := 25) (r := 31) (by decide) dX7_isClear_25 gX7_isClear_X4_get (by decide) (Nat.le_of_ble_eq_true rfl) jz ?_
    refine jj_istore_n_2 (pc := 28) dX7_isClear_28 rfl rfl (by decide) ?_
    refine jj_aload_n (pc := 29) 0 dX7_isClear_29 rfl rfl ?_
    refine jj_g_0_2 (pc := 30) dX7_isClear_30 fd_X7_isClear_26 ?_
    refine jj_g_3_1 (pc := 33) dX7_isClear_33 fd_X7_isClear_116 ?_
    refine jj_g_8_3 (pc := 36) dX7_isClear_36 fd_X7_isClear_205 ?_
    refine jj_aload_n (pc := 39) 0 dX7_isClear_39 rfl rfl ?_
    refine jj_g_0_0 (pc := 40) dX7_isClear_40 fd_X7_isClear_12 ?_
    refine jj_g_1_3 (pc := 43) dX7_isClear_43 fd_X7_isClear_266 ?_
    refine jj_iload_n (pc := 46) 2 dX7_isClear_46 rfl rfl ?_
    refine jj_rget (pc := 47) (r := 3) (by decide) dX7_isClear_47 gX7_isClear_X4_get (by decide) (Nat.le_of_ble_eq_true rfl) jz ?_
    refine jj_rget (pc := 50) (r := 17) (by decide) dX7_isClear_50 gX7_isClear_X4_get (by decide) (Nat.le_of_ble_eq_true rfl) jz ?_
    refine jj_istore_n_3 (pc := 53) dX7_isClear_53 rfl rfl (by decide) ?_
    refine jj_aload_n (pc := 54) 0 dX7_isClear_54 rfl rfl ?_
    refine jj_g_0_4 (pc := 55) dX7_isClear_55 fd_X7_isClear_36 ?_
    refine jj_iload_n (pc := 58) 3 dX7_isClear_58 rfl rfl ?_
    refine jj_callVr (pc := 59) _ (c_X5_runsWith l D cA ob ro ar _ _) dX7_isClear_59 gX7_isClear_X5_runsWith jm_X5_runsWith rfl (by decide) 5 jq_5 rfl rfl rfl (Nat.le_of_ble_eq_true rfl) jz ?_
    refine jj_if_ne (pc := 62) 91 dX7_isClear_62 (by decide) (fun h62 => ?_) (fun h62 => ?_)
    · refine jj_iconst (pc := 91) (v := 0) dX7_isClear_91 rfl ?_
      refine jj_zret (pc := 92) rfl dX7_isClear_92 ?_
      exact ⟨by rw [mClear, bI_0 h12, show decide (mRunsW S (mStand S 1 (jg S 3 (jg S 31 k))) 4 = 0) = false from decide_eq_false h62]; rfl, rfl⟩
    · refine jj_aload_n (pc := 65) 0 dX7_isClear_65 rfl rfl ?_
      refine jj_g_0_2 (pc := 66) dX7_isClear_66 fd_X7_isClear_26 ?_
      refine jj_aload_n (pc := 69) 0 dX7_isClear_69 rfl rfl ?_
      refine jj_g_0_0 (pc := 70) dX7_isClear_70 fd_X7_isClear_12 ?_
      refine jj_g_1_4 (pc := 73) dX7_isClear_73 fd_X7_isClear_329 ?_
      refine jj_iload_n (pc := 76) 2 dX7_isClear_76 rfl rfl ?_
      refine jj_rget (pc := 77) (r := 4) (by decide) dX7_isClear_77 gX7_isClear_X4_get (by decide) (Nat.le_of_ble_eq_true rfl) jz ?_
      refine jj_callVr (pc := 80) _ (c_X0_room_0 l D cA ob ro ar _ _) dX7_isClear_80 gX7_isClear_X0_room jm_X0_room rfl (by decide) 3 jq_3 rfl rfl rfl (Nat.le_of_ble_eq_true rfl) jz ?_
      refine jj_iconst (pc := 83) (v := (-1)) dX7_isClear_83 rfl ?_
      refine jj_icmp_eq (pc := 84) 91 dX7_isClear_84 (by decide) (fun h84 => ?_) (fun h84 => ?_)
      · refine jj_iconst (pc := 91) (v := 0) dX7_isClear_91 rfl ?_
        refine jj_zret (pc := 92) rfl dX7_isClear_92 ?_
        exact ⟨by rw [mClear, bI_0 h12, show decide (mRunsW S (mStand S 1 (jg S 3 (jg S 31 k))) 4 = 0) = true from decide_eq_true h62, decide_eq_false (fun z => z h84)]; rfl, rfl⟩
      · refine jj_iconst (pc := 87) (v := 1) dX7_isClear_87 rfl ?_
        refine jj_goto (pc := 88) 92 dX7_isClear_88 (by decide) ?_
        refine jj_zret (pc := 92) rfl dX7_isClear_92 ?_
        exact ⟨by rw [mClear, bI_0 h12, show decide (mRunsW S (mStand S 1 (jg S 3 (jg S 31 k))) 4 = 0) = true from decide_eq_true h62, decide_eq_true h84]; rfl, rfl⟩
  · refine jj_iconst (pc := 15) (v := 0) dX7_isClear_15 rfl ?_
    refine jj_zret (pc := 16) rfl dX7_isClear_16 ?_
    exact ⟨by rw [mClear, bI_1 h12]; rfl, rfl⟩
set_option maxHeartbeats 4000000 in
theorem c_X7_canBeDone (l : Launch) (D : va_G) (cA : ClassId) (ob ro ar : Nat → Nat) (S : jS) (k : Int32) : jjFn l yX7_canBeDone wsX7_canBeDone 4 D cA [.ref (ob 0), .int k] (jW cA ob ro ar S) (some (.int (bI (mCan S k)))) (jW cA ob ro ar S) := by
  refine jjCon_of (own := RX7) (cc := cX7_canBeDone) (nL := 3) (rt := (some .boolean)) (I := jI0) [some (.ref (ob 0)), some (.int k), none] jm_X7_canBeDone (by decide +kernel) rfl (fun _ _ _ _ _ => trivial) (Nat.le_of_ble_eq_true rfl) rfl ?_
  have K : mWait S k = true → ∀ i, i ≤ mNP S → jany (mCanQ S k) i = false → jjV l RX7 cX7_canBeDone 3 (some .boolean) jI0 wsX7_canBeDone (jjRm 4 0 0) D cA (jjEnd D (fun r0 w0 => r0 = some (.int (bI (mCan S k))) ∧ w0 = jW cA ob ro ar S) 0 0) 0 0 (jW cA ob ro ar S) 15 [some (.ref (ob 0)), some (.int k), some (.int (nI i))] [] := by
    intro hw
    refine jdown _ (fun hn => ?_) (fun i hi ih hn => ?_)
    · refine jj_iload_n (pc := 15) 2 dX7_canBeDone_15 rfl rfl ?_
      refine jj_aload_n (pc := 16) 0 dX7_canBeDone_16 rfl rfl ?_
      refine jj_g_0_5 (pc := 17) dX7_canBeDone_17 fd_X7_canBeDone_43 ?_
      refine jj_g_6_3 (pc := 20) dX7_canBeDone_20 fd_X7_canBeDone_246 ?_
      refine jj_icmp_ge (pc := 23) 54 dX7_canBeDone_23 (by decide) (fun h23 => ?_) (fun h23 => ?_)
      · refine jj_iconst (pc := 54) (v := 1) dX7_canBeDone_54 rfl ?_
        refine jj_zret (pc := 55) rfl dX7_canBeDone_55 ?_
        exact ⟨by rw [mCan, hw, hn]; rfl, rfl⟩
      · exact absurd (jb_ge rfl) h23
    · refine jj_iload_n (pc := 15) 2 dX7_canBeDone_15 rfl rfl ?_
      refine jj_aload_n (pc := 16) 0 dX7_canBeDone_16 rfl rfl ?_
      refine jj_g_0_5 (pc := 17) dX7_canBeDone_17 fd_X7_canBeDone_43 ?_
      refine jj_g_6_3 (pc := 20) dX7_canBeDone_20 fd_X7_canBeDone_246 ?_
      refine jj_icmp_ge (pc := 23) 54 dX7_canBeDone_23 (by decide) (fun h23 => ?_) (fun h23 => ?_)
      · exact absurd h23 (jb_lt rfl hi)
      · refine jj_aload_n (pc := 26) 0 dX7_canBeDone_26 rfl rfl ?_
        refine jj_g_0_5 (pc := 27) dX7_canBeDone_27 fd_X7_canBeDone_43 ?_
        refine jj_iload_n (pc := 30) 2 dX7_canBeDone_30 rfl rfl ?_
        refine jj_iload_n (pc := 31) 1 dX7_canBeDone_31 rfl rfl ?_
        refine jj_callVr (pc := 32) _ (c_X3_goesWith l D cA ob ro ar _ _ _) dX7_canBeDone_32 gX7_canBeDone_X3_goesWith jm_X3_goesWith rfl (by decide) 6 jq_6 rfl rfl rfl (Nat.le_of_ble_eq_true rfl) jz ?_
        refine jj_if_eq (pc := 35) 48 dX7_canBeDone_35 (by decide) (fun h35 => ?_) (fun h35 => ?_)
        · refine jj_iinc_2 (pc := 48) (z := 1) dX7_canBeDone_48 rfl rfl (by decide) ?_
          refine jj_goto (pc := 51) 15 dX7_canBeDone_51 (by decide) ?_
          have h3 := ih (by rw [jany, hn, mCanQ, bI_0 h35, Bool.false_and]; rfl)
          rw [nI_succ] at h3
          exact h3
        · refine jj_aload_n (pc := 38) 0 dX7_canBeDone_38 rfl rfl ?_
          refine jj_iload_n (pc := 39) 2 dX7_canBeDone_39 rfl rfl ?_
          refine jj_callVr (pc := 40) _ (c_X7_isClear l D cA ob ro ar _ _) dX7_canBeDone_40 gX7_canBeDone_X7_isClear jm_X7_isClear rfl (by decide) 0 jq_0 rfl rfl rfl (Nat.le_of_ble_eq_true rfl) jz ?_
          refine jj_if_ne (pc := 43) 48 dX7_canBeDone_43 (by decide) (fun h43 => ?_) (fun h43 => ?_)
          · refine jj_iinc_2 (pc := 48) (z := 1) dX7_canBeDone_48 rfl rfl (by decide) ?_
            refine jj_goto (pc := 51) 15 dX7_canBeDone_51 (by decide) ?_
            have h3 := ih (by rw [jany, hn, mCanQ, bI_1 h43, Bool.not_true, Bool.and_false]; rfl)
            rw [nI_succ] at h3
            exact h3
          · refine jj_iconst (pc := 46) (v := 0) dX7_canBeDone_46 rfl ?_
            refine jj_zret (pc := 47) rfl dX7_canBeDone_47 ?_
            exact ⟨by rw [mCan, jany_t hi (by rw [mCanQ, bI_1 h35, bI_0 h43]; rfl), Bool.not_true, Bool.and_false]; rfl, rfl⟩
  refine jj_aload_n (pc := 0) 0 dX7_canBeDone_0 rfl rfl ?_
  refine jj_g_0_5 (pc := 1) dX7_canBeDone_1 fd_X7_canBeDone_43 ?_
  refine jj_iload_n (pc := 4) 1 dX7_canBeDone_4 rfl rfl ?_
  refine jj_callVr (pc := 5) _ (c_X3_isWaiting l D cA ob ro ar _ _) dX7_canBeDone_5 gX7_canBeDone_X3_isWaiting jm_X3_isWaiting rfl (by decide) 6 jq_6 rfl rfl rfl (Nat.le_of_ble_eq_true rfl) jz ?_
  refine jj_if_ne (pc := 8) 13 dX7_canBeDone_8 (by decide) (fun h8 => ?_) (fun h8 => ?_)
  · refine jj_iconst (pc := 13) (v := 0) dX7_canBeDone_13 rfl ?_
    refine jj_istore_n_2 (pc := 14) dX7_canBeDone_14 rfl rfl (by decide) ?_
    exact K (bI_1 h8) 0 (Nat.zero_le _) rfl
  · refine jj_iconst (pc := 11) (v := 0) dX7_canBeDone_11 rfl ?_
    refine jj_zret (pc := 12) rfl dX7_canBeDone_12 ?_
    exact ⟨by rw [mCan, bI_0 h8]; rfl, rfl⟩
set_option maxHeartbeats 4000000 in
theorem c_X7_carryOut (l : Launch) (D : va_G) (cA : ClassId) (ob ro ar : Nat → Nat) (S : jS) (b : Int32) : jjFn l yX7_carryOut wsX7_carryOut 4 D cA [.ref (ob 0), .int b] (jW cA ob ro ar S) none (jW cA ob ro ar (jCarry S b)) := by
  refine jjCon_of (own := RX7) (cc := cX7_carryOut) (nL := 4) (rt := none) (I := jI0) [some (.ref (ob 0)), some (.int b), none, none] jm_X7_carryOut (by decide +kernel) rfl (fun _ _ _ _ _ => trivial) (Nat.le_of_ble_eq_true rfl) rfl ?_
  have KE : ∀ (q : Bool × jS) (x : Int32), jjV l RX7 cX7_carryOut 4 none jI0 wsX7_carryOut (jjRm 4 0 0) D cA (jjEnd D (fun r0 w0 => r0 = none ∧ w0 = jW cA ob ro ar (coEnd q b)) 0 0) 0 0 (jW cA ob ro ar q.2) 71 [some (.ref (ob 0)), some (.int b), some (.int (bI q.1)), some (.int x)] [] := by
    intro q x
    refine jj_iload_n (pc := 71) 2 dX7_carryOut_71 rfl rfl ?_
    refine jj_if_eq (pc := 72) 86 dX7_carryOut_72 (by decide) (fun h72 => ?_) (fun h72 => ?_)
    · refine jj_aload_n (pc := 86) 0 dX7_carryOut_86 rfl rfl ?_
      refine jj_g_0_5 (pc := 87) dX7_carryOut_87 fd_X7_carryOut_43 ?_
      refine jj_iload_n (pc := 90) 1 dX7_carryOut_90 rfl rfl ?_
      refine jj_iload_n (pc := 91) 2 dX7_carryOut_91 rfl rfl ?_
      refine jj_if_eq (pc := 92) 99 dX7_carryOut_92 (by decide) (fun h92 => ?_) (fun h92 => ?_)
      · refine jj_iconst (pc := 99) (v := 2) dX7_carryOut_99 rfl ?_
        refine jj_callVv (pc := 100) _ (c_X3_end l D cA ob ro ar _ _ _) dX7_carryOut_100 gX7_carryOut_X3_end jm_X3_end rfl (by decide) 6 jq_6 rfl rfl rfl (Nat.le_of_ble_eq_true rfl) jz ?_
        refine jj_vret (pc := 103) dX7_carryOut_103 ?_
        exact ⟨rfl, by rw [coEnd, bI_0 h72]; rfl⟩
      · refine jj_iconst (pc := 95) (v := 1) dX7_carryOut_95 rfl ?_
        refine jj_goto (pc := 96) 100 dX7_carryOut_96 (by decide) ?_
        refine jj_callVv (pc := 100) _ (c_X3_end l D cA ob ro ar _ _ _) dX7_carryOut_100 gX7_carryOut_X3_end jm_X3_end rfl (by decide) 6 jq_6 rfl rfl rfl (Nat.le_of_ble_eq_true rfl) jz ?_
        refine jj_vret (pc := 103) dX7_carryOut_103 ?_
        exact absurd (bI_1 h92) (by rw [bI_0 h72]; decide)
    · refine jj_aload_n (pc := 75) 0 dX7_carryOut_75 rfl rfl ?_
      refine jj_g_0_2 (pc := 76) dX7_carryOut_76 fd_X7_carryOut_26 ?_
      refine jj_aload_n (pc := 79) 0 dX7_carryOut_79 rfl rfl ?_
      refine jj_g_0_3 (pc := 80) dX7_carryOut_80 fd_X7_carryOut_30 ?_
      refine jj_callVv (pc := 83) _ (c_X0_copy_0 l D cA ob ro ar _) dX7_carryOut_83 gX7_carryOut_X0_copy jm_X0_copy rfl (by decide) 3 jq_3 rfl rfl rfl (Nat.le_of_ble_eq_true rfl) jz ?_
      refine jj_aload_n (pc := 86) 0 dX7_carryOut_86 rfl rfl ?_
      refine jj_g_0_5 (pc := 87) dX7_carryOut_87 fd_X7_carryOut_43 ?_
      refine jj_iload_n (pc := 90) 1 dX7_carryOut_90 rfl rfl ?_
      refine jj_iload_n (pc := 91) 2 dX7_carryOut_91 rfl rfl ?_
      refine jj_if_eq (pc := 92) 99 dX7_carryOut_92 (by decide) (fun h92 => ?_) (fun h92 => ?_)
      · refine jj_iconst (pc := 99) (v := 2) dX7_carryOut_99 rfl ?_
        refine jj_callVv (pc := 100) _ (c_X3_end l D cA ob ro ar _ _ _) dX7_carryOut_100 gX7_carryOut_X3_end jm_X3_end rfl (by decide) 6 jq_6 rfl rfl rfl (Nat.le_of_ble_eq_true rfl) jz ?_
        refine jj_vret (pc := 103) dX7_carryOut_103 ?_
        exact absurd (bI_0 h92) (by rw [bI_1 h72]; decide)
      · refine jj_iconst (pc := 95) (v := 1) dX7_carryOut_95 rfl ?_
        refine jj_goto (pc := 96) 100 dX7_carryOut_96 (by decide) ?_
        refine jj_callVv (pc := 100) _ (c_X3_end l D cA ob ro ar _ _ _) dX7_carryOut_100 gX7_carryOut_X3_end jm_X3_end rfl (by decide) 6 jq_6 rfl rfl rfl (Nat.le_of_ble_eq_true rfl) jz ?_
        refine jj_vret (pc := 103) dX7_carryOut_103 ?_
        exact ⟨rfl, by rw [coEnd, bI_1 h72]; rfl⟩
  have K : ∀ i, i ≤ mNP S → jjV l RX7 cX7_carryOut 4 none jI0 wsX7_carryOut (jjRm 4 0 0) D cA (jjEnd D (fun r0 w0 => r0 = none ∧ w0 = jW cA ob ro ar (jCarry S b)) 0 0) 0 0 (jW cA ob ro ar (coS S b i).2) 15 [some (.ref (ob 0)), some (.int b), some (.int (bI (coS S b i).1)), some (.int (nI i))] [] := by
    refine jdown _ ?_ (fun i hi ih => ?_)
    · refine jj_iload_n (pc := 15) 3 dX7_carryOut_15 rfl rfl ?_
      refine jj_aload_n (pc := 16) 0 dX7_carryOut_16 rfl rfl ?_
      refine jj_g_0_5 (pc := 17) dX7_carryOut_17 fd_X7_carryOut_43 ?_
      refine jj_g_6_3 (pc := 20) dX7_carryOut_20 fd_X7_carryOut_246 ?_
      refine jj_icmp_ge (pc := 23) 71 dX7_carryOut_23 (by decide) (fun h23 => ?_) (fun h23 => ?_)
      · exact KE (coS S b (mNP S)) _
      · refine jj_iload_n (pc := 26) 2 dX7_carryOut_26 rfl rfl ?_
        refine jj_if_eq (pc := 27) 71 dX7_carryOut_27 (by decide) (fun h27 => ?_) (fun h27 => ?_)
        · exact KE (coS S b (mNP S)) _
        · exact absurd (by rw [coS_18]; exact jb_ge rfl) h23
    · refine jj_iload_n (pc := 15) 3 dX7_carryOut_15 rfl rfl ?_
      refine jj_aload_n (pc := 16) 0 dX7_carryOut_16 rfl rfl ?_
      refine jj_g_0_5 (pc := 17) dX7_carryOut_17 fd_X7_carryOut_43 ?_
      refine jj_g_6_3 (pc := 20) dX7_carryOut_20 fd_X7_carryOut_246 ?_
      refine jj_icmp_ge (pc := 23) 71 dX7_carryOut_23 (by decide) (fun h23 => ?_) (fun h23 => ?_)
      · exact absurd (by rw [coS_18] at h23; exact h23) (jb_lt rfl hi)
      · refine jj_iload_n (pc := 26) 2 dX7_carryOut_26 rfl rfl ?_
        refine jj_if_eq (pc := 27) 71 dX7_carryOut_27 (by decide) (fun h27 => ?_) (fun h27 => ?_)
        · have h9 := coS_stop (bI_0 h27) (mNP S - i)
          rw [show i + (mNP S - i) = mNP S by omega] at h9
          have h8 := KE (coS S b i) (nI i)
          rw [← h9] at h8 ⊢
          exact h8
        · refine jj_aload_n (pc := 30) 0 dX7_carryOut_30 rfl rfl ?_
          refine jj_g_0_5 (pc := 31) dX7_carryOut_31 fd_X7_carryOut_43 ?_
          refine jj_iload_n (pc := 34) 3 dX7_carryOut_34 rfl rfl ?_
          refine jj_iload_n (pc := 35) 1 dX7_carryOut_35 rfl rfl ?_
          refine jj_callVr (pc := 36) _ (c_X3_goesWith l D cA ob ro ar _ _ _) dX7_carryOut_36 gX7_carryOut_X3_goesWith jm_X3_goesWith rfl (by decide) 6 jq_6 rfl rfl rfl (Nat.le_of_ble_eq_true rfl) jz ?_
          refine jj_if_eq (pc := 39) 65 dX7_carryOut_39 (by decide) (fun h39 => ?_) (fun h39 => ?_)
          · refine jj_iinc_3 (pc := 65) (z := 1) dX7_carryOut_65 rfl rfl (by decide) ?_
            refine jj_goto (pc := 68) 15 dX7_carryOut_68 (by decide) ?_
            rw [nI_succ, coS, co1, if_pos (bI_1 h27), if_neg (by rw [bI_0 h39]; decide)] at ih
            try dsimp only at ih
            exact ih
          · refine jj_aload_n (pc := 42) 0 dX7_carryOut_42 rfl rfl ?_
            refine jj_g_0_3 (pc := 43) dX7_carryOut_43 fd_X7_carryOut_30 ?_
            refine jj_aload_n (pc := 46) 0 dX7_carryOut_46 rfl rfl ?_
            refine jj_g_0_0 (pc := 47) dX7_carryOut_47 fd_X7_carryOut_12 ?_
            refine jj_aload_n (pc := 50) 0 dX7_carryOut_50 rfl rfl ?_
            refine jj_g_0_5 (pc := 51) dX7_carryOut_51 fd_X7_carryOut_43 ?_
            refine jj_g_6_0 (pc := 54) dX7_carryOut_54 fd_X7_carryOut_269 ?_
            refine jj_iload_n (pc := 57) 3 dX7_carryOut_57 rfl rfl ?_
            refine jj_rget (pc := 58) (r := 31) (by decide) dX7_carryOut_58 gX7_carryOut_X4_get (by decide) (Nat.le_of_ble_eq_true rfl) jz ?_
            refine jj_callVr (pc := 61) _ (c_X0_replace l D cA ob ro ar _ _) dX7_carryOut_61 gX7_carryOut_X0_replace jm_X0_replace rfl (by decide) 4 jq_4 rfl rfl rfl (Nat.le_of_ble_eq_true rfl) jz ?_
            refine jj_istore_n_2 (pc := 64) dX7_carryOut_64 rfl rfl (by decide) ?_
            refine jj_iinc_3 (pc := 65) (z := 1) dX7_carryOut_65 rfl rfl (by decide) ?_
            refine jj_goto (pc := 68) 15 dX7_carryOut_68 (by decide) ?_
            rw [nI_succ, coS, co1, if_pos (bI_1 h27), if_pos (bI_1 h39)] at ih
            try dsimp only at ih
            exact ih
  refine jj_aload_n (pc := 0) 0 dX7_carryOut_0 rfl rfl ?_
  refine jj_g_0_3 (pc := 1) dX7_carryOut_1 fd_X7_carryOut_30 ?_
  refine jj_aload_n (pc := 4) 0 dX7_carryOut_4 rfl rfl ?_
  refine jj_g_0_2 (pc := 5) dX7_carryOut_5 fd_X7_carryOut_26 ?_
  refine jj_callVv (pc := 8) _ (c_X0_copy_1 l D cA ob ro ar _) dX7_carryOut_8 gX7_carryOut_X0_copy jm_X0_copy rfl (by decide) 4 jq_4 rfl rfl rfl (Nat.le_of_ble_eq_true rfl) jz ?_
  refine jj_iconst (pc := 11) (v := 1) dX7_carryOut_11 rfl ?_
  refine jj_istore_n_2 (pc := 12) dX7_carryOut_12 rfl rfl (by decide) ?_
  refine jj_iconst (pc := 13) (v := 0) dX7_carryOut_13 rfl ?_
  refine jj_istore_n_3 (pc := 14) dX7_carryOut_14 rfl rfl (by decide) ?_
  exact K 0 (Nat.zero_le _)
set_option maxHeartbeats 4000000 in
theorem c_X7_carryOutPatches (l : Launch) (D : va_G) (cA : ClassId) (ob ro ar : Nat → Nat) (S : jS)  : jjFn l yX7_carryOutPatches wsX7_carryOutPatches 5 D cA [.ref (ob 0)] (jW cA ob ro ar S) none (jW cA ob ro ar (jCarryAll S)) := by
  refine jjCon_of (own := RX7) (cc := cX7_carryOutPatches) (nL := 4) (rt := none) (I := jI0) [some (.ref (ob 0)), none, none, none] jm_X7_carryOutPatches (by decide +kernel) rfl (fun _ _ _ _ _ => trivial) (Nat.le_of_ble_eq_true rfl) rfl ?_
  have K : ∀ i, i ≤ 8 → jjV l RX7 cX7_carryOutPatches 4 none jI0 wsX7_carryOutPatches (jjRm 5 0 0) D cA (jjEnd D (fun r0 w0 => r0 = none ∧ w0 = jW cA ob ro ar (jCarryAll S)) 0 0) 0 0 (jW cA ob ro ar (jfo cp1 S i)) 2 [some (.ref (ob 0)), some (.int (nI i)), none, none] [] := by
    refine jdown 8 ?_ (fun i hi ih => ?_)
    · refine jj_iload_n (pc := 2) 1 dX7_carryOutPatches_2 rfl rfl ?_
      refine jj_bipush (pc := 3) (v := 8) dX7_carryOutPatches_3 rfl ?_
      refine jj_icmp_ge (pc := 5) 65 dX7_carryOutPatches_5 (by decide) (fun h5 => ?_) (fun h5 => ?_)
      · refine jj_vret (pc := 65) dX7_carryOutPatches_65 ?_
        exact ⟨rfl, rfl⟩
      · exact absurd (jb_ge (by decide)) h5
    · have KN : ∀ (x y : Int32), x = mNext (jfo cp1 S i) → jjV l RX7 cX7_carryOutPatches 4 none jI0 wsX7_carryOutPatches (jjRm 5 0 0) D cA (jjEnd D (fun r0 w0 => r0 = none ∧ w0 = jW cA ob ro ar (jCarryAll S)) 0 0) 0 0 (jW cA ob ro ar (jfo cp1 S i)) 48 [some (.ref (ob 0)), some (.int (nI i)), some (.int x), some (.int y)] [] := by
        intro x y hx
        refine jj_iload_n (pc := 48) 2 dX7_carryOutPatches_48 rfl rfl ?_
        refine jj_iconst (pc := 49) (v := (-1)) dX7_carryOutPatches_49 rfl ?_
        refine jj_icmp_ne (pc := 50) 54 dX7_carryOutPatches_50 (by decide) (fun h50 => ?_) (fun h50 => ?_)
        · refine jj_aload_n (pc := 54) 0 dX7_carryOutPatches_54 rfl rfl ?_
          refine jj_iload_n (pc := 55) 2 dX7_carryOutPatches_55 rfl rfl ?_
          refine jj_callVv (pc := 56) _ (c_X7_carryOut l D cA ob ro ar _ _) dX7_carryOutPatches_56 gX7_carryOutPatches_X7_carryOut jm_X7_carryOut rfl (by decide) 0 jq_0 rfl rfl rfl (Nat.le_of_ble_eq_true rfl) jz ?_
          refine jj_iinc_1 (pc := 59) (z := 1) dX7_carryOutPatches_59 rfl rfl (by decide) ?_
          refine jj_goto (pc := 62) 2 dX7_carryOutPatches_62 (by decide) ?_
          rw [nI_succ, jfo, cp1, if_neg (fun z => h50 (hx.trans z)), ← hx] at ih
          refine jj_sub ?_ ih
          exact jjLe_some (jjLe_some (jjLe_none (jjLe_none jjLe_nil)))
        · refine jj_vret (pc := 53) dX7_carryOutPatches_53 ?_
          exact ⟨rfl, by rw [jCarryAll, jfo_stop' (Nat.le_of_lt hi) (fun k => by rw [cp1, if_pos (hx.symm.trans h50)])]⟩
      have K2 : ∀ k, k ≤ mNP (jfo cp1 S i) → jfind (mNextQ (jfo cp1 S i)) k = none → jjV l RX7 cX7_carryOutPatches 4 none jI0 wsX7_carryOutPatches (jjRm 5 0 0) D cA (jjEnd D (fun r0 w0 => r0 = none ∧ w0 = jW cA ob ro ar (jCarryAll S)) 0 0) 0 0 (jW cA ob ro ar (jfo cp1 S i)) 12 [some (.ref (ob 0)), some (.int (nI i)), some (.int (-1)), some (.int (nI k))] [] := by
        refine jdown _ (fun hn => ?_) (fun k hk ih2 hn => ?_)
        · refine jj_iload_n (pc := 12) 3 dX7_carryOutPatches_12 rfl rfl ?_
          refine jj_aload_n (pc := 13) 0 dX7_carryOutPatches_13 rfl rfl ?_
          refine jj_g_0_5 (pc := 14) dX7_carryOutPatches_14 fd_X7_carryOutPatches_43 ?_
          refine jj_g_6_3 (pc := 17) dX7_carryOutPatches_17 fd_X7_carryOutPatches_246 ?_
          refine jj_icmp_ge (pc := 20) 48 dX7_carryOutPatches_20 (by decide) (fun h20 => ?_) (fun h20 => ?_)
          · exact KN _ _ (jfI_none hn).symm
          · exact absurd (jb_ge rfl) h20
        · refine jj_iload_n (pc := 12) 3 dX7_carryOutPatches_12 rfl rfl ?_
          refine jj_aload_n (pc := 13) 0 dX7_carryOutPatches_13 rfl rfl ?_
          refine jj_g_0_5 (pc := 14) dX7_carryOutPatches_14 fd_X7_carryOutPatches_43 ?_
          refine jj_g_6_3 (pc := 17) dX7_carryOutPatches_17 fd_X7_carryOutPatches_246 ?_
          refine jj_icmp_ge (pc := 20) 48 dX7_carryOutPatches_20 (by decide) (fun h20 => ?_) (fun h20 => ?_)
          · exact absurd h20 (jb_lt rfl hk)
          · refine jj_iload_n (pc := 23) 2 dX7_carryOutPatches_23 rfl rfl ?_
            refine jj_iconst (pc := 24) (v := (-1)) dX7_carryOutPatches_24 rfl ?_
            refine jj_icmp_ne (pc := 25) 48 dX7_carryOutPatches_25 (by decide) (fun h25 => ?_) (fun h25 => ?_)
            · exact absurd rfl h25
            · refine jj_aload_n (pc := 28) 0 dX7_carryOutPatches_28 rfl rfl ?_
              refine jj_iload_n (pc := 29) 3 dX7_carryOutPatches_29 rfl rfl ?_
              refine jj_callVr (pc := 30) _ (c_X7_canBeDone l D cA ob ro ar _ _) dX7_carryOutPatches_30 gX7_carryOutPatches_X7_canBeDone jm_X7_canBeDone rfl (by decide) 0 jq_0 rfl rfl rfl (Nat.le_of_ble_eq_true rfl) jz ?_
              refine jj_if_eq (pc := 33) 40 dX7_carryOutPatches_33 (by decide) (fun h33 => ?_) (fun h33 => ?_)
              · refine jj_iconst (pc := 40) (v := (-1)) dX7_carryOutPatches_40 rfl ?_
                refine jj_istore_n_2 (pc := 41) dX7_carryOutPatches_41 rfl rfl (by decide) ?_
                refine jj_iinc_3 (pc := 42) (z := 1) dX7_carryOutPatches_42 rfl rfl (by decide) ?_
                refine jj_goto (pc := 45) 12 dX7_carryOutPatches_45 (by decide) ?_
                have h3 := ih2 (jfind_next hn (bI_0 h33))
                rw [nI_succ] at h3
                exact h3
              · refine jj_iload_n (pc := 36) 3 dX7_carryOutPatches_36 rfl rfl ?_
                refine jj_goto (pc := 37) 41 dX7_carryOutPatches_37 (by decide) ?_
                refine jj_istore_n_2 (pc := 41) dX7_carryOutPatches_41 rfl rfl (by decide) ?_
                refine jj_iinc_3 (pc := 42) (z := 1) dX7_carryOutPatches_42 rfl rfl (by decide) ?_
                refine jj_goto (pc := 45) 12 dX7_carryOutPatches_45 (by decide) ?_
                refine jj_iload_n (pc := 12) 3 dX7_carryOutPatches_12 rfl rfl ?_
                refine jj_aload_n (pc := 13) 0 dX7_carryOutPatches_13 rfl rfl ?_
                refine jj_g_0_5 (pc := 14) dX7_carryOutPatches_14 fd_X7_carryOutPatches_43 ?_
                refine jj_g_6_3 (pc := 17) dX7_carryOutPatches_17 fd_X7_carryOutPatches_246 ?_
                refine jj_icmp_ge (pc := 20) 48 dX7_carryOutPatches_20 (by decide) (fun h20 => ?_) (fun h20 => ?_)
                · exact KN _ _ (jfI_some (jfind_some hn (bI_1 h33) hk)).symm
                · refine jj_iload_n (pc := 23) 2 dX7_carryOutPatches_23 rfl rfl ?_
                  refine jj_iconst (pc := 24) (v := (-1)) dX7_carryOutPatches_24 rfl ?_
                  refine jj_icmp_ne (pc := 25) 48 dX7_carryOutPatches_25 (by decide) (fun h25 => ?_) (fun h25 => ?_)
                  · exact KN _ _ (jfI_some (jfind_some hn (bI_1 h33) hk)).symm
                  · exact absurd h25 (nI_m1 (Nat.lt_trans hk (jb_31 _)))
      refine jj_iload_n (pc := 2) 1 dX7_carryOutPatches_2 rfl rfl ?_
      refine jj_bipush (pc := 3) (v := 8) dX7_carryOutPatches_3 rfl ?_
      refine jj_icmp_ge (pc := 5) 65 dX7_carryOutPatches_5 (by decide) (fun h5 => ?_) (fun h5 => ?_)
      · exact absurd h5 (jb_lt (by decide) hi)
      · refine jj_iconst (pc := 8) (v := (-1)) dX7_carryOutPatches_8 rfl ?_
        refine jj_istore_n_2 (pc := 9) dX7_carryOutPatches_9 rfl rfl (by decide) ?_
        refine jj_iconst (pc := 10) (v := 0) dX7_carryOutPatches_10 rfl ?_
        refine jj_istore_n_3 (pc := 11) dX7_carryOutPatches_11 rfl rfl (by decide) ?_
        exact K2 0 (Nat.zero_le _) rfl
  refine jj_iconst (pc := 0) (v := 0) dX7_carryOutPatches_0 rfl ?_
  refine jj_istore_n_1 (pc := 1) dX7_carryOutPatches_1 rfl rfl (by decide) ?_
  exact K 0 (Nat.zero_le _)
