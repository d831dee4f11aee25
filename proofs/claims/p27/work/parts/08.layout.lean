/-! The classes Layout, Runs, Patches. -/
def jfind (q : Nat → Bool) : Nat → Option Nat
  | 0 => none
  | n + 1 => match jfind q n with
    | some i => some i
    | none => if q n then some n else none
theorem jfind_some {q : Nat → Bool} : ∀ {N i : Nat}, jfind q i = none → q i = true → i < N → jfind q N = some i
  | 0, i, _, _, h => absurd h (Nat.not_lt_zero i)
  | N + 1, i, h1, h2, h3 => by
    rw [jfind]
    rcases Nat.lt_or_ge i N with z | z
    · rw [jfind_some h1 h2 z]
    · have e : N = i := by omega
      subst e
      rw [h1]
      simp [h2]
theorem jfind_next {q : Nat → Bool} {i : Nat} (h1 : jfind q i = none) (h2 : q i = false) : jfind q (i + 1) = none := by rw [jfind, h1]; simp [h2]
def jfI (q : Nat → Bool) (n : Nat) : Int32 := match jfind q n with
  | some i => nI i
  | none => -1
theorem jfI_none {q : Nat → Bool} {n : Nat} (h : jfind q n = none) : jfI q n = -1 := by rw [jfI, h]
theorem jfI_some {q : Nat → Bool} {n i : Nat} (h : jfind q n = some i) : jfI q n = nI i := by rw [jfI, h]
def mReach (S : jS) (j : Nat) : Int32 := S.1 (7 + 3 * j)
def mStand (S : jS) (j : Nat) (y : Int32) : Int32 := jg S (14 + 3 * j) y
def mPlace (S : jS) (j : Nat) (p : Int32) : Int32 := jg S (15 + 3 * j) p
def mIsl (S : jS) (j : Nat) (k : Int32) : Int32 := jg S (16 + 3 * j) k
def jClear (S : jS) (j : Nat) (r : Int32) : jS := jfill (jfill (jfill (js (js (js S (7 + 3 * j) r) (8 + 3 * j) 0) (9 + 3 * j) 0) (14 + 3 * j) (-1)) (15 + 3 * j) (-1)) (16 + 3 * j) (-1)
def jLc1 (S : jS) (j j2 : Nat) : jS := js S (7 + 3 * j) (S.1 (7 + 3 * j2))
def jLc2 (S : jS) (j j2 : Nat) : jS := js (jLc1 S j j2) (8 + 3 * j) ((jLc1 S j j2).1 (8 + 3 * j2))
def jLc3 (S : jS) (j j2 : Nat) : jS := js (jLc2 S j j2) (9 + 3 * j) ((jLc2 S j j2).1 (9 + 3 * j2))
def jLcopy (S : jS) (j j2 : Nat) : jS := jcopy (jcopy (jcopy (jLc3 S j j2) (14 + 3 * j) (14 + 3 * j2)) (15 + 3 * j) (15 + 3 * j2)) (16 + 3 * j) (16 + 3 * j2)
def mLaid (S : jS) (j : Nat) (p : Int32) : Bool := decide (mPlace S j p ≠ -1)
def inR (R a b : Int32) : Bool := decide (a ≠ -1 ∧ b ≠ -1 ∧ a - b ≤ R ∧ b - a ≤ R)
def mReSy (S : jS) (j : Nat) (p y : Int32) : Bool := inR (mReach S j) (mPlace S j p) (mPlace S j (mStand S j y))
def mReIs (S : jS) (j : Nat) (p b y : Int32) : Bool := inR (mReach S j) (mPlace S j p) (mIsl S j (b * 16 + y))
def mLos1 (S : jS) (j : Nat) (y p : Int32) (k : Nat) : Bool := mNear S p (nI k) && decide (mTarget S p (nI k) = y) && !mReSy S j p y && !mReIs S j p (jg S 2 p) y
def mLosK (S : jS) (j : Nat) (p : Int32) : Int32 := if mLaid S j p = true then jg S 6 p else 0
def mLosP (S : jS) (j : Nat) (y : Int32) (p : Nat) : Bool := jany (mLos1 S j y (nI p)) (mLosK S j (nI p)).toNatClampNeg
def mLoses (S : jS) (j : Nat) (y : Int32) : Bool := jany (mLosP S j y) (S.1 2).toNatClampNeg
set_option maxHeartbeats 4000000 in
theorem c_X1_clear (l : Launch) (D : va_G) (cA : ClassId) (ob ro ar : Nat → Nat) (S : jS) {j : Nat} (hj : j < 3) (r : Int32) : jjFn l yX1_clear wsX1_clear 1 D cA [.ref (ob (7 + j)), .int r] (jW cA ob ro ar S) none (jW cA ob ro ar (jClear S j r)) := by
  refine jjCon_of (own := RX1) (cc := cX1_clear) (nL := 2) (rt := none) (I := jI0) [some (.ref (ob (7 + j))), some (.int r)] jm_X1_clear (by decide +kernel) rfl (fun _ _ _ _ _ => trivial) (Nat.le_of_ble_eq_true rfl) rfl ?_
  refine jj_aload_n (pc := 0) 0 dX1_clear_0 rfl rfl ?_
  refine jj_iload_n (pc := 1) 1 dX1_clear_1 rfl rfl ?_
  refine jj_p_L_0 (pc := 2) (j := j) (by omega) dX1_clear_2 fd_X1_clear_9 ?_
  refine jj_aload_n (pc := 5) 0 dX1_clear_5 rfl rfl ?_
  refine jj_iconst (pc := 6) (v := 0) dX1_clear_6 rfl ?_
  refine jj_p_L_1 (pc := 7) (j := j) (by omega) dX1_clear_7 fd_X1_clear_15 ?_
  refine jj_aload_n (pc := 10) 0 dX1_clear_10 rfl rfl ?_
  refine jj_iconst (pc := 11) (v := 0) dX1_clear_11 rfl ?_
  refine jj_p_L_2 (pc := 12) (j := j) (by omega) dX1_clear_12 fd_X1_clear_18 ?_
  refine jj_aload_n (pc := 15) 0 dX1_clear_15 rfl rfl ?_
  refine jj_g_L_3 (pc := 16) (j := j) (by omega) dX1_clear_16 fd_X1_clear_26 ?_
  refine jj_iconst (pc := 19) (v := (-1)) dX1_clear_19 rfl ?_
  refine jj_rfill (pc := 20) (r := 14 + 3 * j) (by omega) dX1_clear_20 gX1_clear_X4_fill (by decide) (Nat.le_of_ble_eq_true rfl) jz ?_
  refine jj_aload_n (pc := 23) 0 dX1_clear_23 rfl rfl ?_
  refine jj_g_L_4 (pc := 24) (j := j) (by omega) dX1_clear_24 fd_X1_clear_30 ?_
  refine jj_iconst (pc := 27) (v := (-1)) dX1_clear_27 rfl ?_
  refine jj_rfill (pc := 28) (r := 15 + 3 * j) (by omega) dX1_clear_28 gX1_clear_X4_fill (by decide) (Nat.le_of_ble_eq_true rfl) jz ?_
  refine jj_aload_n (pc := 31) 0 dX1_clear_31 rfl rfl ?_
  refine jj_g_L_5 (pc := 32) (j := j) (by omega) dX1_clear_32 fd_X1_clear_33 ?_
  refine jj_iconst (pc := 35) (v := (-1)) dX1_clear_35 rfl ?_
  refine jj_rfill (pc := 36) (r := 16 + 3 * j) (by omega) dX1_clear_36 gX1_clear_X4_fill (by decide) (Nat.le_of_ble_eq_true rfl) jz ?_
  refine jj_vret (pc := 39) dX1_clear_39 ?_
  exact ⟨rfl, rfl⟩
set_option maxHeartbeats 4000000 in
theorem c_X1_copy (l : Launch) (D : va_G) (cA : ClassId) (ob ro ar : Nat → Nat) (S : jS) {j : Nat} (hj : j < 3) {j2 : Nat} (hj2 : j2 < 3) (hjj : j2 ≠ j) : jjFn l yX1_copy wsX1_copy 1 D cA [.ref (ob (7 + j)), .ref (ob (7 + j2))] (jW cA ob ro ar S) none (jW cA ob ro ar (jLcopy S j j2)) := by
  refine jjCon_of (own := RX1) (cc := cX1_copy) (nL := 2) (rt := none) (I := jI0) [some (.ref (ob (7 + j))), some (.ref (ob (7 + j2)))] jm_X1_copy (by decide +kernel) rfl (fun _ _ _ _ _ => trivial) (Nat.le_of_ble_eq_true rfl) rfl ?_
  refine jj_aload_n (pc := 0) 0 dX1_copy_0 rfl rfl ?_
  refine jj_aload_n (pc := 1) 1 dX1_copy_1 rfl rfl ?_
  refine jj_g_L_0 (pc := 2) (j := j2) (by omega) dX1_copy_2 fd_X1_copy_9 ?_
  refine jj_p_L_0 (pc := 5) (j := j) (by omega) dX1_copy_5 fd_X1_copy_9 ?_
  refine jj_aload_n (pc := 8) 0 dX1_copy_8 rfl rfl ?_
  refine jj_aload_n (pc := 9) 1 dX1_copy_9 rfl rfl ?_
  refine jj_g_L_1 (pc := 10) (j := j2) (by omega) dX1_copy_10 fd_X1_copy_15 ?_
  refine jj_p_L_1 (pc := 13) (j := j) (by omega) dX1_copy_13 fd_X1_copy_15 ?_
  refine jj_aload_n (pc := 16) 0 dX1_copy_16 rfl rfl ?_
  refine jj_aload_n (pc := 17) 1 dX1_copy_17 rfl rfl ?_
  refine jj_g_L_2 (pc := 18) (j := j2) (by omega) dX1_copy_18 fd_X1_copy_18 ?_
  refine jj_p_L_2 (pc := 21) (j := j) (by omega) dX1_copy_21 fd_X1_copy_18 ?_
  refine jj_aload_n (pc := 24) 0 dX1_copy_24 rfl rfl ?_
  refine jj_g_L_3 (pc := 25) (j := j) (by omega) dX1_copy_25 fd_X1_copy_26 ?_
  refine jj_aload_n (pc := 28) 1 dX1_copy_28 rfl rfl ?_
  refine jj_g_L_3 (pc := 29) (j := j2) (by omega) dX1_copy_29 fd_X1_copy_26 ?_
  refine jj_rcopy (pc := 32) (r := 14 + 3 * j) (by omega) (q := 14 + 3 * j2) (by omega) (by omega) dX1_copy_32 gX1_copy_X4_copy (by decide) (Nat.le_of_ble_eq_true rfl) jz ?_
  refine jj_aload_n (pc := 35) 0 dX1_copy_35 rfl rfl ?_
  refine jj_g_L_4 (pc := 36) (j := j) (by omega) dX1_copy_36 fd_X1_copy_30 ?_
  refine jj_aload_n (pc := 39) 1 dX1_copy_39 rfl rfl ?_
  refine jj_g_L_4 (pc := 40) (j := j2) (by omega) dX1_copy_40 fd_X1_copy_30 ?_
  refine jj_rcopy (pc := 43) (r := 15 + 3 * j) (by omega) (q := 15 + 3 * j2) (by omega) (by omega) dX1_copy_43 gX1_copy_X4_copy (by decide) (Nat.le_of_ble_eq_true rfl) jz ?_
  refine jj_aload_n (pc := 46) 0 dX1_copy_46 rfl rfl ?_
  refine jj_g_L_5 (pc := 47) (j := j) (by omega) dX1_copy_47 fd_X1_copy_33 ?_
  refine jj_aload_n (pc := 50) 1 dX1_copy_50 rfl rfl ?_
  refine jj_g_L_5 (pc := 51) (j := j2) (by omega) dX1_copy_51 fd_X1_copy_33 ?_
  refine jj_rcopy (pc := 54) (r := 16 + 3 * j) (by omega) (q := 16 + 3 * j2) (by omega) (by omega) dX1_copy_54 gX1_copy_X4_copy (by decide) (Nat.le_of_ble_eq_true rfl) jz ?_
  refine jj_vret (pc := 57) dX1_copy_57 ?_
  exact ⟨rfl, rfl⟩
set_option maxHeartbeats 4000000 in
theorem c_X1_islandKey (l : Launch) (D : va_G) (cA : ClassId) (ob ro ar : Nat → Nat) (S : jS) (b y : Int32) : jjFn l yX1_islandKey wsX1_islandKey 0 D cA [.int b, .int y] (jW cA ob ro ar S) (some (.int (b * 16 + y))) (jW cA ob ro ar S) := by
  refine jjCon_of (own := RX1) (cc := cX1_islandKey) (nL := 2) (rt := (some .int)) (I := jI0) [some (.int b), some (.int y)] jm_X1_islandKey (by decide +kernel) rfl (fun _ _ _ _ _ => trivial) (Nat.le_of_ble_eq_true rfl) rfl ?_
  refine jj_iload_n (pc := 0) 0 dX1_islandKey_0 rfl rfl ?_
  refine jj_bipush (pc := 1) (v := 16) dX1_islandKey_1 rfl ?_
  refine jj_imul (pc := 3) dX1_islandKey_3 ?_
  refine jj_iload_n (pc := 4) 1 dX1_islandKey_4 rfl rfl ?_
  refine jj_iadd (pc := 5) dX1_islandKey_5 ?_
  refine jj_iret (pc := 6) dX1_islandKey_6 ?_
  exact ⟨rfl, rfl⟩
set_option maxHeartbeats 4000000 in
theorem c_X1_isLaid (l : Launch) (D : va_G) (cA : ClassId) (ob ro ar : Nat → Nat) (S : jS) {j : Nat} (hj : j < 3) (p : Int32) : jjFn l yX1_isLaid wsX1_isLaid 1 D cA [.ref (ob (7 + j)), .int p] (jW cA ob ro ar S) (some (.int (bI (mLaid S j p)))) (jW cA ob ro ar S) := by
  refine jjCon_of (own := RX1) (cc := cX1_isLaid) (nL := 2) (rt := (some .boolean)) (I := jI0) [some (.ref (ob (7 + j))), some (.int p)] jm_X1_isLaid (by decide +kernel) rfl (fun _ _ _ _ _ => trivial) (Nat.le_of_ble_eq_true rfl) rfl ?_
  refine jj_aload_n (pc := 0) 0 dX1_isLaid_0 rfl rfl ?_
  refine jj_g_L_4 (pc := 1) (j := j) (by omega) dX1_isLaid_1 fd_X1_isLaid_30 ?_
  refine jj_iload_n (pc := 4) 1 dX1_isLaid_4 rfl rfl ?_
  refine jj_rget (pc := 5) (r := 15 + 3 * j) (by omega) dX1_isLaid_5 gX1_isLaid_X4_get (by decide) (Nat.le_of_ble_eq_true rfl) jz ?_
  refine jj_iconst (pc := 8) (v := (-1)) dX1_isLaid_8 rfl ?_
  refine jj_icmp_eq (pc := 9) 16 dX1_isLaid_9 (by decide) (fun h9 => ?_) (fun h9 => ?_)
  · refine jj_iconst (pc := 16) (v := 0) dX1_isLaid_16 rfl ?_
    refine jj_zret (pc := 17) rfl dX1_isLaid_17 ?_
    exact ⟨by simp [mLaid, mPlace, bI, h9], rfl⟩
  · refine jj_iconst (pc := 12) (v := 1) dX1_isLaid_12 rfl ?_
    refine jj_goto (pc := 13) 17 dX1_isLaid_13 (by decide) ?_
    refine jj_zret (pc := 17) rfl dX1_isLaid_17 ?_
    exact ⟨by simp [mLaid, mPlace, bI, h9], rfl⟩
set_option maxHeartbeats 4000000 in
theorem c_X1_placeOfSymbol (l : Launch) (D : va_G) (cA : ClassId) (ob ro ar : Nat → Nat) (S : jS) {j : Nat} (hj : j < 3) (y : Int32) : jjFn l yX1_placeOfSymbol wsX1_placeOfSymbol 1 D cA [.ref (ob (7 + j)), .int y] (jW cA ob ro ar S) (some (.int (mPlace S j (mStand S j y)))) (jW cA ob ro ar S) := by
  refine jjCon_of (own := RX1) (cc := cX1_placeOfSymbol) (nL := 2) (rt := (some .int)) (I := jI0) [some (.ref (ob (7 + j))), some (.int y)] jm_X1_placeOfSymbol (by decide +kernel) rfl (fun _ _ _ _ _ => trivial) (Nat.le_of_ble_eq_true rfl) rfl ?_
  refine jj_aload_n (pc := 0) 0 dX1_placeOfSymbol_0 rfl rfl ?_
  refine jj_g_L_4 (pc := 1) (j := j) (by omega) dX1_placeOfSymbol_1 fd_X1_placeOfSymbol_30 ?_
  refine jj_aload_n (pc := 4) 0 dX1_placeOfSymbol_4 rfl rfl ?_
  refine jj_g_L_3 (pc := 5) (j := j) (by omega) dX1_placeOfSymbol_5 fd_X1_placeOfSymbol_26 ?_
  refine jj_iload_n (pc := 8) 1 dX1_placeOfSymbol_8 rfl rfl ?_
  refine jj_rget (pc := 9) (r := 14 + 3 * j) (by omega) dX1_placeOfSymbol_9 gX1_placeOfSymbol_X4_get (by decide) (Nat.le_of_ble_eq_true rfl) jz ?_
  refine jj_rget (pc := 12) (r := 15 + 3 * j) (by omega) dX1_placeOfSymbol_12 gX1_placeOfSymbol_X4_get (by decide) (Nat.le_of_ble_eq_true rfl) jz ?_
  refine jj_iret (pc := 15) dX1_placeOfSymbol_15 ?_
  exact ⟨rfl, rfl⟩
set_option maxHeartbeats 4000000 in
theorem c_X1_isInReach (l : Launch) (D : va_G) (cA : ClassId) (ob ro ar : Nat → Nat) (S : jS) {j : Nat} (hj : j < 3) (a b : Int32) : jjFn l yX1_isInReach wsX1_isInReach 0 D cA [.ref (ob (7 + j)), .int a, .int b] (jW cA ob ro ar S) (some (.int (bI (inR (mReach S j) a b)))) (jW cA ob ro ar S) := by
  refine jjCon_of (own := RX1) (cc := cX1_isInReach) (nL := 3) (rt := (some .boolean)) (I := jI0) [some (.ref (ob (7 + j))), some (.int a), some (.int b)] jm_X1_isInReach (by decide +kernel) rfl (fun _ _ _ _ _ => trivial) (Nat.le_of_ble_eq_true rfl) rfl ?_
  refine jj_iload_n (pc := 0) 1 dX1_isInReach_0 rfl rfl ?_
  refine jj_iconst (pc := 1) (v := (-1)) dX1_isInReach_1 rfl ?_
  refine jj_icmp_eq (pc := 2) 34 dX1_isInReach_2 (by decide) (fun h2 => ?_) (fun h2 => ?_)
  · refine jj_iconst (pc := 34) (v := 0) dX1_isInReach_34 rfl ?_
    refine jj_zret (pc := 35) rfl dX1_isInReach_35 ?_
    exact ⟨by rw [inR, decide_eq_false (fun z => z.1 h2)]; rfl, rfl⟩
  · refine jj_iload_n (pc := 5) 2 dX1_isInReach_5 rfl rfl ?_
    refine jj_iconst (pc := 6) (v := (-1)) dX1_isInReach_6 rfl ?_
    refine jj_icmp_eq (pc := 7) 34 dX1_isInReach_7 (by decide) (fun h7 => ?_) (fun h7 => ?_)
    · refine jj_iconst (pc := 34) (v := 0) dX1_isInReach_34 rfl ?_
      refine jj_zret (pc := 35) rfl dX1_isInReach_35 ?_
      exact ⟨by rw [inR, decide_eq_false (fun z => z.2.1 h7)]; rfl, rfl⟩
    · refine jj_iload_n (pc := 10) 1 dX1_isInReach_10 rfl rfl ?_
      refine jj_iload_n (pc := 11) 2 dX1_isInReach_11 rfl rfl ?_
      refine jj_isub (pc := 12) dX1_isInReach_12 ?_
      refine jj_aload_n (pc := 13) 0 dX1_isInReach_13 rfl rfl ?_
      refine jj_g_L_0 (pc := 14) (j := j) (by omega) dX1_isInReach_14 fd_X1_isInReach_9 ?_
      refine jj_icmp_gt (pc := 17) 34 dX1_isInReach_17 (by decide) (fun h17 => ?_) (fun h17 => ?_)
      · refine jj_iconst (pc := 34) (v := 0) dX1_isInReach_34 rfl ?_
        refine jj_zret (pc := 35) rfl dX1_isInReach_35 ?_
        exact ⟨by rw [inR, decide_eq_false (fun z => absurd z.2.2.1 (by rw [Int32.not_le]; exact h17))]; rfl, rfl⟩
      · refine jj_iload_n (pc := 20) 2 dX1_isInReach_20 rfl rfl ?_
        refine jj_iload_n (pc := 21) 1 dX1_isInReach_21 rfl rfl ?_
        refine jj_isub (pc := 22) dX1_isInReach_22 ?_
        refine jj_aload_n (pc := 23) 0 dX1_isInReach_23 rfl rfl ?_
        refine jj_g_L_0 (pc := 24) (j := j) (by omega) dX1_isInReach_24 fd_X1_isInReach_9 ?_
        refine jj_icmp_gt (pc := 27) 34 dX1_isInReach_27 (by decide) (fun h27 => ?_) (fun h27 => ?_)
        · refine jj_iconst (pc := 34) (v := 0) dX1_isInReach_34 rfl ?_
          refine jj_zret (pc := 35) rfl dX1_isInReach_35 ?_
          exact ⟨by rw [inR, decide_eq_false (fun z => absurd z.2.2.2 (by rw [Int32.not_le]; exact h27))]; rfl, rfl⟩
        · refine jj_iconst (pc := 30) (v := 1) dX1_isInReach_30 rfl ?_
          refine jj_goto (pc := 31) 35 dX1_isInReach_31 (by decide) ?_
          refine jj_zret (pc := 35) rfl dX1_isInReach_35 ?_
          exact ⟨by rw [inR, decide_eq_true ⟨h2, h7, by rw [Int32.not_lt] at h17; exact h17, by rw [Int32.not_lt] at h27; exact h27⟩]; rfl, rfl⟩
set_option maxHeartbeats 4000000 in
theorem c_X1_reachesSymbol (l : Launch) (D : va_G) (cA : ClassId) (ob ro ar : Nat → Nat) (S : jS) {j : Nat} (hj : j < 3) (p y : Int32) : jjFn l yX1_reachesSymbol wsX1_reachesSymbol 1 D cA [.ref (ob (7 + j)), .int p, .int y] (jW cA ob ro ar S) (some (.int (bI (mReSy S j p y)))) (jW cA ob ro ar S) := by
  refine jjCon_of (own := RX1) (cc := cX1_reachesSymbol) (nL := 3) (rt := (some .boolean)) (I := jI0) [some (.ref (ob (7 + j))), some (.int p), some (.int y)] jm_X1_reachesSymbol (by decide +kernel) rfl (fun _ _ _ _ _ => trivial) (Nat.le_of_ble_eq_true rfl) rfl ?_
  refine jj_aload_n (pc := 0) 0 dX1_reachesSymbol_0 rfl rfl ?_
  refine jj_aload_n (pc := 1) 0 dX1_reachesSymbol_1 rfl rfl ?_
  refine jj_g_L_4 (pc := 2) (j := j) (by omega) dX1_reachesSymbol_2 fd_X1_reachesSymbol_30 ?_
  refine jj_iload_n (pc := 5) 1 dX1_reachesSymbol_5 rfl rfl ?_
  refine jj_rget (pc := 6) (r := 15 + 3 * j) (by omega) dX1_reachesSymbol_6 gX1_reachesSymbol_X4_get (by decide) (Nat.le_of_ble_eq_true rfl) jz ?_
  refine jj_aload_n (pc := 9) 0 dX1_reachesSymbol_9 rfl rfl ?_
  refine jj_g_L_4 (pc := 10) (j := j) (by omega) dX1_reachesSymbol_10 fd_X1_reachesSymbol_30 ?_
  refine jj_aload_n (pc := 13) 0 dX1_reachesSymbol_13 rfl rfl ?_
  refine jj_g_L_3 (pc := 14) (j := j) (by omega) dX1_reachesSymbol_14 fd_X1_reachesSymbol_26 ?_
  refine jj_iload_n (pc := 17) 2 dX1_reachesSymbol_17 rfl rfl ?_
  refine jj_rget (pc := 18) (r := 14 + 3 * j) (by omega) dX1_reachesSymbol_18 gX1_reachesSymbol_X4_get (by decide) (Nat.le_of_ble_eq_true rfl) jz ?_
  refine jj_rget (pc := 21) (r := 15 + 3 * j) (by omega) dX1_reachesSymbol_21 gX1_reachesSymbol_X4_get (by decide) (Nat.le_of_ble_eq_true rfl) jz ?_
  refine jj_callVr (pc := 24) _ (c_X1_isInReach l D cA ob ro ar _ (j := j) (by omega) _ _) dX1_reachesSymbol_24 gX1_reachesSymbol_X1_isInReach jm_X1_isInReach rfl (by decide) (7 + j) (jq_L (by omega)) rfl rfl rfl (Nat.le_of_ble_eq_true rfl) jz ?_
  refine jj_zret (pc := 27) (bI_n _) dX1_reachesSymbol_27 ?_
  exact ⟨rfl, rfl⟩
set_option maxHeartbeats 4000000 in
theorem c_X1_reachesIsland (l : Launch) (D : va_G) (cA : ClassId) (ob ro ar : Nat → Nat) (S : jS) {j : Nat} (hj : j < 3) (p b y : Int32) : jjFn l yX1_reachesIsland wsX1_reachesIsland 1 D cA [.ref (ob (7 + j)), .int p, .int b, .int y] (jW cA ob ro ar S) (some (.int (bI (mReIs S j p b y)))) (jW cA ob ro ar S) := by
  refine jjCon_of (own := RX1) (cc := cX1_reachesIsland) (nL := 4) (rt := (some .boolean)) (I := jI0) [some (.ref (ob (7 + j))), some (.int p), some (.int b), some (.int y)] jm_X1_reachesIsland (by decide +kernel) rfl (fun _ _ _ _ _ => trivial) (Nat.le_of_ble_eq_true rfl) rfl ?_
  refine jj_aload_n (pc := 0) 0 dX1_reachesIsland_0 rfl rfl ?_
  refine jj_aload_n (pc := 1) 0 dX1_reachesIsland_1 rfl rfl ?_
  refine jj_g_L_4 (pc := 2) (j := j) (by omega) dX1_reachesIsland_2 fd_X1_reachesIsland_30 ?_
  refine jj_iload_n (pc := 5) 1 dX1_reachesIsland_5 rfl rfl ?_
  refine jj_rget (pc := 6) (r := 15 + 3 * j) (by omega) dX1_reachesIsland_6 gX1_reachesIsland_X4_get (by decide) (Nat.le_of_ble_eq_true rfl) jz ?_
  refine jj_aload_n (pc := 9) 0 dX1_reachesIsland_9 rfl rfl ?_
  refine jj_g_L_5 (pc := 10) (j := j) (by omega) dX1_reachesIsland_10 fd_X1_reachesIsland_33 ?_
  refine jj_iload_n (pc := 13) 2 dX1_reachesIsland_13 rfl rfl ?_
  refine jj_iload_n (pc := 14) 3 dX1_reachesIsland_14 rfl rfl ?_
  refine jj_callSr (pc := 15) _ (c_X1_islandKey l D cA ob ro ar _ _ _) dX1_reachesIsland_15 gX1_reachesIsland_X1_islandKey jm_X1_islandKey (by decide) rfl rfl (Nat.le_of_ble_eq_true rfl) jz ?_
  refine jj_rget (pc := 18) (r := 16 + 3 * j) (by omega) dX1_reachesIsland_18 gX1_reachesIsland_X4_get (by decide) (Nat.le_of_ble_eq_true rfl) jz ?_
  refine jj_callVr (pc := 21) _ (c_X1_isInReach l D cA ob ro ar _ (j := j) (by omega) _ _) dX1_reachesIsland_21 gX1_reachesIsland_X1_isInReach jm_X1_isInReach rfl (by decide) (7 + j) (jq_L (by omega)) rfl rfl rfl (Nat.le_of_ble_eq_true rfl) jz ?_
  refine jj_zret (pc := 24) (bI_n _) dX1_reachesIsland_24 ?_
  exact ⟨rfl, rfl⟩
set_option maxHeartbeats 4000000 in
theorem c_X1_losesSymbol (l : Launch) (D : va_G) (cA : ClassId) (ob ro ar : Nat → Nat) (S : jS) {j : Nat} (hj : j < 3) (y : Int32) : jjFn l yX1_losesSymbol wsX1_losesSymbol 2 D cA [.ref (ob (7 + j)), .ref (ob 1), .int y] (jW cA ob ro ar S) (some (.int (bI (mLoses S j y)))) (jW cA ob ro ar S) := by
  refine jjCon_of (own := RX1) (cc := cX1_losesSymbol) (nL := 6) (rt := (some .boolean)) (I := jI0) [some (.ref (ob (7 + j))), some (.ref (ob 1)), some (.int y), none, none, none] jm_X1_losesSymbol (by decide +kernel) rfl (fun _ _ _ _ _ => trivial) (Nat.le_of_ble_eq_true rfl) rfl ?_
  have K : ∀ i, i ≤ (S.1 2).toNatClampNeg → jany (mLosP S j y) i = false → jjV l RX1 cX1_losesSymbol 6 (some .boolean) jI0 wsX1_losesSymbol (jjRm 2 0 0) D cA (jjEnd D (fun r0 w0 => r0 = some (.int (bI (mLoses S j y))) ∧ w0 = jW cA ob ro ar S) 0 0) 0 0 (jW cA ob ro ar S) 2 [some (.ref (ob (7 + j))), some (.ref (ob 1)), some (.int y), some (.int (nI i)), none, none] [] := by
    refine jdown _ (fun hn => ?_) (fun i hi ih hn => ?_)
    · refine jj_iload_n (pc := 2) 3 dX1_losesSymbol_2 rfl rfl ?_
      refine jj_aload_n (pc := 3) 1 dX1_losesSymbol_3 rfl rfl ?_
      refine jj_g_1_9 (pc := 4) dX1_losesSymbol_4 fd_X1_losesSymbol_56 ?_
      refine jj_icmp_ge (pc := 7) 103 dX1_losesSymbol_7 (by decide) (fun h7 => ?_) (fun h7 => ?_)
      · refine jj_iconst (pc := 103) (v := 0) dX1_losesSymbol_103 rfl ?_
        refine jj_zret (pc := 104) rfl dX1_losesSymbol_104 ?_
        exact ⟨by rw [mLoses, hn]; rfl, rfl⟩
      · exact absurd (jb_ge rfl) h7
    · have K2 : ∀ k, k ≤ (mLosK S j (nI i)).toNatClampNeg → jany (mLos1 S j y (nI i)) k = false → jjV l RX1 cX1_losesSymbol 6 (some .boolean) jI0 wsX1_losesSymbol (jjRm 2 0 0) D cA (jjEnd D (fun r0 w0 => r0 = some (.int (bI (mLoses S j y))) ∧ w0 = jW cA ob ro ar S) 0 0) 0 0 (jW cA ob ro ar S) 35 [some (.ref (ob (7 + j))), some (.ref (ob 1)), some (.int y), some (.int (nI i)), some (.int (mLosK S j (nI i))), some (.int (nI k))] [] := by
        refine jdown _ (fun hn2 => ?_) (fun k hk ih2 hn2 => ?_)
        · refine jj_iload (pc := 35) dX1_losesSymbol_35 rfl ?_
          refine jj_iload (pc := 37) dX1_losesSymbol_37 rfl ?_
          refine jj_icmp_ge (pc := 39) 97 dX1_losesSymbol_39 (by decide) (fun h39 => ?_) (fun h39 => ?_)
          · refine jj_iinc_3 (pc := 97) (z := 1) dX1_losesSymbol_97 rfl rfl (by decide) ?_
            refine jj_goto (pc := 100) 2 dX1_losesSymbol_100 (by decide) ?_
            have h3 := ih (by rw [jany, hn, mLosP, hn2]; rfl)
            rw [nI_succ] at h3
            refine jj_sub ?_ h3
            exact jjLe_some (jjLe_some (jjLe_some (jjLe_some (jjLe_none (jjLe_none jjLe_nil)))))
          · exact absurd (jb_ge rfl) h39
        · refine jj_iload (pc := 35) dX1_losesSymbol_35 rfl ?_
          refine jj_iload (pc := 37) dX1_losesSymbol_37 rfl ?_
          refine jj_icmp_ge (pc := 39) 97 dX1_losesSymbol_39 (by decide) (fun h39 => ?_) (fun h39 => ?_)
          · exact absurd h39 (jb_lt rfl hk)
          · refine jj_aload_n (pc := 42) 1 dX1_losesSymbol_42 rfl rfl ?_
            refine jj_iload_n (pc := 43) 3 dX1_losesSymbol_43 rfl rfl ?_
            refine jj_iload (pc := 44) dX1_losesSymbol_44 rfl ?_
            refine jj_callVr (pc := 46) _ (c_X6_isNear l D cA ob ro ar _ _ _) dX1_losesSymbol_46 gX1_losesSymbol_X6_isNear jm_X6_isNear rfl (by decide) 1 jq_1 rfl rfl rfl (Nat.le_of_ble_eq_true rfl) jz ?_
            refine jj_if_eq (pc := 49) 91 dX1_losesSymbol_49 (by decide) (fun h49 => ?_) (fun h49 => ?_)
            · refine jj_iinc_5 (pc := 91) (z := 1) dX1_losesSymbol_91 rfl rfl (by decide) ?_
              refine jj_goto (pc := 94) 35 dX1_losesSymbol_94 (by decide) ?_
              have h4 : mLos1 S j y (nI i) k = false := by
                rw [mLos1, bI_0 h49]; rfl
              have h3 := ih2 (by rw [jany, hn2, h4]; rfl)
              rw [nI_succ] at h3
              exact h3
            · refine jj_aload_n (pc := 52) 1 dX1_losesSymbol_52 rfl rfl ?_
              refine jj_iload_n (pc := 53) 3 dX1_losesSymbol_53 rfl rfl ?_
              refine jj_iload (pc := 54) dX1_losesSymbol_54 rfl ?_
              refine jj_callVr (pc := 56) _ (c_X6_target l D cA ob ro ar _ _ _) dX1_losesSymbol_56 gX1_losesSymbol_X6_target jm_X6_target rfl (by decide) 1 jq_1 rfl rfl rfl (Nat.le_of_ble_eq_true rfl) jz ?_
              refine jj_iload_n (pc := 59) 2 dX1_losesSymbol_59 rfl rfl ?_
              refine jj_icmp_ne (pc := 60) 91 dX1_losesSymbol_60 (by decide) (fun h60 => ?_) (fun h60 => ?_)
              · refine jj_iinc_5 (pc := 91) (z := 1) dX1_losesSymbol_91 rfl rfl (by decide) ?_
                refine jj_goto (pc := 94) 35 dX1_losesSymbol_94 (by decide) ?_
                have h4 : mLos1 S j y (nI i) k = false := by
                  rw [mLos1, decide_eq_false h60, Bool.and_false]; rfl
                have h3 := ih2 (by rw [jany, hn2, h4]; rfl)
                rw [nI_succ] at h3
                exact h3
              · refine jj_aload_n (pc := 63) 0 dX1_losesSymbol_63 rfl rfl ?_
                refine jj_iload_n (pc := 64) 3 dX1_losesSymbol_64 rfl rfl ?_
                refine jj_iload_n (pc := 65) 2 dX1_losesSymbol_65 rfl rfl ?_
                refine jj_callVr (pc := 66) _ (c_X1_reachesSymbol l D cA ob ro ar _ (j := j) (by omega) _ _) dX1_losesSymbol_66 gX1_losesSymbol_X1_reachesSymbol jm_X1_reachesSymbol rfl (by decide) (7 + j) (jq_L (by omega)) rfl rfl rfl (Nat.le_of_ble_eq_true rfl) jz ?_
                refine jj_if_ne (pc := 69) 91 dX1_losesSymbol_69 (by decide) (fun h69 => ?_) (fun h69 => ?_)
                · refine jj_iinc_5 (pc := 91) (z := 1) dX1_losesSymbol_91 rfl rfl (by decide) ?_
                  refine jj_goto (pc := 94) 35 dX1_losesSymbol_94 (by decide) ?_
                  have h4 : mLos1 S j y (nI i) k = false := by
                    rw [mLos1, bI_1 h69]; simp
                  have h3 := ih2 (by rw [jany, hn2, h4]; rfl)
                  rw [nI_succ] at h3
                  exact h3
                · refine jj_aload_n (pc := 72) 0 dX1_losesSymbol_72 rfl rfl ?_
                  refine jj_iload_n (pc := 73) 3 dX1_losesSymbol_73 rfl rfl ?_
                  refine jj_aload_n (pc := 74) 1 dX1_losesSymbol_74 rfl rfl ?_
                  refine jj_g_1_2 (pc := 75) dX1_losesSymbol_75 fd_X1_losesSymbol_77 ?_
                  refine jj_iload_n (pc := 78) 3 dX1_losesSymbol_78 rfl rfl ?_
                  refine jj_rget (pc := 79) (r := 2) (by decide) dX1_losesSymbol_79 gX1_losesSymbol_X4_get (by decide) (Nat.le_of_ble_eq_true rfl) jz ?_
                  refine jj_iload_n (pc := 82) 2 dX1_losesSymbol_82 rfl rfl ?_
                  refine jj_callVr (pc := 83) _ (c_X1_reachesIsland l D cA ob ro ar _ (j := j) (by omega) _ _ _) dX1_losesSymbol_83 gX1_losesSymbol_X1_reachesIsland jm_X1_reachesIsland rfl (by decide) (7 + j) (jq_L (by omega)) rfl rfl rfl (Nat.le_of_ble_eq_true rfl) jz ?_
                  refine jj_if_ne (pc := 86) 91 dX1_losesSymbol_86 (by decide) (fun h86 => ?_) (fun h86 => ?_)
                  · refine jj_iinc_5 (pc := 91) (z := 1) dX1_losesSymbol_91 rfl rfl (by decide) ?_
                    refine jj_goto (pc := 94) 35 dX1_losesSymbol_94 (by decide) ?_
                    have h4 : mLos1 S j y (nI i) k = false := by
                      rw [mLos1, bI_1 h86]; simp
                    have h3 := ih2 (by rw [jany, hn2, h4]; rfl)
                    rw [nI_succ] at h3
                    exact h3
                  · refine jj_iconst (pc := 89) (v := 1) dX1_losesSymbol_89 rfl ?_
                    refine jj_zret (pc := 90) rfl dX1_losesSymbol_90 ?_
                    have h4 : mLos1 S j y (nI i) k = true := by
                      rw [mLos1, bI_1 h49, decide_eq_true h60, bI_0 h69, bI_0 h86]; rfl
                    exact ⟨by rw [mLoses, jany_t hi (by rw [mLosP]; exact jany_t hk h4)]; rfl, rfl⟩
      refine jj_iload_n (pc := 2) 3 dX1_losesSymbol_2 rfl rfl ?_
      refine jj_aload_n (pc := 3) 1 dX1_losesSymbol_3 rfl rfl ?_
      refine jj_g_1_9 (pc := 4) dX1_losesSymbol_4 fd_X1_losesSymbol_56 ?_
      refine jj_icmp_ge (pc := 7) 103 dX1_losesSymbol_7 (by decide) (fun h7 => ?_) (fun h7 => ?_)
      · exact absurd h7 (jb_lt rfl hi)
      · refine jj_aload_n (pc := 10) 0 dX1_losesSymbol_10 rfl rfl ?_
        refine jj_iload_n (pc := 11) 3 dX1_losesSymbol_11 rfl rfl ?_
        refine jj_callVr (pc := 12) _ (c_X1_isLaid l D cA ob ro ar _ (j := j) (by omega) _) dX1_losesSymbol_12 gX1_losesSymbol_X1_isLaid jm_X1_isLaid rfl (by decide) (7 + j) (jq_L (by omega)) rfl rfl rfl (Nat.le_of_ble_eq_true rfl) jz ?_
        refine jj_if_eq (pc := 15) 29 dX1_losesSymbol_15 (by decide) (fun h15 => ?_) (fun h15 => ?_)
        · refine jj_iconst (pc := 29) (v := 0) dX1_losesSymbol_29 rfl ?_
          refine jj_istore_4 (pc := 30) dX1_losesSymbol_30 rfl (by decide) ?_
          refine jj_iconst (pc := 32) (v := 0) dX1_losesSymbol_32 rfl ?_
          refine jj_istore_5 (pc := 33) dX1_losesSymbol_33 rfl (by decide) ?_
          have h2 := K2 0 (Nat.zero_le _) rfl
          rw [mLosK, if_neg (by rw [bI_0 h15]; decide)] at h2
          exact h2
        · refine jj_aload_n (pc := 18) 1 dX1_losesSymbol_18 rfl rfl ?_
          refine jj_g_1_6 (pc := 19) dX1_losesSymbol_19 fd_X1_losesSymbol_65 ?_
          refine jj_iload_n (pc := 22) 3 dX1_losesSymbol_22 rfl rfl ?_
          refine jj_rget (pc := 23) (r := 6) (by decide) dX1_losesSymbol_23 gX1_losesSymbol_X4_get (by decide) (Nat.le_of_ble_eq_true rfl) jz ?_
          refine jj_goto (pc := 26) 30 dX1_losesSymbol_26 (by decide) ?_
          refine jj_istore_4 (pc := 30) dX1_losesSymbol_30 rfl (by decide) ?_
          refine jj_iconst (pc := 32) (v := 0) dX1_losesSymbol_32 rfl ?_
          refine jj_istore_5 (pc := 33) dX1_losesSymbol_33 rfl (by decide) ?_
          have h2 := K2 0 (Nat.zero_le _) rfl
          rw [mLosK, if_pos (bI_1 h15)] at h2
          exact h2
  refine jj_iconst (pc := 0) (v := 0) dX1_losesSymbol_0 rfl ?_
  refine jj_istore_n_3 (pc := 1) dX1_losesSymbol_1 rfl rfl (by decide) ?_
  exact K 0 (Nat.zero_le _) rfl
