/-! The class Patches. -/
def mWait (S : jS) (k : Int32) : Bool := decide (0 ≤ k ∧ k < S.1 18 ∧ jg S 33 k = 0)
def mPSym (S : jS) (k : Int32) : Int32 := jg S 3 (jg S 31 k)
def mWaiting (S : jS) : Nat → Int32
  | 0 => 0
  | i + 1 => if mWait S (nI i) = true then mWaiting S i + 1 else mWaiting S i
def mWaitFor (S : jS) (y : Int32) : Nat → Int32
  | 0 => 0
  | i + 1 => if mWait S (nI i) = true ∧ mPSym S (nI i) = y then mWaitFor S y i + 1 else mWaitFor S y i
def mWBQ (S : jS) (y : Int32) (i : Nat) : Bool := mWait S (nI i) && decide (mPSym S (nI i) = y)
def mWB (S : jS) (k : Int32) : Bool := jany (mWBQ S (mPSym S k)) k.toNatClampNeg
def mTog (S : jS) (a b : Int32) : Bool := decide (a = b) || (decide (jg S 32 b ≠ 0) && decide (jg S 32 a = jg S 32 b))
def mGoes (S : jS) (a b : Int32) : Bool := mTog S a b && mWait S a
def jPEnd (S : jS) (b v : Int32) : Nat → jS
  | 0 => S
  | i + 1 => if mGoes (jPEnd S b v i) (nI i) b = true then jset (jPEnd S b v i) 33 (nI i) v else jPEnd S b v i
theorem jPEnd_1 (S : jS) (b v : Int32) : ∀ i, (jPEnd S b v i).1 = S.1
  | 0 => rfl
  | i + 1 => by
    rw [jPEnd]
    split
    · exact jPEnd_1 S b v i
    · exact jPEnd_1 S b v i
def jPAdd (S : jS) (p g : Int32) : jS := js (jset (jset (jset S 31 (S.1 18) p) 32 (S.1 18) g) 33 (S.1 18) 0) 18 (S.1 18 + 1)
def mNP (S : jS) : Nat := (S.1 18).toNatClampNeg
set_option maxHeartbeats 4000000 in
theorem c_X3_forget (l : Launch) (D : va_G) (cA : ClassId) (ob ro ar : Nat → Nat) (S : jS)  : jjFn l yX3_forget wsX3_forget 0 D cA [.ref (ob 6)] (jW cA ob ro ar S) none (jW cA ob ro ar (js S 18 0)) := by
  refine jjCon_of (own := RX3) (cc := cX3_forget) (nL := 1) (rt := none) (I := jI0) [some (.ref (ob 6))] jm_X3_forget (by decide +kernel) rfl (fun _ _ _ _ _ => trivial) (Nat.le_of_ble_eq_true rfl) rfl ?_
  refine jj_aload_n (pc := 0) 0 dX3_forget_0 rfl rfl ?_
  refine jj_iconst (pc := 1) (v := 0) dX3_forget_1 rfl ?_
  refine jj_p_6_3 (pc := 2) dX3_forget_2 fd_X3_forget_26 ?_
  refine jj_vret (pc := 5) dX3_forget_5 ?_
  exact ⟨rfl, rfl⟩
set_option maxHeartbeats 4000000 in
theorem c_X3_add (l : Launch) (D : va_G) (cA : ClassId) (ob ro ar : Nat → Nat) (S : jS) (p g : Int32) : jjFn l yX3_add wsX3_add 1 D cA [.ref (ob 6), .int p, .int g] (jW cA ob ro ar S) (some (.int (S.1 18 + 1 - 1))) (jW cA ob ro ar (jPAdd S p g)) := by
  refine jjCon_of (own := RX3) (cc := cX3_add) (nL := 3) (rt := (some .int)) (I := jI0) [some (.ref (ob 6)), some (.int p), some (.int g)] jm_X3_add (by decide +kernel) rfl (fun _ _ _ _ _ => trivial) (Nat.le_of_ble_eq_true rfl) rfl ?_
  refine jj_aload_n (pc := 0) 0 dX3_add_0 rfl rfl ?_
  refine jj_g_6_0 (pc := 1) dX3_add_1 fd_X3_add_14 ?_
  refine jj_aload_n (pc := 4) 0 dX3_add_4 rfl rfl ?_
  refine jj_g_6_3 (pc := 5) dX3_add_5 fd_X3_add_26 ?_
  refine jj_iload_n (pc := 8) 1 dX3_add_8 rfl rfl ?_
  refine jj_rset (pc := 9) (r := 31) (by decide) dX3_add_9 gX3_add_X4_set (by decide) (Nat.le_of_ble_eq_true rfl) jz ?_
  refine jj_aload_n (pc := 12) 0 dX3_add_12 rfl rfl ?_
  refine jj_g_6_1 (pc := 13) dX3_add_13 fd_X3_add_20 ?_
  refine jj_aload_n (pc := 16) 0 dX3_add_16 rfl rfl ?_
  refine jj_g_6_3 (pc := 17) dX3_add_17 fd_X3_add_26 ?_
  refine jj_iload_n (pc := 20) 2 dX3_add_20 rfl rfl ?_
  refine jj_rset (pc := 21) (r := 32) (by decide) dX3_add_21 gX3_add_X4_set (by decide) (Nat.le_of_ble_eq_true rfl) jz ?_
  refine jj_aload_n (pc := 24) 0 dX3_add_24 rfl rfl ?_
  refine jj_g_6_2 (pc := 25) dX3_add_25 fd_X3_add_23 ?_
  refine jj_aload_n (pc := 28) 0 dX3_add_28 rfl rfl ?_
  refine jj_g_6_3 (pc := 29) dX3_add_29 fd_X3_add_26 ?_
  refine jj_iconst (pc := 32) (v := 0) dX3_add_32 rfl ?_
  refine jj_rset (pc := 33) (r := 33) (by decide) dX3_add_33 gX3_add_X4_set (by decide) (Nat.le_of_ble_eq_true rfl) jz ?_
  refine jj_aload_n (pc := 36) 0 dX3_add_36 rfl rfl ?_
  refine jj_dup (pc := 37) dX3_add_37 rfl ?_
  refine jj_g_6_3 (pc := 38) dX3_add_38 fd_X3_add_26 ?_
  refine jj_iconst (pc := 41) (v := 1) dX3_add_41 rfl ?_
  refine jj_iadd (pc := 42) dX3_add_42 ?_
  refine jj_p_6_3 (pc := 43) dX3_add_43 fd_X3_add_26 ?_
  refine jj_aload_n (pc := 46) 0 dX3_add_46 rfl rfl ?_
  refine jj_g_6_3 (pc := 47) dX3_add_47 fd_X3_add_26 ?_
  refine jj_iconst (pc := 50) (v := 1) dX3_add_50 rfl ?_
  refine jj_isub (pc := 51) dX3_add_51 ?_
  refine jj_iret (pc := 52) dX3_add_52 ?_
  exact ⟨rfl, rfl⟩
set_option maxHeartbeats 4000000 in
theorem c_X3_isWaiting (l : Launch) (D : va_G) (cA : ClassId) (ob ro ar : Nat → Nat) (S : jS) (k : Int32) : jjFn l yX3_isWaiting wsX3_isWaiting 1 D cA [.ref (ob 6), .int k] (jW cA ob ro ar S) (some (.int (bI (mWait S k)))) (jW cA ob ro ar S) := by
  refine jjCon_of (own := RX3) (cc := cX3_isWaiting) (nL := 2) (rt := (some .boolean)) (I := jI0) [some (.ref (ob 6)), some (.int k)] jm_X3_isWaiting (by decide +kernel) rfl (fun _ _ _ _ _ => trivial) (Nat.le_of_ble_eq_true rfl) rfl ?_
  refine jj_iload_n (pc := 0) 1 dX3_isWaiting_0 rfl rfl ?_
  refine jj_if_lt (pc := 1) 27 dX3_isWaiting_1 (by decide) (fun h1 => ?_) (fun h1 => ?_)
  · refine jj_iconst (pc := 27) (v := 0) dX3_isWaiting_27 rfl ?_
    refine jj_zret (pc := 28) rfl dX3_isWaiting_28 ?_
    exact ⟨by rw [mWait, decide_eq_false (fun z => absurd z.1 (by rw [Int32.not_le]; exact h1))]; rfl, rfl⟩
  · refine jj_iload_n (pc := 4) 1 dX3_isWaiting_4 rfl rfl ?_
    refine jj_aload_n (pc := 5) 0 dX3_isWaiting_5 rfl rfl ?_
    refine jj_g_6_3 (pc := 6) dX3_isWaiting_6 fd_X3_isWaiting_26 ?_
    refine jj_icmp_ge (pc := 9) 27 dX3_isWaiting_9 (by decide) (fun h9 => ?_) (fun h9 => ?_)
    · refine jj_iconst (pc := 27) (v := 0) dX3_isWaiting_27 rfl ?_
      refine jj_zret (pc := 28) rfl dX3_isWaiting_28 ?_
      exact ⟨by rw [mWait, decide_eq_false (fun z => absurd z.2.1 (by rw [Int32.not_lt]; exact h9))]; rfl, rfl⟩
    · refine jj_aload_n (pc := 12) 0 dX3_isWaiting_12 rfl rfl ?_
      refine jj_g_6_2 (pc := 13) dX3_isWaiting_13 fd_X3_isWaiting_23 ?_
      refine jj_iload_n (pc := 16) 1 dX3_isWaiting_16 rfl rfl ?_
      refine jj_rget (pc := 17) (r := 33) (by decide) dX3_isWaiting_17 gX3_isWaiting_X4_get (by decide) (Nat.le_of_ble_eq_true rfl) jz ?_
      refine jj_if_ne (pc := 20) 27 dX3_isWaiting_20 (by decide) (fun h20 => ?_) (fun h20 => ?_)
      · refine jj_iconst (pc := 27) (v := 0) dX3_isWaiting_27 rfl ?_
        refine jj_zret (pc := 28) rfl dX3_isWaiting_28 ?_
        exact ⟨by rw [mWait, decide_eq_false (fun z => h20 z.2.2)]; rfl, rfl⟩
      · refine jj_iconst (pc := 23) (v := 1) dX3_isWaiting_23 rfl ?_
        refine jj_goto (pc := 24) 28 dX3_isWaiting_24 (by decide) ?_
        refine jj_zret (pc := 28) rfl dX3_isWaiting_28 ?_
        exact ⟨by rw [mWait, decide_eq_true ⟨by rw [Int32.not_lt] at h1; exact h1, by rw [Int32.not_le] at h9; exact h9, h20⟩]; rfl, rfl⟩
set_option maxHeartbeats 4000000 in
theorem c_X3_waiting (l : Launch) (D : va_G) (cA : ClassId) (ob ro ar : Nat → Nat) (S : jS)  : jjFn l yX3_waiting wsX3_waiting 2 D cA [.ref (ob 6)] (jW cA ob ro ar S) (some (.int (mWaiting S (mNP S)))) (jW cA ob ro ar S) := by
  refine jjCon_of (own := RX3) (cc := cX3_waiting) (nL := 3) (rt := (some .int)) (I := jI0) [some (.ref (ob 6)), none, none] jm_X3_waiting (by decide +kernel) rfl (fun _ _ _ _ _ => trivial) (Nat.le_of_ble_eq_true rfl) rfl ?_
  have K : ∀ i, i ≤ mNP S → jjV l RX3 cX3_waiting 3 (some .int) jI0 wsX3_waiting (jjRm 2 0 0) D cA (jjEnd D (fun r0 w0 => r0 = some (.int (mWaiting S (mNP S))) ∧ w0 = jW cA ob ro ar S) 0 0) 0 0 (jW cA ob ro ar S) 4 [some (.ref (ob 6)), some (.int (mWaiting S i)), some (.int (nI i))] [] := by
    refine jdown (mNP S) ?_ (fun i hi ih => ?_)
    · refine jj_iload_n (pc := 4) 2 dX3_waiting_4 rfl rfl ?_
      refine jj_aload_n (pc := 5) 0 dX3_waiting_5 rfl rfl ?_
      refine jj_g_6_3 (pc := 6) dX3_waiting_6 fd_X3_waiting_26 ?_
      refine jj_icmp_ge (pc := 9) 29 dX3_waiting_9 (by decide) (fun h9 => ?_) (fun h9 => ?_)
      · refine jj_iload_n (pc := 29) 1 dX3_waiting_29 rfl rfl ?_
        refine jj_iret (pc := 30) dX3_waiting_30 ?_
        exact ⟨rfl, rfl⟩
      · exact absurd (jb_ge rfl) h9
    · refine jj_iload_n (pc := 4) 2 dX3_waiting_4 rfl rfl ?_
      refine jj_aload_n (pc := 5) 0 dX3_waiting_5 rfl rfl ?_
      refine jj_g_6_3 (pc := 6) dX3_waiting_6 fd_X3_waiting_26 ?_
      refine jj_icmp_ge (pc := 9) 29 dX3_waiting_9 (by decide) (fun h9 => ?_) (fun h9 => ?_)
      · exact absurd h9 (jb_lt rfl hi)
      · refine jj_aload_n (pc := 12) 0 dX3_waiting_12 rfl rfl ?_
        refine jj_iload_n (pc := 13) 2 dX3_waiting_13 rfl rfl ?_
        refine jj_callVr (pc := 14) _ (c_X3_isWaiting l D cA ob ro ar _ _) dX3_waiting_14 gX3_waiting_X3_isWaiting jm_X3_isWaiting rfl (by decide) 6 jq_6 rfl rfl rfl (Nat.le_of_ble_eq_true rfl) jz ?_
        refine jj_if_eq (pc := 17) 23 dX3_waiting_17 (by decide) (fun h17 => ?_) (fun h17 => ?_)
        · refine jj_iinc_2 (pc := 23) (z := 1) dX3_waiting_23 rfl rfl (by decide) ?_
          refine jj_goto (pc := 26) 4 dX3_waiting_26 (by decide) ?_
          rw [nI_succ, mWaiting, if_neg (by rw [bI_0 h17]; decide)] at ih
          exact ih
        · refine jj_iinc_1 (pc := 20) (z := 1) dX3_waiting_20 rfl rfl (by decide) ?_
          refine jj_iinc_2 (pc := 23) (z := 1) dX3_waiting_23 rfl rfl (by decide) ?_
          refine jj_goto (pc := 26) 4 dX3_waiting_26 (by decide) ?_
          rw [nI_succ, mWaiting, if_pos (bI_1 h17)] at ih
          exact ih
  refine jj_iconst (pc := 0) (v := 0) dX3_waiting_0 rfl ?_
  refine jj_istore_n_1 (pc := 1) dX3_waiting_1 rfl rfl (by decide) ?_
  refine jj_iconst (pc := 2) (v := 0) dX3_waiting_2 rfl ?_
  refine jj_istore_n_2 (pc := 3) dX3_waiting_3 rfl rfl (by decide) ?_
  exact K 0 (Nat.zero_le _)
set_option maxHeartbeats 4000000 in
theorem c_X3_waitingFor (l : Launch) (D : va_G) (cA : ClassId) (ob ro ar : Nat → Nat) (S : jS) (y : Int32) : jjFn l yX3_waitingFor wsX3_waitingFor 2 D cA [.ref (ob 6), .ref (ob 1), .int y] (jW cA ob ro ar S) (some (.int (mWaitFor S y (mNP S)))) (jW cA ob ro ar S) := by
  refine jjCon_of (own := RX3) (cc := cX3_waitingFor) (nL := 5) (rt := (some .int)) (I := jI0) [some (.ref (ob 6)), some (.ref (ob 1)), some (.int y), none, none] jm_X3_waitingFor (by decide +kernel) rfl (fun _ _ _ _ _ => trivial) (Nat.le_of_ble_eq_true rfl) rfl ?_
  have K : ∀ i, i ≤ mNP S → jjV l RX3 cX3_waitingFor 5 (some .int) jI0 wsX3_waitingFor (jjRm 2 0 0) D cA (jjEnd D (fun r0 w0 => r0 = some (.int (mWaitFor S y (mNP S))) ∧ w0 = jW cA ob ro ar S) 0 0) 0 0 (jW cA ob ro ar S) 5 [some (.ref (ob 6)), some (.ref (ob 1)), some (.int y), some (.int (mWaitFor S y i)), some (.int (nI i))] [] := by
    refine jdown (mNP S) ?_ (fun i hi ih => ?_)
    · refine jj_iload (pc := 5) dX3_waitingFor_5 rfl ?_
      refine jj_aload_n (pc := 7) 0 dX3_waitingFor_7 rfl rfl ?_
      refine jj_g_6_3 (pc := 8) dX3_waitingFor_8 fd_X3_waitingFor_26 ?_
      refine jj_icmp_ge (pc := 11) 52 dX3_waitingFor_11 (by decide) (fun h11 => ?_) (fun h11 => ?_)
      · refine jj_iload_n (pc := 52) 3 dX3_waitingFor_52 rfl rfl ?_
        refine jj_iret (pc := 53) dX3_waitingFor_53 ?_
        exact ⟨rfl, rfl⟩
      · exact absurd (jb_ge rfl) h11
    · refine jj_iload (pc := 5) dX3_waitingFor_5 rfl ?_
      refine jj_aload_n (pc := 7) 0 dX3_waitingFor_7 rfl rfl ?_
      refine jj_g_6_3 (pc := 8) dX3_waitingFor_8 fd_X3_waitingFor_26 ?_
      refine jj_icmp_ge (pc := 11) 52 dX3_waitingFor_11 (by decide) (fun h11 => ?_) (fun h11 => ?_)
      · exact absurd h11 (jb_lt rfl hi)
      · refine jj_aload_n (pc := 14) 0 dX3_waitingFor_14 rfl rfl ?_
        refine jj_iload (pc := 15) dX3_waitingFor_15 rfl ?_
        refine jj_callVr (pc := 17) _ (c_X3_isWaiting l D cA ob ro ar _ _) dX3_waitingFor_17 gX3_waitingFor_X3_isWaiting jm_X3_isWaiting rfl (by decide) 6 jq_6 rfl rfl rfl (Nat.le_of_ble_eq_true rfl) jz ?_
        refine jj_if_eq (pc := 20) 46 dX3_waitingFor_20 (by decide) (fun h20 => ?_) (fun h20 => ?_)
        · refine jj_iinc_4 (pc := 46) (z := 1) dX3_waitingFor_46 rfl rfl (by decide) ?_
          refine jj_goto (pc := 49) 5 dX3_waitingFor_49 (by decide) ?_
          rw [nI_succ, mWaitFor, if_neg (fun z => by rw [bI_0 h20] at z; exact absurd z.1 (by decide))] at ih
          exact ih
        · refine jj_aload_n (pc := 23) 1 dX3_waitingFor_23 rfl rfl ?_
          refine jj_g_1_3 (pc := 24) dX3_waitingFor_24 fd_X3_waitingFor_41 ?_
          refine jj_aload_n (pc := 27) 0 dX3_waitingFor_27 rfl rfl ?_
          refine jj_g_6_0 (pc := 28) dX3_waitingFor_28 fd_X3_waitingFor_14 ?_
          refine jj_iload (pc := 31) dX3_waitingFor_31 rfl ?_
          refine jj_rget (pc := 33) (r := 31) (by decide) dX3_waitingFor_33 gX3_waitingFor_X4_get (by decide) (Nat.le_of_ble_eq_true rfl) jz ?_
          refine jj_rget (pc := 36) (r := 3) (by decide) dX3_waitingFor_36 gX3_waitingFor_X4_get (by decide) (Nat.le_of_ble_eq_true rfl) jz ?_
          refine jj_iload_n (pc := 39) 2 dX3_waitingFor_39 rfl rfl ?_
          refine jj_icmp_ne (pc := 40) 46 dX3_waitingFor_40 (by decide) (fun h40 => ?_) (fun h40 => ?_)
          · refine jj_iinc_4 (pc := 46) (z := 1) dX3_waitingFor_46 rfl rfl (by decide) ?_
            refine jj_goto (pc := 49) 5 dX3_waitingFor_49 (by decide) ?_
            rw [nI_succ, mWaitFor, if_neg (fun z => h40 z.2)] at ih
            exact ih
          · refine jj_iinc_3 (pc := 43) (z := 1) dX3_waitingFor_43 rfl rfl (by decide) ?_
            refine jj_iinc_4 (pc := 46) (z := 1) dX3_waitingFor_46 rfl rfl (by decide) ?_
            refine jj_goto (pc := 49) 5 dX3_waitingFor_49 (by decide) ?_
            rw [nI_succ, mWaitFor, if_pos ⟨bI_1 h20, h40⟩] at ih
            exact ih
  refine jj_iconst (pc := 0) (v := 0) dX3_waitingFor_0 rfl ?_
  refine jj_istore_n_3 (pc := 1) dX3_waitingFor_1 rfl rfl (by decide) ?_
  refine jj_iconst (pc := 2) (v := 0) dX3_waitingFor_2 rfl ?_
  refine jj_istore_4 (pc := 3) dX3_waitingFor_3 rfl (by decide) ?_
  exact K 0 (Nat.zero_le _)
set_option maxHeartbeats 4000000 in
theorem c_X3_waitsBehind (l : Launch) (D : va_G) (cA : ClassId) (ob ro ar : Nat → Nat) (S : jS) (k : Int32) : jjFn l yX3_waitsBehind wsX3_waitsBehind 2 D cA [.ref (ob 6), .ref (ob 1), .int k] (jW cA ob ro ar S) (some (.int (bI (mWB S k)))) (jW cA ob ro ar S) := by
  refine jjCon_of (own := RX3) (cc := cX3_waitsBehind) (nL := 5) (rt := (some .boolean)) (I := jI0) [some (.ref (ob 6)), some (.ref (ob 1)), some (.int k), none, none] jm_X3_waitsBehind (by decide +kernel) rfl (fun _ _ _ _ _ => trivial) (Nat.le_of_ble_eq_true rfl) rfl ?_
  have K : ∀ i, i ≤ k.toNatClampNeg → jany (mWBQ S (mPSym S k)) i = false → jjV l RX3 cX3_waitsBehind 5 (some .boolean) jI0 wsX3_waitsBehind (jjRm 2 0 0) D cA (jjEnd D (fun r0 w0 => r0 = some (.int (bI (mWB S k))) ∧ w0 = jW cA ob ro ar S) 0 0) 0 0 (jW cA ob ro ar S) 19 [some (.ref (ob 6)), some (.ref (ob 1)), some (.int k), some (.int (mPSym S k)), some (.int (nI i))] [] := by
    refine jdown _ (fun hn => ?_) (fun i hi ih hn => ?_)
    · refine jj_iload (pc := 19) dX3_waitsBehind_19 rfl ?_
      refine jj_iload_n (pc := 21) 2 dX3_waitsBehind_21 rfl rfl ?_
      refine jj_icmp_ge (pc := 22) 62 dX3_waitsBehind_22 (by decide) (fun h22 => ?_) (fun h22 => ?_)
      · refine jj_iconst (pc := 62) (v := 0) dX3_waitsBehind_62 rfl ?_
        refine jj_zret (pc := 63) rfl dX3_waitsBehind_63 ?_
        exact ⟨by rw [mWB, hn]; rfl, rfl⟩
      · exact absurd (jb_ge rfl) h22
    · refine jj_iload (pc := 19) dX3_waitsBehind_19 rfl ?_
      refine jj_iload_n (pc := 21) 2 dX3_waitsBehind_21 rfl rfl ?_
      refine jj_icmp_ge (pc := 22) 62 dX3_waitsBehind_22 (by decide) (fun h22 => ?_) (fun h22 => ?_)
      · exact absurd h22 (jb_lt rfl hi)
      · refine jj_aload_n (pc := 25) 0 dX3_waitsBehind_25 rfl rfl ?_
        refine jj_iload (pc := 26) dX3_waitsBehind_26 rfl ?_
        refine jj_callVr (pc := 28) _ (c_X3_isWaiting l D cA ob ro ar _ _) dX3_waitsBehind_28 gX3_waitsBehind_X3_isWaiting jm_X3_isWaiting rfl (by decide) 6 jq_6 rfl rfl rfl (Nat.le_of_ble_eq_true rfl) jz ?_
        refine jj_if_eq (pc := 31) 56 dX3_waitsBehind_31 (by decide) (fun h31 => ?_) (fun h31 => ?_)
        · refine jj_iinc_4 (pc := 56) (z := 1) dX3_waitsBehind_56 rfl rfl (by decide) ?_
          refine jj_goto (pc := 59) 19 dX3_waitsBehind_59 (by decide) ?_
          have h3 := ih (by rw [jany, hn, mWBQ, bI_0 h31, Bool.false_and]; rfl)
          rw [nI_succ] at h3
          exact h3
        · refine jj_aload_n (pc := 34) 1 dX3_waitsBehind_34 rfl rfl ?_
          refine jj_g_1_3 (pc := 35) dX3_waitsBehind_35 fd_X3_waitsBehind_41 ?_
          refine jj_aload_n (pc := 38) 0 dX3_waitsBehind_38 rfl rfl ?_
          refine jj_g_6_0 (pc := 39) dX3_waitsBehind_39 fd_X3_waitsBehind_14 ?_
          refine jj_iload (pc := 42) dX3_waitsBehind_42 rfl ?_
          refine jj_rget (pc := 44) (r := 31) (by decide) dX3_waitsBehind_44 gX3_waitsBehind_X4_get (by decide) (Nat.le_of_ble_eq_true rfl) jz ?_
          refine jj_rget (pc := 47) (r := 3) (by decide) dX3_waitsBehind_47 gX3_waitsBehind_X4_get (by decide) (Nat.le_of_ble_eq_true rfl) jz ?_
          refine jj_iload_n (pc := 50) 3 dX3_waitsBehind_50 rfl rfl ?_
          refine jj_icmp_ne (pc := 51) 56 dX3_waitsBehind_51 (by decide) (fun h51 => ?_) (fun h51 => ?_)
          · refine jj_iinc_4 (pc := 56) (z := 1) dX3_waitsBehind_56 rfl rfl (by decide) ?_
            refine jj_goto (pc := 59) 19 dX3_waitsBehind_59 (by decide) ?_
            have h3 := ih (by rw [jany, hn, mWBQ, show decide (mPSym S (nI i) = mPSym S k) = false from decide_eq_false h51, Bool.and_false]; rfl)
            rw [nI_succ] at h3
            exact h3
          · refine jj_iconst (pc := 54) (v := 1) dX3_waitsBehind_54 rfl ?_
            refine jj_zret (pc := 55) rfl dX3_waitsBehind_55 ?_
            exact ⟨by rw [mWB, jany_t hi (by rw [mWBQ, bI_1 h31, show decide (mPSym S (nI i) = mPSym S k) = true from decide_eq_true h51]; rfl)]; rfl, rfl⟩
  refine jj_aload_n (pc := 0) 1 dX3_waitsBehind_0 rfl rfl ?_
  refine jj_g_1_3 (pc := 1) dX3_waitsBehind_1 fd_X3_waitsBehind_41 ?_
  refine jj_aload_n (pc := 4) 0 dX3_waitsBehind_4 rfl rfl ?_
  refine jj_g_6_0 (pc := 5) dX3_waitsBehind_5 fd_X3_waitsBehind_14 ?_
  refine jj_iload_n (pc := 8) 2 dX3_waitsBehind_8 rfl rfl ?_
  refine jj_rget (pc := 9) (r := 31) (by decide) dX3_waitsBehind_9 gX3_waitsBehind_X4_get (by decide) (Nat.le_of_ble_eq_true rfl) jz ?_
  refine jj_rget (pc := 12) (r := 3) (by decide) dX3_waitsBehind_12 gX3_waitsBehind_X4_get (by decide) (Nat.le_of_ble_eq_true rfl) jz ?_
  refine jj_istore_n_3 (pc := 15) dX3_waitsBehind_15 rfl rfl (by decide) ?_
  refine jj_iconst (pc := 16) (v := 0) dX3_waitsBehind_16 rfl ?_
  refine jj_istore_4 (pc := 17) dX3_waitsBehind_17 rfl (by decide) ?_
  exact K 0 (Nat.zero_le _) rfl
set_option maxHeartbeats 4000000 in
theorem c_X3_goesWith (l : Launch) (D : va_G) (cA : ClassId) (ob ro ar : Nat → Nat) (S : jS) (a b : Int32) : jjFn l yX3_goesWith wsX3_goesWith 2 D cA [.ref (ob 6), .int a, .int b] (jW cA ob ro ar S) (some (.int (bI (mGoes S a b)))) (jW cA ob ro ar S) := by
  refine jjCon_of (own := RX3) (cc := cX3_goesWith) (nL := 4) (rt := (some .boolean)) (I := jI0) [some (.ref (ob 6)), some (.int a), some (.int b), none] jm_X3_goesWith (by decide +kernel) rfl (fun _ _ _ _ _ => trivial) (Nat.le_of_ble_eq_true rfl) rfl ?_
  refine jj_iload_n (pc := 0) 1 dX3_goesWith_0 rfl rfl ?_
  refine jj_iload_n (pc := 1) 2 dX3_goesWith_1 rfl rfl ?_
  refine jj_icmp_eq (pc := 2) 35 dX3_goesWith_2 (by decide) (fun h2 => ?_) (fun h2 => ?_)
  · refine jj_iconst (pc := 35) (v := 1) dX3_goesWith_35 rfl ?_
    refine jj_goto (pc := 36) 40 dX3_goesWith_36 (by decide) ?_
    refine jj_istore_n_3 (pc := 40) dX3_goesWith_40 rfl rfl (by decide) ?_
    refine jj_iload_n (pc := 41) 3 dX3_goesWith_41 rfl rfl ?_
    refine jj_if_eq (pc := 42) 57 dX3_goesWith_42 (by decide) (fun h42 => ?_) (fun h42 => ?_)
    · refine jj_iconst (pc := 57) (v := 0) dX3_goesWith_57 rfl ?_
      refine jj_zret (pc := 58) rfl dX3_goesWith_58 ?_
      exact absurd h42 (by decide)
    · refine jj_aload_n (pc := 45) 0 dX3_goesWith_45 rfl rfl ?_
      refine jj_iload_n (pc := 46) 1 dX3_goesWith_46 rfl rfl ?_
      refine jj_callVr (pc := 47) _ (c_X3_isWaiting l D cA ob ro ar _ _) dX3_goesWith_47 gX3_goesWith_X3_isWaiting jm_X3_isWaiting rfl (by decide) 6 jq_6 rfl rfl rfl (Nat.le_of_ble_eq_true rfl) jz ?_
      refine jj_if_eq (pc := 50) 57 dX3_goesWith_50 (by decide) (fun h50 => ?_) (fun h50 => ?_)
      · refine jj_iconst (pc := 57) (v := 0) dX3_goesWith_57 rfl ?_
        refine jj_zret (pc := 58) rfl dX3_goesWith_58 ?_
        have ht : mTog S a b = true := by rw [mTog, decide_eq_true h2]; rfl
        exact ⟨by rw [mGoes, ht, bI_0 h50]; rfl, rfl⟩
      · refine jj_iconst (pc := 53) (v := 1) dX3_goesWith_53 rfl ?_
        refine jj_goto (pc := 54) 58 dX3_goesWith_54 (by decide) ?_
        refine jj_zret (pc := 58) rfl dX3_goesWith_58 ?_
        have ht : mTog S a b = true := by rw [mTog, decide_eq_true h2]; rfl
        exact ⟨by rw [mGoes, ht, bI_1 h50]; rfl, rfl⟩
  · refine jj_aload_n (pc := 5) 0 dX3_goesWith_5 rfl rfl ?_
    refine jj_g_6_1 (pc := 6) dX3_goesWith_6 fd_X3_goesWith_20 ?_
    refine jj_iload_n (pc := 9) 2 dX3_goesWith_9 rfl rfl ?_
    refine jj_rget (pc := 10) (r := 32) (by decide) dX3_goesWith_10 gX3_goesWith_X4_get (by decide) (Nat.le_of_ble_eq_true rfl) jz ?_
    refine jj_if_eq (pc := 13) 39 dX3_goesWith_13 (by decide) (fun h13 => ?_) (fun h13 => ?_)
    · refine jj_iconst (pc := 39) (v := 0) dX3_goesWith_39 rfl ?_
      refine jj_istore_n_3 (pc := 40) dX3_goesWith_40 rfl rfl (by decide) ?_
      refine jj_iload_n (pc := 41) 3 dX3_goesWith_41 rfl rfl ?_
      refine jj_if_eq (pc := 42) 57 dX3_goesWith_42 (by decide) (fun h42 => ?_) (fun h42 => ?_)
      · refine jj_iconst (pc := 57) (v := 0) dX3_goesWith_57 rfl ?_
        refine jj_zret (pc := 58) rfl dX3_goesWith_58 ?_
        have ht : mTog S a b = false := by rw [mTog, decide_eq_false h2, decide_eq_false (fun z => z h13)]; rfl
        exact ⟨by rw [mGoes, ht]; rfl, rfl⟩
      · refine jj_aload_n (pc := 45) 0 dX3_goesWith_45 rfl rfl ?_
        refine jj_iload_n (pc := 46) 1 dX3_goesWith_46 rfl rfl ?_
        refine jj_callVr (pc := 47) _ (c_X3_isWaiting l D cA ob ro ar _ _) dX3_goesWith_47 gX3_goesWith_X3_isWaiting jm_X3_isWaiting rfl (by decide) 6 jq_6 rfl rfl rfl (Nat.le_of_ble_eq_true rfl) jz ?_
        refine jj_if_eq (pc := 50) 57 dX3_goesWith_50 (by decide) (fun h50 => ?_) (fun h50 => ?_)
        · refine jj_iconst (pc := 57) (v := 0) dX3_goesWith_57 rfl ?_
          refine jj_zret (pc := 58) rfl dX3_goesWith_58 ?_
          exact absurd rfl h42
        · refine jj_iconst (pc := 53) (v := 1) dX3_goesWith_53 rfl ?_
          refine jj_goto (pc := 54) 58 dX3_goesWith_54 (by decide) ?_
          refine jj_zret (pc := 58) rfl dX3_goesWith_58 ?_
          exact absurd rfl h42
    · refine jj_aload_n (pc := 16) 0 dX3_goesWith_16 rfl rfl ?_
      refine jj_g_6_1 (pc := 17) dX3_goesWith_17 fd_X3_goesWith_20 ?_
      refine jj_iload_n (pc := 20) 1 dX3_goesWith_20 rfl rfl ?_
      refine jj_rget (pc := 21) (r := 32) (by decide) dX3_goesWith_21 gX3_goesWith_X4_get (by decide) (Nat.le_of_ble_eq_true rfl) jz ?_
      refine jj_aload_n (pc := 24) 0 dX3_goesWith_24 rfl rfl ?_
      refine jj_g_6_1 (pc := 25) dX3_goesWith_25 fd_X3_goesWith_20 ?_
      refine jj_iload_n (pc := 28) 2 dX3_goesWith_28 rfl rfl ?_
      refine jj_rget (pc := 29) (r := 32) (by decide) dX3_goesWith_29 gX3_goesWith_X4_get (by decide) (Nat.le_of_ble_eq_true rfl) jz ?_
      refine jj_icmp_ne (pc := 32) 39 dX3_goesWith_32 (by decide) (fun h32 => ?_) (fun h32 => ?_)
      · refine jj_iconst (pc := 39) (v := 0) dX3_goesWith_39 rfl ?_
        refine jj_istore_n_3 (pc := 40) dX3_goesWith_40 rfl rfl (by decide) ?_
        refine jj_iload_n (pc := 41) 3 dX3_goesWith_41 rfl rfl ?_
        refine jj_if_eq (pc := 42) 57 dX3_goesWith_42 (by decide) (fun h42 => ?_) (fun h42 => ?_)
        · refine jj_iconst (pc := 57) (v := 0) dX3_goesWith_57 rfl ?_
          refine jj_zret (pc := 58) rfl dX3_goesWith_58 ?_
          have ht : mTog S a b = false := by rw [mTog, decide_eq_false h2, decide_eq_false h32, Bool.and_false]; rfl
          exact ⟨by rw [mGoes, ht]; rfl, rfl⟩
        · refine jj_aload_n (pc := 45) 0 dX3_goesWith_45 rfl rfl ?_
          refine jj_iload_n (pc := 46) 1 dX3_goesWith_46 rfl rfl ?_
          refine jj_callVr (pc := 47) _ (c_X3_isWaiting l D cA ob ro ar _ _) dX3_goesWith_47 gX3_goesWith_X3_isWaiting jm_X3_isWaiting rfl (by decide) 6 jq_6 rfl rfl rfl (Nat.le_of_ble_eq_true rfl) jz ?_
          refine jj_if_eq (pc := 50) 57 dX3_goesWith_50 (by decide) (fun h50 => ?_) (fun h50 => ?_)
          · refine jj_iconst (pc := 57) (v := 0) dX3_goesWith_57 rfl ?_
            refine jj_zret (pc := 58) rfl dX3_goesWith_58 ?_
            exact absurd rfl h42
          · refine jj_iconst (pc := 53) (v := 1) dX3_goesWith_53 rfl ?_
            refine jj_goto (pc := 54) 58 dX3_goesWith_54 (by decide) ?_
            refine jj_zret (pc := 58) rfl dX3_goesWith_58 ?_
            exact absurd rfl h42
      · refine jj_iconst (pc := 35) (v := 1) dX3_goesWith_35 rfl ?_
        refine jj_goto (pc := 36) 40 dX3_goesWith_36 (by decide) ?_
        refine jj_istore_n_3 (pc := 40) dX3_goesWith_40 rfl rfl (by decide) ?_
        refine jj_iload_n (pc := 41) 3 dX3_goesWith_41 rfl rfl ?_
        refine jj_if_eq (pc := 42) 57 dX3_goesWith_42 (by decide) (fun h42 => ?_) (fun h42 => ?_)
        · refine jj_iconst (pc := 57) (v := 0) dX3_goesWith_57 rfl ?_
          refine jj_zret (pc := 58) rfl dX3_goesWith_58 ?_
          exact absurd h42 (by decide)
        · refine jj_aload_n (pc := 45) 0 dX3_goesWith_45 rfl rfl ?_
          refine jj_iload_n (pc := 46) 1 dX3_goesWith_46 rfl rfl ?_
          refine jj_callVr (pc := 47) _ (c_X3_isWaiting l D cA ob ro ar _ _) dX3_goesWith_47 gX3_goesWith_X3_isWaiting jm_X3_isWaiting rfl (by decide) 6 jq_6 rfl rfl rfl (Nat.le_of_ble_eq_true rfl) jz ?_
          refine jj_if_eq (pc := 50) 57 dX3_goesWith_50 (by decide) (fun h50 => ?_) (fun h50 => ?_)
          · refine jj_iconst (pc := 57) (v := 0) dX3_goesWith_57 rfl ?_
            refine jj_zret (pc := 58) rfl dX3_goesWith_58 ?_
            have ht : mTog S a b = true := by rw [mTog, decide_eq_true h13, decide_eq_true h32, Bool.and_true, Bool.or_true]
            exact ⟨by rw [mGoes, ht, bI_0 h50]; rfl, rfl⟩
          · refine jj_iconst (pc := 53) (v := 1) dX3_goesWith_53 rfl ?_
            refine jj_goto (pc := 54) 58 dX3_goesWith_54 (by decide) ?_
            refine jj_zret (pc := 58) rfl dX3_goesWith_58 ?_
            have ht : mTog S a b = true := by rw [mTog, decide_eq_true h13, decide_eq_true h32, Bool.and_true, Bool.or_true]
            exact ⟨by rw [mGoes, ht, bI_1 h50]; rfl, rfl⟩
set_option maxHeartbeats 4000000 in
theorem c_X3_end (l : Launch) (D : va_G) (cA : ClassId) (ob ro ar : Nat → Nat) (S : jS) (b v : Int32) : jjFn l yX3_end wsX3_end 3 D cA [.ref (ob 6), .int b, .int v] (jW cA ob ro ar S) none (jW cA ob ro ar (jPEnd S b v (mNP S))) := by
  refine jjCon_of (own := RX3) (cc := cX3_end) (nL := 4) (rt := none) (I := jI0) [some (.ref (ob 6)), some (.int b), some (.int v), none] jm_X3_end (by decide +kernel) rfl (fun _ _ _ _ _ => trivial) (Nat.le_of_ble_eq_true rfl) rfl ?_
  have K : ∀ i, i ≤ mNP S → jjV l RX3 cX3_end 4 none jI0 wsX3_end (jjRm 3 0 0) D cA (jjEnd D (fun r0 w0 => r0 = none ∧ w0 = jW cA ob ro ar (jPEnd S b v (mNP S))) 0 0) 0 0 (jW cA ob ro ar (jPEnd S b v i)) 2 [some (.ref (ob 6)), some (.int b), some (.int v), some (.int (nI i))] [] := by
    refine jdown (mNP S) ?_ (fun i hi ih => ?_)
    · refine jj_iload_n (pc := 2) 3 dX3_end_2 rfl rfl ?_
      refine jj_aload_n (pc := 3) 0 dX3_end_3 rfl rfl ?_
      refine jj_g_6_3 (pc := 4) dX3_end_4 fd_X3_end_26 ?_
      refine jj_icmp_ge (pc := 7) 34 dX3_end_7 (by decide) (fun h7 => ?_) (fun h7 => ?_)
      · refine jj_vret (pc := 34) dX3_end_34 ?_
        exact ⟨rfl, rfl⟩
      · exact absurd (by rw [jPEnd_1]; exact jb_ge rfl) h7
    · refine jj_iload_n (pc := 2) 3 dX3_end_2 rfl rfl ?_
      refine jj_aload_n (pc := 3) 0 dX3_end_3 rfl rfl ?_
      refine jj_g_6_3 (pc := 4) dX3_end_4 fd_X3_end_26 ?_
      refine jj_icmp_ge (pc := 7) 34 dX3_end_7 (by decide) (fun h7 => ?_) (fun h7 => ?_)
      · exact absurd (by rw [jPEnd_1] at h7; exact h7) (jb_lt rfl hi)
      · refine jj_aload_n (pc := 10) 0 dX3_end_10 rfl rfl ?_
        refine jj_iload_n (pc := 11) 3 dX3_end_11 rfl rfl ?_
        refine jj_iload_n (pc := 12) 1 dX3_end_12 rfl rfl ?_
        refine jj_callVr (pc := 13) _ (c_X3_goesWith l D cA ob ro ar _ _ _) dX3_end_13 gX3_end_X3_goesWith jm_X3_goesWith rfl (by decide) 6 jq_6 rfl rfl rfl (Nat.le_of_ble_eq_true rfl) jz ?_
        refine jj_if_eq (pc := 16) 28 dX3_end_16 (by decide) (fun h16 => ?_) (fun h16 => ?_)
        · refine jj_iinc_3 (pc := 28) (z := 1) dX3_end_28 rfl rfl (by decide) ?_
          refine jj_goto (pc := 31) 2 dX3_end_31 (by decide) ?_
          rw [nI_succ, jPEnd, if_neg (by rw [bI_0 h16]; decide)] at ih
          exact ih
        · refine jj_aload_n (pc := 19) 0 dX3_end_19 rfl rfl ?_
          refine jj_g_6_2 (pc := 20) dX3_end_20 fd_X3_end_23 ?_
          refine jj_iload_n (pc := 23) 3 dX3_end_23 rfl rfl ?_
          refine jj_iload_n (pc := 24) 2 dX3_end_24 rfl rfl ?_
          refine jj_rset (pc := 25) (r := 33) (by decide) dX3_end_25 gX3_end_X4_set (by decide) (Nat.le_of_ble_eq_true rfl) jz ?_
          refine jj_iinc_3 (pc := 28) (z := 1) dX3_end_28 rfl rfl (by decide) ?_
          refine jj_goto (pc := 31) 2 dX3_end_31 (by decide) ?_
          rw [nI_succ, jPEnd, if_pos (bI_1 h16)] at ih
          exact ih
  refine jj_iconst (pc := 0) (v := 0) dX3_end_0 rfl ?_
  refine jj_istore_n_3 (pc := 1) dX3_end_1 rfl rfl (by decide) ?_
  exact K 0 (Nat.zero_le _)
