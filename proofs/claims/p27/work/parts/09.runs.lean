/-! The class Runs. -/
def mH (S : jS) (r : Int32) : Int32 := jg S 29 r
def mEnt (S : jS) (r k : Int32) : Int32 := jg S 30 (r * 8 + k)
def mThere (S : jS) (r : Int32) : Bool := decide (0 < mH S r)
def mRuns (S : jS) : Int32 := 4 - jcnt S 29 0
def mEnts (S : jS) : Nat → Int32
  | 0 => 0
  | i + 1 => mEnts S i + mH S (nI i)
def mFF (S : jS) : Int32 := jfI (fun i => !mThere S (nI i)) 4
def mTop (S : jS) (r : Int32) : Int32 := if mThere S r = true then mEnt S r (mH S r - 1) else -1
def jPush (S : jS) (r p : Int32) : jS := jadd (jset S 30 (r * 8 + mH S r) p) 29 r 1
def jPop (S : jS) (r : Int32) : jS := jadd S 29 r (-1)
def mBkQ (S : jS) (r p : Int32) (k : Nat) : Bool := decide (mEnt S r (nI k) = p)
def mBacks (S : jS) (r p : Int32) : Int32 := match jfind (mBkQ S r p) (mH S r).toNatClampNeg with
  | some k => mH S r - nI k
  | none => 0
def mRunsW (S : jS) (p : Int32) : Nat → Int32
  | 0 => 0
  | i + 1 => if 0 < mBacks S (nI i) p then mRunsW S p i + 1 else mRunsW S p i
def mBackT (S : jS) (p : Int32) : Nat → Int32
  | 0 => 0
  | i + 1 => mBackT S p i + mBacks S (nI i) p
set_option maxHeartbeats 4000000 in
theorem c_X5_isThere (l : Launch) (D : va_G) (cA : ClassId) (ob ro ar : Nat → Nat) (S : jS) (r : Int32) : jjFn l yX5_isThere wsX5_isThere 1 D cA [.ref (ob 5), .int r] (jW cA ob ro ar S) (some (.int (bI (mThere S r)))) (jW cA ob ro ar S) := by
  refine jjCon_of (own := RX5) (cc := cX5_isThere) (nL := 2) (rt := (some .boolean)) (I := jI0) [some (.ref (ob 5)), some (.int r)] jm_X5_isThere (by decide +kernel) rfl (fun _ _ _ _ _ => trivial) (Nat.le_of_ble_eq_true rfl) rfl ?_
  refine jj_aload_n (pc := 0) 0 dX5_isThere_0 rfl rfl ?_
  refine jj_g_5_0 (pc := 1) dX5_isThere_1 fd_X5_isThere_14 ?_
  refine jj_iload_n (pc := 4) 1 dX5_isThere_4 rfl rfl ?_
  refine jj_rget (pc := 5) (r := 29) (by decide) dX5_isThere_5 gX5_isThere_X4_get (by decide) (Nat.le_of_ble_eq_true rfl) jz ?_
  refine jj_if_le (pc := 8) 15 dX5_isThere_8 (by decide) (fun h8 => ?_) (fun h8 => ?_)
  · refine jj_iconst (pc := 15) (v := 0) dX5_isThere_15 rfl ?_
    refine jj_zret (pc := 16) rfl dX5_isThere_16 ?_
    exact ⟨by rw [mThere, mH, decide_eq_false (by rw [Int32.not_lt]; exact h8)]; rfl, rfl⟩
  · refine jj_iconst (pc := 11) (v := 1) dX5_isThere_11 rfl ?_
    refine jj_goto (pc := 12) 16 dX5_isThere_12 (by decide) ?_
    refine jj_zret (pc := 16) rfl dX5_isThere_16 ?_
    exact ⟨by rw [mThere, mH, decide_eq_true (by rw [Int32.not_le] at h8; exact h8)]; rfl, rfl⟩
set_option maxHeartbeats 4000000 in
theorem c_X5_count (l : Launch) (D : va_G) (cA : ClassId) (ob ro ar : Nat → Nat) (S : jS)  : jjFn l yX5_count wsX5_count 1 D cA [.ref (ob 5)] (jW cA ob ro ar S) (some (.int (mRuns S))) (jW cA ob ro ar S) := by
  refine jjCon_of (own := RX5) (cc := cX5_count) (nL := 1) (rt := (some .int)) (I := jI0) [some (.ref (ob 5))] jm_X5_count (by decide +kernel) rfl (fun _ _ _ _ _ => trivial) (Nat.le_of_ble_eq_true rfl) rfl ?_
  refine jj_iconst (pc := 0) (v := 4) dX5_count_0 rfl ?_
  refine jj_aload_n (pc := 1) 0 dX5_count_1 rfl rfl ?_
  refine jj_g_5_0 (pc := 2) dX5_count_2 fd_X5_count_14 ?_
  refine jj_iconst (pc := 5) (v := 0) dX5_count_5 rfl ?_
  refine jj_rcnt (pc := 6) (r := 29) (by decide) dX5_count_6 gX5_count_X4_count (by decide) (Nat.le_of_ble_eq_true rfl) jz ?_
  refine jj_isub (pc := 9) dX5_count_9 ?_
  refine jj_iret (pc := 10) dX5_count_10 ?_
  exact ⟨rfl, rfl⟩
set_option maxHeartbeats 4000000 in
theorem c_X5_entries (l : Launch) (D : va_G) (cA : ClassId) (ob ro ar : Nat → Nat) (S : jS)  : jjFn l yX5_entries wsX5_entries 1 D cA [.ref (ob 5)] (jW cA ob ro ar S) (some (.int (mEnts S 4))) (jW cA ob ro ar S) := by
  refine jjCon_of (own := RX5) (cc := cX5_entries) (nL := 3) (rt := (some .int)) (I := jI0) [some (.ref (ob 5)), none, none] jm_X5_entries (by decide +kernel) rfl (fun _ _ _ _ _ => trivial) (Nat.le_of_ble_eq_true rfl) rfl ?_
  have K : ∀ i, i ≤ 4 → jjV l RX5 cX5_entries 3 (some .int) jI0 wsX5_entries (jjRm 1 0 0) D cA (jjEnd D (fun r0 w0 => r0 = some (.int (mEnts S 4)) ∧ w0 = jW cA ob ro ar S) 0 0) 0 0 (jW cA ob ro ar S) 4 [some (.ref (ob 5)), some (.int (mEnts S i)), some (.int (nI i))] [] := by
    refine jdown (4) ?_ (fun i hi ih => ?_)
    · refine jj_iload_n (pc := 4) 2 dX5_entries_4 rfl rfl ?_
      refine jj_iconst (pc := 5) (v := 4) dX5_entries_5 rfl ?_
      refine jj_icmp_ge (pc := 6) 26 dX5_entries_6 (by decide) (fun h6 => ?_) (fun h6 => ?_)
      · refine jj_iload_n (pc := 26) 1 dX5_entries_26 rfl rfl ?_
        refine jj_iret (pc := 27) dX5_entries_27 ?_
        exact ⟨rfl, rfl⟩
      · exact absurd (jb_ge (by decide)) h6
    · refine jj_iload_n (pc := 4) 2 dX5_entries_4 rfl rfl ?_
      refine jj_iconst (pc := 5) (v := 4) dX5_entries_5 rfl ?_
      refine jj_icmp_ge (pc := 6) 26 dX5_entries_6 (by decide) (fun h6 => ?_) (fun h6 => ?_)
      · exact absurd h6 (jb_lt (by decide) hi)
      · refine jj_iload_n (pc := 9) 1 dX5_entries_9 rfl rfl ?_
        refine jj_aload_n (pc := 10) 0 dX5_entries_10 rfl rfl ?_
        refine jj_g_5_0 (pc := 11) dX5_entries_11 fd_X5_entries_14 ?_
        refine jj_iload_n (pc := 14) 2 dX5_entries_14 rfl rfl ?_
        refine jj_rget (pc := 15) (r := 29) (by decide) dX5_entries_15 gX5_entries_X4_get (by decide) (Nat.le_of_ble_eq_true rfl) jz ?_
        refine jj_iadd (pc := 18) dX5_entries_18 ?_
        refine jj_istore_n_1 (pc := 19) dX5_entries_19 rfl rfl (by decide) ?_
        refine jj_iinc_2 (pc := 20) (z := 1) dX5_entries_20 rfl rfl (by decide) ?_
        refine jj_goto (pc := 23) 4 dX5_entries_23 (by decide) ?_
        rw [nI_succ, mEnts] at ih
        exact ih
  refine jj_iconst (pc := 0) (v := 0) dX5_entries_0 rfl ?_
  refine jj_istore_n_1 (pc := 1) dX5_entries_1 rfl rfl (by decide) ?_
  refine jj_iconst (pc := 2) (v := 0) dX5_entries_2 rfl ?_
  refine jj_istore_n_2 (pc := 3) dX5_entries_3 rfl rfl (by decide) ?_
  exact K 0 (Nat.zero_le _)
set_option maxHeartbeats 4000000 in
theorem c_X5_firstFree (l : Launch) (D : va_G) (cA : ClassId) (ob ro ar : Nat → Nat) (S : jS)  : jjFn l yX5_firstFree wsX5_firstFree 2 D cA [.ref (ob 5)] (jW cA ob ro ar S) (some (.int (mFF S))) (jW cA ob ro ar S) := by
  refine jjCon_of (own := RX5) (cc := cX5_firstFree) (nL := 2) (rt := (some .int)) (I := jI0) [some (.ref (ob 5)), none] jm_X5_firstFree (by decide +kernel) rfl (fun _ _ _ _ _ => trivial) (Nat.le_of_ble_eq_true rfl) rfl ?_
  have K : ∀ i, i ≤ 4 → jfind (fun i => !mThere S (nI i)) i = none → jjV l RX5 cX5_firstFree 2 (some .int) jI0 wsX5_firstFree (jjRm 2 0 0) D cA (jjEnd D (fun r0 w0 => r0 = some (.int (mFF S)) ∧ w0 = jW cA ob ro ar S) 0 0) 0 0 (jW cA ob ro ar S) 2 [some (.ref (ob 5)), some (.int (nI i))] [] := by
    refine jdown 4 (fun hn => ?_) (fun i hi ih hn => ?_)
    · refine jj_iload_n (pc := 2) 1 dX5_firstFree_2 rfl rfl ?_
      refine jj_iconst (pc := 3) (v := 4) dX5_firstFree_3 rfl ?_
      refine jj_icmp_ge (pc := 4) 23 dX5_firstFree_4 (by decide) (fun h4 => ?_) (fun h4 => ?_)
      · refine jj_iconst (pc := 23) (v := (-1)) dX5_firstFree_23 rfl ?_
        refine jj_iret (pc := 24) dX5_firstFree_24 ?_
        exact ⟨by rw [mFF, jfI_none hn], rfl⟩
      · exact absurd (jb_ge (by decide)) h4
    · refine jj_iload_n (pc := 2) 1 dX5_firstFree_2 rfl rfl ?_
      refine jj_iconst (pc := 3) (v := 4) dX5_firstFree_3 rfl ?_
      refine jj_icmp_ge (pc := 4) 23 dX5_firstFree_4 (by decide) (fun h4 => ?_) (fun h4 => ?_)
      · exact absurd h4 (jb_lt (by decide) hi)
      · refine jj_aload_n (pc := 7) 0 dX5_firstFree_7 rfl rfl ?_
        refine jj_iload_n (pc := 8) 1 dX5_firstFree_8 rfl rfl ?_
        refine jj_callVr (pc := 9) _ (c_X5_isThere l D cA ob ro ar _ _) dX5_firstFree_9 gX5_firstFree_X5_isThere jm_X5_isThere rfl (by decide) 5 jq_5 rfl rfl rfl (Nat.le_of_ble_eq_true rfl) jz ?_
        refine jj_if_ne (pc := 12) 17 dX5_firstFree_12 (by decide) (fun h12 => ?_) (fun h12 => ?_)
        · refine jj_iinc_1 (pc := 17) (z := 1) dX5_firstFree_17 rfl rfl (by decide) ?_
          refine jj_goto (pc := 20) 2 dX5_firstFree_20 (by decide) ?_
          have h3 := ih (jfind_next hn (by rw [bI_1 h12]; rfl))
          rw [nI_succ] at h3
          exact h3
        · refine jj_iload_n (pc := 15) 1 dX5_firstFree_15 rfl rfl ?_
          refine jj_iret (pc := 16) dX5_firstFree_16 ?_
          exact ⟨by rw [mFF, jfI_some (jfind_some hn (by rw [bI_0 h12]; rfl) hi)], rfl⟩
  refine jj_iconst (pc := 0) (v := 0) dX5_firstFree_0 rfl ?_
  refine jj_istore_n_1 (pc := 1) dX5_firstFree_1 rfl rfl (by decide) ?_
  exact K 0 (Nat.zero_le _) rfl
set_option maxHeartbeats 4000000 in
theorem c_X5_entry (l : Launch) (D : va_G) (cA : ClassId) (ob ro ar : Nat → Nat) (S : jS) (r k : Int32) : jjFn l yX5_entry wsX5_entry 1 D cA [.ref (ob 5), .int r, .int k] (jW cA ob ro ar S) (some (.int (mEnt S r k))) (jW cA ob ro ar S) := by
  refine jjCon_of (own := RX5) (cc := cX5_entry) (nL := 3) (rt := (some .int)) (I := jI0) [some (.ref (ob 5)), some (.int r), some (.int k)] jm_X5_entry (by decide +kernel) rfl (fun _ _ _ _ _ => trivial) (Nat.le_of_ble_eq_true rfl) rfl ?_
  refine jj_aload_n (pc := 0) 0 dX5_entry_0 rfl rfl ?_
  refine jj_g_5_1 (pc := 1) dX5_entry_1 fd_X5_entry_20 ?_
  refine jj_iload_n (pc := 4) 1 dX5_entry_4 rfl rfl ?_
  refine jj_bipush (pc := 5) (v := 8) dX5_entry_5 rfl ?_
  refine jj_imul (pc := 7) dX5_entry_7 ?_
  refine jj_iload_n (pc := 8) 2 dX5_entry_8 rfl rfl ?_
  refine jj_iadd (pc := 9) dX5_entry_9 ?_
  refine jj_rget (pc := 10) (r := 30) (by decide) dX5_entry_10 gX5_entry_X4_get (by decide) (Nat.le_of_ble_eq_true rfl) jz ?_
  refine jj_iret (pc := 13) dX5_entry_13 ?_
  exact ⟨rfl, rfl⟩
set_option maxHeartbeats 4000000 in
theorem c_X5_top (l : Launch) (D : va_G) (cA : ClassId) (ob ro ar : Nat → Nat) (S : jS) (r : Int32) : jjFn l yX5_top wsX5_top 2 D cA [.ref (ob 5), .int r] (jW cA ob ro ar S) (some (.int (mTop S r))) (jW cA ob ro ar S) := by
  refine jjCon_of (own := RX5) (cc := cX5_top) (nL := 2) (rt := (some .int)) (I := jI0) [some (.ref (ob 5)), some (.int r)] jm_X5_top (by decide +kernel) rfl (fun _ _ _ _ _ => trivial) (Nat.le_of_ble_eq_true rfl) rfl ?_
  refine jj_aload_n (pc := 0) 0 dX5_top_0 rfl rfl ?_
  refine jj_iload_n (pc := 1) 1 dX5_top_1 rfl rfl ?_
  refine jj_callVr (pc := 2) _ (c_X5_isThere l D cA ob ro ar _ _) dX5_top_2 gX5_top_X5_isThere jm_X5_isThere rfl (by decide) 5 jq_5 rfl rfl rfl (Nat.le_of_ble_eq_true rfl) jz ?_
  refine jj_if_eq (pc := 5) 26 dX5_top_5 (by decide) (fun h5 => ?_) (fun h5 => ?_)
  · refine jj_iconst (pc := 26) (v := (-1)) dX5_top_26 rfl ?_
    refine jj_iret (pc := 27) dX5_top_27 ?_
    exact ⟨by rw [mTop, if_neg (by rw [bI_0 h5]; decide)]; try rfl, rfl⟩
  · refine jj_aload_n (pc := 8) 0 dX5_top_8 rfl rfl ?_
    refine jj_iload_n (pc := 9) 1 dX5_top_9 rfl rfl ?_
    refine jj_aload_n (pc := 10) 0 dX5_top_10 rfl rfl ?_
    refine jj_g_5_0 (pc := 11) dX5_top_11 fd_X5_top_14 ?_
    refine jj_iload_n (pc := 14) 1 dX5_top_14 rfl rfl ?_
    refine jj_rget (pc := 15) (r := 29) (by decide) dX5_top_15 gX5_top_X4_get (by decide) (Nat.le_of_ble_eq_true rfl) jz ?_
    refine jj_iconst (pc := 18) (v := 1) dX5_top_18 rfl ?_
    refine jj_isub (pc := 19) dX5_top_19 ?_
    refine jj_callVr (pc := 20) _ (c_X5_entry l D cA ob ro ar _ _ _) dX5_top_20 gX5_top_X5_entry jm_X5_entry rfl (by decide) 5 jq_5 rfl rfl rfl (Nat.le_of_ble_eq_true rfl) jz ?_
    refine jj_goto (pc := 23) 27 dX5_top_23 (by decide) ?_
    refine jj_iret (pc := 27) dX5_top_27 ?_
    exact ⟨by rw [mTop, if_pos (bI_1 h5)]; try rfl, rfl⟩
set_option maxHeartbeats 4000000 in
theorem c_X5_push (l : Launch) (D : va_G) (cA : ClassId) (ob ro ar : Nat → Nat) (S : jS) (r p : Int32) : jjFn l yX5_push wsX5_push 2 D cA [.ref (ob 5), .int r, .int p] (jW cA ob ro ar S) none (jW cA ob ro ar (jPush S r p)) := by
  refine jjCon_of (own := RX5) (cc := cX5_push) (nL := 3) (rt := none) (I := jI0) [some (.ref (ob 5)), some (.int r), some (.int p)] jm_X5_push (by decide +kernel) rfl (fun _ _ _ _ _ => trivial) (Nat.le_of_ble_eq_true rfl) rfl ?_
  refine jj_aload_n (pc := 0) 0 dX5_push_0 rfl rfl ?_
  refine jj_g_5_1 (pc := 1) dX5_push_1 fd_X5_push_20 ?_
  refine jj_iload_n (pc := 4) 1 dX5_push_4 rfl rfl ?_
  refine jj_bipush (pc := 5) (v := 8) dX5_push_5 rfl ?_
  refine jj_imul (pc := 7) dX5_push_7 ?_
  refine jj_aload_n (pc := 8) 0 dX5_push_8 rfl rfl ?_
  refine jj_g_5_0 (pc := 9) dX5_push_9 fd_X5_push_14 ?_
  refine jj_iload_n (pc := 12) 1 dX5_push_12 rfl rfl ?_
  refine jj_rget (pc := 13) (r := 29) (by decide) dX5_push_13 gX5_push_X4_get (by decide) (Nat.le_of_ble_eq_true rfl) jz ?_
  refine jj_iadd (pc := 16) dX5_push_16 ?_
  refine jj_iload_n (pc := 17) 2 dX5_push_17 rfl rfl ?_
  refine jj_rset (pc := 18) (r := 30) (by decide) dX5_push_18 gX5_push_X4_set (by decide) (Nat.le_of_ble_eq_true rfl) jz ?_
  refine jj_aload_n (pc := 21) 0 dX5_push_21 rfl rfl ?_
  refine jj_g_5_0 (pc := 22) dX5_push_22 fd_X5_push_14 ?_
  refine jj_iload_n (pc := 25) 1 dX5_push_25 rfl rfl ?_
  refine jj_iconst (pc := 26) (v := 1) dX5_push_26 rfl ?_
  refine jj_radd (pc := 27) (r := 29) (by decide) dX5_push_27 gX5_push_X4_add (by decide) (Nat.le_of_ble_eq_true rfl) jz ?_
  refine jj_vret (pc := 30) dX5_push_30 ?_
  exact ⟨rfl, rfl⟩
set_option maxHeartbeats 4000000 in
theorem c_X5_pop (l : Launch) (D : va_G) (cA : ClassId) (ob ro ar : Nat → Nat) (S : jS) (r : Int32) : jjFn l yX5_pop wsX5_pop 2 D cA [.ref (ob 5), .int r] (jW cA ob ro ar S) none (jW cA ob ro ar (jPop S r)) := by
  refine jjCon_of (own := RX5) (cc := cX5_pop) (nL := 2) (rt := none) (I := jI0) [some (.ref (ob 5)), some (.int r)] jm_X5_pop (by decide +kernel) rfl (fun _ _ _ _ _ => trivial) (Nat.le_of_ble_eq_true rfl) rfl ?_
  refine jj_aload_n (pc := 0) 0 dX5_pop_0 rfl rfl ?_
  refine jj_g_5_0 (pc := 1) dX5_pop_1 fd_X5_pop_14 ?_
  refine jj_iload_n (pc := 4) 1 dX5_pop_4 rfl rfl ?_
  refine jj_iconst (pc := 5) (v := (-1)) dX5_pop_5 rfl ?_
  refine jj_radd (pc := 6) (r := 29) (by decide) dX5_pop_6 gX5_pop_X4_add (by decide) (Nat.le_of_ble_eq_true rfl) jz ?_
  refine jj_vret (pc := 9) dX5_pop_9 ?_
  exact ⟨rfl, rfl⟩
set_option maxHeartbeats 4000000 in
theorem c_X5_backsOf (l : Launch) (D : va_G) (cA : ClassId) (ob ro ar : Nat → Nat) (S : jS) (r p : Int32) : jjFn l yX5_backsOf wsX5_backsOf 1 D cA [.ref (ob 5), .int r, .int p] (jW cA ob ro ar S) (some (.int (mBacks S r p))) (jW cA ob ro ar S) := by
  refine jjCon_of (own := RX5) (cc := cX5_backsOf) (nL := 4) (rt := (some .int)) (I := jI0) [some (.ref (ob 5)), some (.int r), some (.int p), none] jm_X5_backsOf (by decide +kernel) rfl (fun _ _ _ _ _ => trivial) (Nat.le_of_ble_eq_true rfl) rfl ?_
  have K : ∀ k, k ≤ (mH S r).toNatClampNeg → jfind (mBkQ S r p) k = none → jjV l RX5 cX5_backsOf 4 (some .int) jI0 wsX5_backsOf (jjRm 1 0 0) D cA (jjEnd D (fun r0 w0 => r0 = some (.int (mBacks S r p)) ∧ w0 = jW cA ob ro ar S) 0 0) 0 0 (jW cA ob ro ar S) 2 [some (.ref (ob 5)), some (.int r), some (.int p), some (.int (nI k))] [] := by
    refine jdown _ (fun hn => ?_) (fun k hk ih hn => ?_)
    · refine jj_iload_n (pc := 2) 3 dX5_backsOf_2 rfl rfl ?_
      refine jj_aload_n (pc := 3) 0 dX5_backsOf_3 rfl rfl ?_
      refine jj_g_5_0 (pc := 4) dX5_backsOf_4 fd_X5_backsOf_14 ?_
      refine jj_iload_n (pc := 7) 1 dX5_backsOf_7 rfl rfl ?_
      refine jj_rget (pc := 8) (r := 29) (by decide) dX5_backsOf_8 gX5_backsOf_X4_get (by decide) (Nat.le_of_ble_eq_true rfl) jz ?_
      refine jj_icmp_ge (pc := 11) 48 dX5_backsOf_11 (by decide) (fun h11 => ?_) (fun h11 => ?_)
      · refine jj_iconst (pc := 48) (v := 0) dX5_backsOf_48 rfl ?_
        refine jj_iret (pc := 49) dX5_backsOf_49 ?_
        exact ⟨by rw [mBacks, hn], rfl⟩
      · exact absurd (jb_ge rfl) h11
    · refine jj_iload_n (pc := 2) 3 dX5_backsOf_2 rfl rfl ?_
      refine jj_aload_n (pc := 3) 0 dX5_backsOf_3 rfl rfl ?_
      refine jj_g_5_0 (pc := 4) dX5_backsOf_4 fd_X5_backsOf_14 ?_
      refine jj_iload_n (pc := 7) 1 dX5_backsOf_7 rfl rfl ?_
      refine jj_rget (pc := 8) (r := 29) (by decide) dX5_backsOf_8 gX5_backsOf_X4_get (by decide) (Nat.le_of_ble_eq_true rfl) jz ?_
      refine jj_icmp_ge (pc := 11) 48 dX5_backsOf_11 (by decide) (fun h11 => ?_) (fun h11 => ?_)
      · exact absurd h11 (jb_lt rfl hk)
      · refine jj_aload_n (pc := 14) 0 dX5_backsOf_14 rfl rfl ?_
        refine jj_g_5_1 (pc := 15) dX5_backsOf_15 fd_X5_backsOf_20 ?_
        refine jj_iload_n (pc := 18) 1 dX5_backsOf_18 rfl rfl ?_
        refine jj_bipush (pc := 19) (v := 8) dX5_backsOf_19 rfl ?_
        refine jj_imul (pc := 21) dX5_backsOf_21 ?_
        refine jj_iload_n (pc := 22) 3 dX5_backsOf_22 rfl rfl ?_
        refine jj_iadd (pc := 23) dX5_backsOf_23 ?_
        refine jj_rget (pc := 24) (r := 30) (by decide) dX5_backsOf_24 gX5_backsOf_X4_get (by decide) (Nat.le_of_ble_eq_true rfl) jz ?_
        refine jj_iload_n (pc := 27) 2 dX5_backsOf_27 rfl rfl ?_
        refine jj_icmp_ne (pc := 28) 42 dX5_backsOf_28 (by decide) (fun h28 => ?_) (fun h28 => ?_)
        · refine jj_iinc_3 (pc := 42) (z := 1) dX5_backsOf_42 rfl rfl (by decide) ?_
          refine jj_goto (pc := 45) 2 dX5_backsOf_45 (by decide) ?_
          have h3 := ih (jfind_next hn (decide_eq_false h28))
          rw [nI_succ] at h3
          exact h3
        · refine jj_aload_n (pc := 31) 0 dX5_backsOf_31 rfl rfl ?_
          refine jj_g_5_0 (pc := 32) dX5_backsOf_32 fd_X5_backsOf_14 ?_
          refine jj_iload_n (pc := 35) 1 dX5_backsOf_35 rfl rfl ?_
          refine jj_rget (pc := 36) (r := 29) (by decide) dX5_backsOf_36 gX5_backsOf_X4_get (by decide) (Nat.le_of_ble_eq_true rfl) jz ?_
          refine jj_iload_n (pc := 39) 3 dX5_backsOf_39 rfl rfl ?_
          refine jj_isub (pc := 40) dX5_backsOf_40 ?_
          refine jj_iret (pc := 41) dX5_backsOf_41 ?_
          exact ⟨by rw [mBacks, jfind_some hn (decide_eq_true h28) hk]; rfl, rfl⟩
  refine jj_iconst (pc := 0) (v := 0) dX5_backsOf_0 rfl ?_
  refine jj_istore_n_3 (pc := 1) dX5_backsOf_1 rfl rfl (by decide) ?_
  exact K 0 (Nat.zero_le _) rfl
set_option maxHeartbeats 4000000 in
theorem c_X5_runsWith (l : Launch) (D : va_G) (cA : ClassId) (ob ro ar : Nat → Nat) (S : jS) (p : Int32) : jjFn l yX5_runsWith wsX5_runsWith 2 D cA [.ref (ob 5), .int p] (jW cA ob ro ar S) (some (.int (mRunsW S p 4))) (jW cA ob ro ar S) := by
  refine jjCon_of (own := RX5) (cc := cX5_runsWith) (nL := 4) (rt := (some .int)) (I := jI0) [some (.ref (ob 5)), some (.int p), none, none] jm_X5_runsWith (by decide +kernel) rfl (fun _ _ _ _ _ => trivial) (Nat.le_of_ble_eq_true rfl) rfl ?_
  have K : ∀ i, i ≤ 4 → jjV l RX5 cX5_runsWith 4 (some .int) jI0 wsX5_runsWith (jjRm 2 0 0) D cA (jjEnd D (fun r0 w0 => r0 = some (.int (mRunsW S p 4)) ∧ w0 = jW cA ob ro ar S) 0 0) 0 0 (jW cA ob ro ar S) 4 [some (.ref (ob 5)), some (.int p), some (.int (mRunsW S p i)), some (.int (nI i))] [] := by
    refine jdown (4) ?_ (fun i hi ih => ?_)
    · refine jj_iload_n (pc := 4) 3 dX5_runsWith_4 rfl rfl ?_
      refine jj_iconst (pc := 5) (v := 4) dX5_runsWith_5 rfl ?_
      refine jj_icmp_ge (pc := 6) 27 dX5_runsWith_6 (by decide) (fun h6 => ?_) (fun h6 => ?_)
      · refine jj_iload_n (pc := 27) 2 dX5_runsWith_27 rfl rfl ?_
        refine jj_iret (pc := 28) dX5_runsWith_28 ?_
        exact ⟨rfl, rfl⟩
      · exact absurd (jb_ge (by decide)) h6
    · refine jj_iload_n (pc := 4) 3 dX5_runsWith_4 rfl rfl ?_
      refine jj_iconst (pc := 5) (v := 4) dX5_runsWith_5 rfl ?_
      refine jj_icmp_ge (pc := 6) 27 dX5_runsWith_6 (by decide) (fun h6 => ?_) (fun h6 => ?_)
      · exact absurd h6 (jb_lt (by decide) hi)
      · refine jj_aload_n (pc := 9) 0 dX5_runsWith_9 rfl rfl ?_
        refine jj_iload_n (pc := 10) 3 dX5_runsWith_10 rfl rfl ?_
        refine jj_iload_n (pc := 11) 1 dX5_runsWith_11 rfl rfl ?_
        refine jj_callVr (pc := 12) _ (c_X5_backsOf l D cA ob ro ar _ _ _) dX5_runsWith_12 gX5_runsWith_X5_backsOf jm_X5_backsOf rfl (by decide) 5 jq_5 rfl rfl rfl (Nat.le_of_ble_eq_true rfl) jz ?_
        refine jj_if_le (pc := 15) 21 dX5_runsWith_15 (by decide) (fun h15 => ?_) (fun h15 => ?_)
        · refine jj_iinc_3 (pc := 21) (z := 1) dX5_runsWith_21 rfl rfl (by decide) ?_
          refine jj_goto (pc := 24) 4 dX5_runsWith_24 (by decide) ?_
          rw [nI_succ, show mRunsW S p (i + 1) = mRunsW S p i from if_neg (by rw [Int32.not_lt]; exact h15)] at ih
          exact ih
        · refine jj_iinc_2 (pc := 18) (z := 1) dX5_runsWith_18 rfl rfl (by decide) ?_
          refine jj_iinc_3 (pc := 21) (z := 1) dX5_runsWith_21 rfl rfl (by decide) ?_
          refine jj_goto (pc := 24) 4 dX5_runsWith_24 (by decide) ?_
          rw [nI_succ, show mRunsW S p (i + 1) = mRunsW S p i + 1 from if_pos (by rw [Int32.not_le] at h15; exact h15)] at ih
          exact ih
  refine jj_iconst (pc := 0) (v := 0) dX5_runsWith_0 rfl ?_
  refine jj_istore_n_2 (pc := 1) dX5_runsWith_1 rfl rfl (by decide) ?_
  refine jj_iconst (pc := 2) (v := 0) dX5_runsWith_2 rfl ?_
  refine jj_istore_n_3 (pc := 3) dX5_runsWith_3 rfl rfl (by decide) ?_
  exact K 0 (Nat.zero_le _)
set_option maxHeartbeats 4000000 in
theorem c_X5_backsTillWithout (l : Launch) (D : va_G) (cA : ClassId) (ob ro ar : Nat → Nat) (S : jS) (p : Int32) : jjFn l yX5_backsTillWithout wsX5_backsTillWithout 2 D cA [.ref (ob 5), .int p] (jW cA ob ro ar S) (some (.int (mBackT S p 4))) (jW cA ob ro ar S) := by
  refine jjCon_of (own := RX5) (cc := cX5_backsTillWithout) (nL := 4) (rt := (some .int)) (I := jI0) [some (.ref (ob 5)), some (.int p), none, none] jm_X5_backsTillWithout (by decide +kernel) rfl (fun _ _ _ _ _ => trivial) (Nat.le_of_ble_eq_true rfl) rfl ?_
  have K : ∀ i, i ≤ 4 → jjV l RX5 cX5_backsTillWithout 4 (some .int) jI0 wsX5_backsTillWithout (jjRm 2 0 0) D cA (jjEnd D (fun r0 w0 => r0 = some (.int (mBackT S p 4)) ∧ w0 = jW cA ob ro ar S) 0 0) 0 0 (jW cA ob ro ar S) 4 [some (.ref (ob 5)), some (.int p), some (.int (mBackT S p i)), some (.int (nI i))] [] := by
    refine jdown (4) ?_ (fun i hi ih => ?_)
    · refine jj_iload_n (pc := 4) 3 dX5_backsTillWithout_4 rfl rfl ?_
      refine jj_iconst (pc := 5) (v := 4) dX5_backsTillWithout_5 rfl ?_
      refine jj_icmp_ge (pc := 6) 24 dX5_backsTillWithout_6 (by decide) (fun h6 => ?_) (fun h6 => ?_)
      · refine jj_iload_n (pc := 24) 2 dX5_backsTillWithout_24 rfl rfl ?_
        refine jj_iret (pc := 25) dX5_backsTillWithout_25 ?_
        exact ⟨rfl, rfl⟩
      · exact absurd (jb_ge (by decide)) h6
    · refine jj_iload_n (pc := 4) 3 dX5_backsTillWithout_4 rfl rfl ?_
      refine jj_iconst (pc := 5) (v := 4) dX5_backsTillWithout_5 rfl ?_
      refine jj_icmp_ge (pc := 6) 24 dX5_backsTillWithout_6 (by decide) (fun h6 => ?_) (fun h6 => ?_)
      · exact absurd h6 (jb_lt (by decide) hi)
      · refine jj_iload_n (pc := 9) 2 dX5_backsTillWithout_9 rfl rfl ?_
        refine jj_aload_n (pc := 10) 0 dX5_backsTillWithout_10 rfl rfl ?_
        refine jj_iload_n (pc := 11) 3 dX5_backsTillWithout_11 rfl rfl ?_
        refine jj_iload_n (pc := 12) 1 dX5_backsTillWithout_12 rfl rfl ?_
        refine jj_callVr (pc := 13) _ (c_X5_backsOf l D cA ob ro ar _ _ _) dX5_backsTillWithout_13 gX5_backsTillWithout_X5_backsOf jm_X5_backsOf rfl (by decide) 5 jq_5 rfl rfl rfl (Nat.le_of_ble_eq_true rfl) jz ?_
        refine jj_iadd (pc := 16) dX5_backsTillWithout_16 ?_
        refine jj_istore_n_2 (pc := 17) dX5_backsTillWithout_17 rfl rfl (by decide) ?_
        refine jj_iinc_3 (pc := 18) (z := 1) dX5_backsTillWithout_18 rfl rfl (by decide) ?_
        refine jj_goto (pc := 21) 4 dX5_backsTillWithout_21 (by decide) ?_
        rw [nI_succ, mBackT] at ih
        exact ih
  refine jj_iconst (pc := 0) (v := 0) dX5_backsTillWithout_0 rfl ?_
  refine jj_istore_n_2 (pc := 1) dX5_backsTillWithout_1 rfl rfl (by decide) ?_
  refine jj_iconst (pc := 2) (v := 0) dX5_backsTillWithout_2 rfl ?_
  refine jj_istore_n_3 (pc := 3) dX5_backsTillWithout_3 rfl rfl (by decide) ?_
  exact K 0 (Nat.zero_le _)
