/-! The class Image: image (rows 23, 24, 25; layout 1) and spare (rows 26, 27, 28; layout 2). -/
def jfo (f : Nat → jS → jS) (S : jS) : Nat → jS
  | 0 => S
  | i + 1 => f i (jfo f S i)
theorem jfo_1 {f : Nat → jS → jS} {b : Nat} (h : ∀ i T, (f i T).1 b = T.1 b) (S : jS) : ∀ i, (jfo f S i).1 b = S.1 b
  | 0 => rfl
  | i + 1 => by rw [jfo, h, jfo_1 h S i]
theorem jfo_stop {f : Nat → jS → jS} {S : jS} {i : Nat} (h : ∀ k, f k (jfo f S i) = jfo f S i) : ∀ d, jfo f S (i + d) = jfo f S i
  | 0 => rfl
  | d + 1 => by rw [← Nat.add_assoc, jfo, jfo_stop h d, h]
theorem jfo_stop' {f : Nat → jS → jS} {S : jS} {i N : Nat} (hi : i ≤ N) (h : ∀ k, f k (jfo f S i) = jfo f S i) : jfo f S N = jfo f S i := by
  have := jfo_stop h (N - i)
  rwa [show i + (N - i) = N by omega] at this
def mk1 (a b : Nat) (x v c : Int32) (q : Nat) (T : jS) : jS := jset (jset T a (x + nI q) v) b (x + nI q) c
def jMark (S : jS) (a b : Nat) (x z v c : Int32) : jS := jfo (mk1 a b x v c) S z.toNatClampNeg
theorem mk1_1 {a b : Nat} {x v c : Int32} (q : Nat) (T : jS) : (mk1 a b x v c q T).1 = T.1 := rfl
theorem jMark_1 (S : jS) (a b : Nat) (x z v c : Int32) : (jMark S a b x z v c).1 = S.1 := funext fun k => jfo_1 (f := mk1 a b x v c) (b := k) (fun i T => rfl) S _
def mFree (S : jS) (a : Nat) : Nat → Int32
  | 0 => 0
  | q + 1 => if jg S a (nI q) = 0 then mFree S a q + 1 else 0
def mRoomQ (S : jS) (a : Nat) (z : Int32) (q : Nat) : Bool := decide (mFree S a (q + 1) = z)
def jfR (q : Nat → Bool) (n : Nat) (z : Int32) : Int32 := match jfind q n with
  | some i => nI i - z + 1
  | none => -1
theorem jfR_none {q : Nat → Bool} {n : Nat} {z : Int32} (h : jfind q n = none) : jfR q n z = -1 := by rw [jfR, h]
theorem jfR_some {q : Nat → Bool} {n i : Nat} {z : Int32} (h : jfind q n = some i) : jfR q n z = nI i - z + 1 := by rw [jfR, h]
def mRoom (S : jS) (a : Nat) (z : Int32) : Int32 := jfR (mRoomQ S a z) 200 z
set_option maxHeartbeats 4000000 in
theorem c_X0_mark_0 (l : Launch) (D : va_G) (cA : ClassId) (ob ro ar : Nat → Nat) (S : jS) (x z v c : Int32) : jjFn l yX0_mark wsX0_mark 1 D cA [.ref (ob 3), .int x, .int z, .int v, .int c] (jW cA ob ro ar S) none (jW cA ob ro ar (jMark S 23 24 x z v c)) := by
  refine jjCon_of (own := RX0) (cc := cX0_mark) (nL := 6) (rt := none) (I := jI0) [some (.ref (ob 3)), some (.int x), some (.int z), some (.int v), some (.int c), none] jm_X0_mark (by decide +kernel) rfl (fun _ _ _ _ _ => trivial) (Nat.le_of_ble_eq_true rfl) rfl ?_
  have K : ∀ q, q ≤ z.toNatClampNeg → jjV l RX0 cX0_mark 6 none jI0 wsX0_mark (jjRm 1 0 0) D cA (jjEnd D (fun r0 w0 => r0 = none ∧ w0 = jW cA ob ro ar (jMark S 23 24 x z v c)) 0 0) 0 0 (jW cA ob ro ar (jfo (mk1 23 24 x v c) S q)) 3 [some (.ref (ob 3)), some (.int x), some (.int z), some (.int v), some (.int c), some (.int (nI q))] [] := by
    refine jdown _ ?_ (fun q hq ih => ?_)
    · refine jj_iload (pc := 3) dX0_mark_3 rfl ?_
      refine jj_iload_n (pc := 5) 2 dX0_mark_5 rfl rfl ?_
      refine jj_icmp_ge (pc := 6) 40 dX0_mark_6 (by decide) (fun h6 => ?_) (fun h6 => ?_)
      · refine jj_vret (pc := 40) dX0_mark_40 ?_
        exact ⟨rfl, rfl⟩
      · exact absurd (jb_ge rfl) h6
    · refine jj_iload (pc := 3) dX0_mark_3 rfl ?_
      refine jj_iload_n (pc := 5) 2 dX0_mark_5 rfl rfl ?_
      refine jj_icmp_ge (pc := 6) 40 dX0_mark_6 (by decide) (fun h6 => ?_) (fun h6 => ?_)
      · exact absurd h6 (jb_lt rfl hq)
      · refine jj_aload_n (pc := 9) 0 dX0_mark_9 rfl rfl ?_
        refine jj_g_3_2 (pc := 10) dX0_mark_10 fd_X0_mark_27 ?_
        refine jj_iload_n (pc := 13) 1 dX0_mark_13 rfl rfl ?_
        refine jj_iload (pc := 14) dX0_mark_14 rfl ?_
        refine jj_iadd (pc := 16) dX0_mark_16 ?_
        refine jj_iload_n (pc := 17) 3 dX0_mark_17 rfl rfl ?_
        refine jj_rset (pc := 18) (r := 23) (by decide) dX0_mark_18 gX0_mark_X4_set (by decide) (Nat.le_of_ble_eq_true rfl) jz ?_
        refine jj_aload_n (pc := 21) 0 dX0_mark_21 rfl rfl ?_
        refine jj_g_3_3 (pc := 22) dX0_mark_22 fd_X0_mark_31 ?_
        refine jj_iload_n (pc := 25) 1 dX0_mark_25 rfl rfl ?_
        refine jj_iload (pc := 26) dX0_mark_26 rfl ?_
        refine jj_iadd (pc := 28) dX0_mark_28 ?_
        refine jj_iload (pc := 29) dX0_mark_29 rfl ?_
        refine jj_rset (pc := 31) (r := 24) (by decide) dX0_mark_31 gX0_mark_X4_set (by decide) (Nat.le_of_ble_eq_true rfl) jz ?_
        refine jj_iinc_5 (pc := 34) (z := 1) dX0_mark_34 rfl rfl (by decide) ?_
        refine jj_goto (pc := 37) 3 dX0_mark_37 (by decide) ?_
        rw [nI_succ] at ih
        exact ih
  refine jj_iconst (pc := 0) (v := 0) dX0_mark_0 rfl ?_
  refine jj_istore_5 (pc := 1) dX0_mark_1 rfl (by decide) ?_
  exact K 0 (Nat.zero_le _)
set_option maxHeartbeats 4000000 in
theorem c_X0_room_0 (l : Launch) (D : va_G) (cA : ClassId) (ob ro ar : Nat → Nat) (S : jS) (z : Int32) : jjFn l yX0_room wsX0_room 1 D cA [.ref (ob 3), .int z] (jW cA ob ro ar S) (some (.int (mRoom S 23 z))) (jW cA ob ro ar S) := by
  refine jjCon_of (own := RX0) (cc := cX0_room) (nL := 4) (rt := (some .int)) (I := jI0) [some (.ref (ob 3)), some (.int z), none, none] jm_X0_room (by decide +kernel) rfl (fun _ _ _ _ _ => trivial) (Nat.le_of_ble_eq_true rfl) rfl ?_
  have K : ∀ q, q ≤ 200 → jfind (mRoomQ S 23 z) q = none → jjV l RX0 cX0_room 4 (some .int) jI0 wsX0_room (jjRm 1 0 0) D cA (jjEnd D (fun r0 w0 => r0 = some (.int (mRoom S 23 z)) ∧ w0 = jW cA ob ro ar S) 0 0) 0 0 (jW cA ob ro ar S) 4 [some (.ref (ob 3)), some (.int z), some (.int (mFree S 23 q)), some (.int (nI q))] [] := by
    refine jdown 200 (fun hn => ?_) (fun q hq ih hn => ?_)
    · refine jj_iload_n (pc := 4) 3 dX0_room_4 rfl rfl ?_
      refine jj_sipush (pc := 5) (v := 200) dX0_room_5 rfl ?_
      refine jj_icmp_ge (pc := 8) 47 dX0_room_8 (by decide) (fun h8 => ?_) (fun h8 => ?_)
      · refine jj_iconst (pc := 47) (v := (-1)) dX0_room_47 rfl ?_
        refine jj_iret (pc := 48) dX0_room_48 ?_
        exact ⟨by rw [mRoom, jfR_none hn], rfl⟩
      · exact absurd (jb_ge (by decide)) h8
    · refine jj_iload_n (pc := 4) 3 dX0_room_4 rfl rfl ?_
      refine jj_sipush (pc := 5) (v := 200) dX0_room_5 rfl ?_
      refine jj_icmp_ge (pc := 8) 47 dX0_room_8 (by decide) (fun h8 => ?_) (fun h8 => ?_)
      · exact absurd h8 (jb_lt (by decide) hq)
      · refine jj_aload_n (pc := 11) 0 dX0_room_11 rfl rfl ?_
        refine jj_g_3_2 (pc := 12) dX0_room_12 fd_X0_room_27 ?_
        refine jj_iload_n (pc := 15) 3 dX0_room_15 rfl rfl ?_
        refine jj_rget (pc := 16) (r := 23) (by decide) dX0_room_16 gX0_room_X4_get (by decide) (Nat.le_of_ble_eq_true rfl) jz ?_
        refine jj_if_ne (pc := 19) 28 dX0_room_19 (by decide) (fun h19 => ?_) (fun h19 => ?_)
        · refine jj_iconst (pc := 28) (v := 0) dX0_room_28 rfl ?_
          refine jj_istore_n_2 (pc := 29) dX0_room_29 rfl rfl (by decide) ?_
          refine jj_iload_n (pc := 30) 2 dX0_room_30 rfl rfl ?_
          refine jj_iload_n (pc := 31) 1 dX0_room_31 rfl rfl ?_
          refine jj_icmp_ne (pc := 32) 41 dX0_room_32 (by decide) (fun h32 => ?_) (fun h32 => ?_)
          · refine jj_iinc_3 (pc := 41) (z := 1) dX0_room_41 rfl rfl (by decide) ?_
            refine jj_goto (pc := 44) 4 dX0_room_44 (by decide) ?_
            have hf : mFree S 23 (q + 1) = 0 := if_neg h19
            have h3 := ih (jfind_next hn (by rw [mRoomQ, hf]; exact decide_eq_false h32))
            rw [nI_succ, hf] at h3
            exact h3
          · refine jj_iload_n (pc := 35) 3 dX0_room_35 rfl rfl ?_
            refine jj_iload_n (pc := 36) 1 dX0_room_36 rfl rfl ?_
            refine jj_isub (pc := 37) dX0_room_37 ?_
            refine jj_iconst (pc := 38) (v := 1) dX0_room_38 rfl ?_
            refine jj_iadd (pc := 39) dX0_room_39 ?_
            refine jj_iret (pc := 40) dX0_room_40 ?_
            have hf : mFree S 23 (q + 1) = 0 := if_neg h19
            exact ⟨by rw [mRoom, jfR_some (jfind_some hn (by rw [mRoomQ, hf]; exact decide_eq_true h32) hq)], rfl⟩
        · refine jj_iload_n (pc := 22) 2 dX0_room_22 rfl rfl ?_
          refine jj_iconst (pc := 23) (v := 1) dX0_room_23 rfl ?_
          refine jj_iadd (pc := 24) dX0_room_24 ?_
          refine jj_goto (pc := 25) 29 dX0_room_25 (by decide) ?_
          refine jj_istore_n_2 (pc := 29) dX0_room_29 rfl rfl (by decide) ?_
          refine jj_iload_n (pc := 30) 2 dX0_room_30 rfl rfl ?_
          refine jj_iload_n (pc := 31) 1 dX0_room_31 rfl rfl ?_
          refine jj_icmp_ne (pc := 32) 41 dX0_room_32 (by decide) (fun h32 => ?_) (fun h32 => ?_)
          · refine jj_iinc_3 (pc := 41) (z := 1) dX0_room_41 rfl rfl (by decide) ?_
            refine jj_goto (pc := 44) 4 dX0_room_44 (by decide) ?_
            have hf : mFree S 23 (q + 1) = mFree S 23 q + 1 := if_pos h19
            have h3 := ih (jfind_next hn (by rw [mRoomQ, hf]; exact decide_eq_false h32))
            rw [nI_succ, hf] at h3
            exact h3
          · refine jj_iload_n (pc := 35) 3 dX0_room_35 rfl rfl ?_
            refine jj_iload_n (pc := 36) 1 dX0_room_36 rfl rfl ?_
            refine jj_isub (pc := 37) dX0_room_37 ?_
            refine jj_iconst (pc := 38) (v := 1) dX0_room_38 rfl ?_
            refine jj_iadd (pc := 39) dX0_room_39 ?_
            refine jj_iret (pc := 40) dX0_room_40 ?_
            have hf : mFree S 23 (q + 1) = mFree S 23 q + 1 := if_pos h19
            exact ⟨by rw [mRoom, jfR_some (jfind_some hn (by rw [mRoomQ, hf]; exact decide_eq_true h32) hq)], rfl⟩
  refine jj_iconst (pc := 0) (v := 0) dX0_room_0 rfl ?_
  refine jj_istore_n_2 (pc := 1) dX0_room_1 rfl rfl (by decide) ?_
  refine jj_iconst (pc := 2) (v := 0) dX0_room_2 rfl ?_
  refine jj_istore_n_3 (pc := 3) dX0_room_3 rfl rfl (by decide) ?_
  exact K 0 (Nat.zero_le _) rfl
set_option maxHeartbeats 4000000 in
theorem c_X0_mark_1 (l : Launch) (D : va_G) (cA : ClassId) (ob ro ar : Nat → Nat) (S : jS) (x z v c : Int32) : jjFn l yX0_mark wsX0_mark 1 D cA [.ref (ob 4), .int x, .int z, .int v, .int c] (jW cA ob ro ar S) none (jW cA ob ro ar (jMark S 26 27 x z v c)) := by
  refine jjCon_of (own := RX0) (cc := cX0_mark) (nL := 6) (rt := none) (I := jI0) [some (.ref (ob 4)), some (.int x), some (.int z), some (.int v), some (.int c), none] jm_X0_mark (by decide +kernel) rfl (fun _ _ _ _ _ => trivial) (Nat.le_of_ble_eq_true rfl) rfl ?_
  have K : ∀ q, q ≤ z.toNatClampNeg → jjV l RX0 cX0_mark 6 none jI0 wsX0_mark (jjRm 1 0 0) D cA (jjEnd D (fun r0 w0 => r0 = none ∧ w0 = jW cA ob ro ar (jMark S 26 27 x z v c)) 0 0) 0 0 (jW cA ob ro ar (jfo (mk1 26 27 x v c) S q)) 3 [some (.ref (ob 4)), some (.int x), some (.int z), some (.int v), some (.int c), some (.int (nI q))] [] := by
    refine jdown _ ?_ (fun q hq ih => ?_)
    · refine jj_iload (pc := 3) dX0_mark_3 rfl ?_
      refine jj_iload_n (pc := 5) 2 dX0_mark_5 rfl rfl ?_
      refine jj_icmp_ge (pc := 6) 40 dX0_mark_6 (by decide) (fun h6 => ?_) (fun h6 => ?_)
      · refine jj_vret (pc := 40) dX0_mark_40 ?_
        exact ⟨rfl, rfl⟩
      · exact absurd (jb_ge rfl) h6
    · refine jj_iload (pc := 3) dX0_mark_3 rfl ?_
      refine jj_iload_n (pc := 5) 2 dX0_mark_5 rfl rfl ?_
      refine jj_icmp_ge (pc := 6) 40 dX0_mark_6 (by decide) (fun h6 => ?_) (fun h6 => ?_)
      · exact absurd h6 (jb_lt rfl hq)
      · refine jj_aload_n (pc := 9) 0 dX0_mark_9 rfl rfl ?_
        refine jj_g_4_2 (pc := 10) dX0_mark_10 fd_X0_mark_27 ?_
        refine jj_iload_n (pc := 13) 1 dX0_mark_13 rfl rfl ?_
        refine jj_iload (pc := 14) dX0_mark_14 rfl ?_
        refine jj_iadd (pc := 16) dX0_mark_16 ?_
        refine jj_iload_n (pc := 17) 3 dX0_mark_17 rfl rfl ?_
        refine jj_rset (pc := 18) (r := 26) (by decide) dX0_mark_18 gX0_mark_X4_set (by decide) (Nat.le_of_ble_eq_true rfl) jz ?_
        refine jj_aload_n (pc := 21) 0 dX0_mark_21 rfl rfl ?_
        refine jj_g_4_3 (pc := 22) dX0_mark_22 fd_X0_mark_31 ?_
        refine jj_iload_n (pc := 25) 1 dX0_mark_25 rfl rfl ?_
        refine jj_iload (pc := 26) dX0_mark_26 rfl ?_
        refine jj_iadd (pc := 28) dX0_mark_28 ?_
        refine jj_iload (pc := 29) dX0_mark_29 rfl ?_
        refine jj_rset (pc := 31) (r := 27) (by decide) dX0_mark_31 gX0_mark_X4_set (by decide) (Nat.le_of_ble_eq_true rfl) jz ?_
        refine jj_iinc_5 (pc := 34) (z := 1) dX0_mark_34 rfl rfl (by decide) ?_
        refine jj_goto (pc := 37) 3 dX0_mark_37 (by decide) ?_
        rw [nI_succ] at ih
        exact ih
  refine jj_iconst (pc := 0) (v := 0) dX0_mark_0 rfl ?_
  refine jj_istore_5 (pc := 1) dX0_mark_1 rfl (by decide) ?_
  exact K 0 (Nat.zero_le _)
set_option maxHeartbeats 4000000 in
theorem c_X0_room_1 (l : Launch) (D : va_G) (cA : ClassId) (ob ro ar : Nat → Nat) (S : jS) (z : Int32) : jjFn l yX0_room wsX0_room 1 D cA [.ref (ob 4), .int z] (jW cA ob ro ar S) (some (.int (mRoom S 26 z))) (jW cA ob ro ar S) := by
  refine jjCon_of (own := RX0) (cc := cX0_room) (nL := 4) (rt := (some .int)) (I := jI0) [some (.ref (ob 4)), some (.int z), none, none] jm_X0_room (by decide +kernel) rfl (fun _ _ _ _ _ => trivial) (Nat.le_of_ble_eq_true rfl) rfl ?_
  have K : ∀ q, q ≤ 200 → jfind (mRoomQ S 26 z) q = none → jjV l RX0 cX0_room 4 (some .int) jI0 wsX0_room (jjRm 1 0 0) D cA (jjEnd D (fun r0 w0 => r0 = some (.int (mRoom S 26 z)) ∧ w0 = jW cA ob ro ar S) 0 0) 0 0 (jW cA ob ro ar S) 4 [some (.ref (ob 4)), some (.int z), some (.int (mFree S 26 q)), some (.int (nI q))] [] := by
    refine jdown 200 (fun hn => ?_) (fun q hq ih hn => ?_)
    · refine jj_iload_n (pc := 4) 3 dX0_room_4 rfl rfl ?_
      refine jj_sipush (pc := 5) (v := 200) dX0_room_5 rfl ?_
      refine jj_icmp_ge (pc := 8) 47 dX0_room_8 (by decide) (fun h8 => ?_) (fun h8 => ?_)
      · refine jj_iconst (pc := 47) (v := (-1)) dX0_room_47 rfl ?_
        refine jj_iret (pc := 48) dX0_room_48 ?_
        exact ⟨by rw [mRoom, jfR_none hn], rfl⟩
      · exact absurd (jb_ge (by decide)) h8
    · refine jj_iload_n (pc := 4) 3 dX0_room_4 rfl rfl ?_
      refine jj_sipush (pc := 5) (v := 200) dX0_room_5 rfl ?_
      refine jj_icmp_ge (pc := 8) 47 dX0_room_8 (by decide) (fun h8 => ?_) (fun h8 => ?_)
      · exact absurd h8 (jb_lt (by decide) hq)
      · refine jj_aload_n (pc := 11) 0 dX0_room_11 rfl rfl ?_
        refine jj_g_4_2 (pc := 12) dX0_room_12 fd_X0_room_27 ?_
        refine jj_iload_n (pc := 15) 3 dX0_room_15 rfl rfl ?_
        refine jj_rget (pc := 16) (r := 26) (by decide) dX0_room_16 gX0_room_X4_get (by decide) (Nat.le_of_ble_eq_true rfl) jz ?_
        refine jj_if_ne (pc := 19) 28 dX0_room_19 (by decide) (fun h19 => ?_) (fun h19 => ?_)
        · refine jj_iconst (pc := 28) (v := 0) dX0_room_28 rfl ?_
          refine jj_istore_n_2 (pc := 29) dX0_room_29 rfl rfl (by decide) ?_
          refine jj_iload_n (pc := 30) 2 dX0_room_30 rfl rfl ?_
          refine jj_iload_n (pc := 31) 1 dX0_room_31 rfl rfl ?_
          refine jj_icmp_ne (pc := 32) 41 dX0_room_32 (by decide) (fun h32 => ?_) (fun h32 => ?_)
          · refine jj_iinc_3 (pc := 41) (z := 1) dX0_room_41 rfl rfl (by decide) ?_
            refine jj_goto (pc := 44) 4 dX0_room_44 (by decide) ?_
            have hf : mFree S 26 (q + 1) = 0 := if_neg h19
            have h3 := ih (jfind_next hn (by rw [mRoomQ, hf]; exact decide_eq_false h32))
            rw [nI_succ, hf] at h3
            exact h3
          · refine jj_iload_n (pc := 35) 3 dX0_room_35 rfl rfl ?_
            refine jj_iload_n (pc := 36) 1 dX0_room_36 rfl rfl ?_
            refine jj_isub (pc := 37) dX0_room_37 ?_
            refine jj_iconst (pc := 38) (v := 1) dX0_room_38 rfl ?_
            refine jj_iadd (pc := 39) dX0_room_39 ?_
            refine jj_iret (pc := 40) dX0_room_40 ?_
            have hf : mFree S 26 (q + 1) = 0 := if_neg h19
            exact ⟨by rw [mRoom, jfR_some (jfind_some hn (by rw [mRoomQ, hf]; exact decide_eq_true h32) hq)], rfl⟩
        · refine jj_iload_n (pc := 22) 2 dX0_room_22 rfl rfl ?_
          refine jj_iconst (pc := 23) (v := 1) dX0_room_23 rfl ?_
          refine jj_iadd (pc := 24) dX0_room_24 ?_
          refine jj_goto (pc := 25) 29 dX0_room_25 (by decide) ?_
          refine jj_istore_n_2 (pc := 29) dX0_room_29 rfl rfl (by decide) ?_
          refine jj_iload_n (pc := 30) 2 dX0_room_30 rfl rfl ?_
          refine jj_iload_n (pc := 31) 1 dX0_room_31 rfl rfl ?_
          refine jj_icmp_ne (pc := 32) 41 dX0_room_32 (by decide) (fun h32 => ?_) (fun h32 => ?_)
          · refine jj_iinc_3 (pc := 41) (z := 1) dX0_room_41 rfl rfl (by decide) ?_
            refine jj_goto (pc := 44) 4 dX0_room_44 (by decide) ?_
            have hf : mFree S 26 (q + 1) = mFree S 26 q + 1 := if_pos h19
            have h3 := ih (jfind_next hn (by rw [mRoomQ, hf]; exact decide_eq_false h32))
            rw [nI_succ, hf] at h3
            exact h3
          · refine jj_iload_n (pc := 35) 3 dX0_room_35 rfl rfl ?_
            refine jj_iload_n (pc := 36) 1 dX0_room_36 rfl rfl ?_
            refine jj_isub (pc := 37) dX0_room_37 ?_
            refine jj_iconst (pc := 38) (v := 1) dX0_room_38 rfl ?_
            refine jj_iadd (pc := 39) dX0_room_39 ?_
            refine jj_iret (pc := 40) dX0_room_40 ?_
            have hf : mFree S 26 (q + 1) = mFree S 26 q + 1 := if_pos h19
            exact ⟨by rw [mRoom, jfR_some (jfind_some hn (by rw [mRoomQ, hf]; exact decide_eq_true h32) hq)], rfl⟩
  refine jj_iconst (pc := 0) (v := 0) dX0_room_0 rfl ?_
  refine jj_istore_n_2 (pc := 1) dX0_room_1 rfl rfl (by decide) ?_
  refine jj_iconst (pc := 2) (v := 0) dX0_room_2 rfl ?_
  refine jj_istore_n_3 (pc := 3) dX0_room_3 rfl rfl (by decide) ?_
  exact K 0 (Nat.zero_le _) rfl
def jIcopy (S : jS) (i i2 : Nat) : jS := jcopy (jcopy (jcopy (jLcopy (js S (16 + i) (S.1 (16 + i2) &&& 1)) (1 + i) (1 + i2)) (23 + 3 * i) (23 + 3 * i2)) (24 + 3 * i) (24 + 3 * i2)) (25 + 3 * i) (25 + 3 * i2)
set_option maxHeartbeats 4000000 in
theorem c_X0_copy_0 (l : Launch) (D : va_G) (cA : ClassId) (ob ro ar : Nat → Nat) (S : jS)  : jjFn l yX0_copy wsX0_copy 2 D cA [.ref (ob 3), .ref (ob 4)] (jW cA ob ro ar S) none (jW cA ob ro ar (jIcopy S 0 1)) := by
  refine jjCon_of (own := RX0) (cc := cX0_copy) (nL := 2) (rt := none) (I := jI0) [some (.ref (ob 3)), some (.ref (ob 4))] jm_X0_copy (by decide +kernel) rfl (fun _ _ _ _ _ => trivial) (Nat.le_of_ble_eq_true rfl) rfl ?_
  refine jj_aload_n (pc := 0) 0 dX0_copy_0 rfl rfl ?_
  refine jj_aload_n (pc := 1) 1 dX0_copy_1 rfl rfl ?_
  refine jj_g_4_0 (pc := 2) dX0_copy_2 fd_X0_copy_9 ?_
  refine jj_p_3_0 (pc := 5) (jb_and _) dX0_copy_5 fd_X0_copy_9 ?_
  refine jj_aload_n (pc := 8) 0 dX0_copy_8 rfl rfl ?_
  refine jj_g_3_1 (pc := 9) dX0_copy_9 fd_X0_copy_18 ?_
  refine jj_aload_n (pc := 12) 1 dX0_copy_12 rfl rfl ?_
  refine jj_g_4_1 (pc := 13) dX0_copy_13 fd_X0_copy_18 ?_
  refine jj_callVv (pc := 16) _ (c_X1_copy l D cA ob ro ar _ (j := 1) (by decide) (j2 := 2) (by decide) (by decide)) dX0_copy_16 gX0_copy_X1_copy jm_X1_copy rfl (by decide) 8 jq_8 rfl rfl rfl (Nat.le_of_ble_eq_true rfl) jz ?_
  refine jj_aload_n (pc := 19) 0 dX0_copy_19 rfl rfl ?_
  refine jj_g_3_2 (pc := 20) dX0_copy_20 fd_X0_copy_27 ?_
  refine jj_aload_n (pc := 23) 1 dX0_copy_23 rfl rfl ?_
  refine jj_g_4_2 (pc := 24) dX0_copy_24 fd_X0_copy_27 ?_
  refine jj_rcopy (pc := 27) (r := 23) (by decide) (q := 26) (by decide) (by decide) dX0_copy_27 gX0_copy_X4_copy (by decide) (Nat.le_of_ble_eq_true rfl) jz ?_
  refine jj_aload_n (pc := 30) 0 dX0_copy_30 rfl rfl ?_
  refine jj_g_3_3 (pc := 31) dX0_copy_31 fd_X0_copy_31 ?_
  refine jj_aload_n (pc := 34) 1 dX0_copy_34 rfl rfl ?_
  refine jj_g_4_3 (pc := 35) dX0_copy_35 fd_X0_copy_31 ?_
  refine jj_rcopy (pc := 38) (r := 24) (by decide) (q := 27) (by decide) (by decide) dX0_copy_38 gX0_copy_X4_copy (by decide) (Nat.le_of_ble_eq_true rfl) jz ?_
  refine jj_aload_n (pc := 41) 0 dX0_copy_41 rfl rfl ?_
  refine jj_g_3_4 (pc := 42) dX0_copy_42 fd_X0_copy_34 ?_
  refine jj_aload_n (pc := 45) 1 dX0_copy_45 rfl rfl ?_
  refine jj_g_4_4 (pc := 46) dX0_copy_46 fd_X0_copy_34 ?_
  refine jj_rcopy (pc := 49) (r := 25) (by decide) (q := 28) (by decide) (by decide) dX0_copy_49 gX0_copy_X4_copy (by decide) (Nat.le_of_ble_eq_true rfl) jz ?_
  refine jj_vret (pc := 52) dX0_copy_52 ?_
  exact ⟨rfl, rfl⟩
set_option maxHeartbeats 4000000 in
theorem c_X0_copy_1 (l : Launch) (D : va_G) (cA : ClassId) (ob ro ar : Nat → Nat) (S : jS)  : jjFn l yX0_copy wsX0_copy 2 D cA [.ref (ob 4), .ref (ob 3)] (jW cA ob ro ar S) none (jW cA ob ro ar (jIcopy S 1 0)) := by
  refine jjCon_of (own := RX0) (cc := cX0_copy) (nL := 2) (rt := none) (I := jI0) [some (.ref (ob 4)), some (.ref (ob 3))] jm_X0_copy (by decide +kernel) rfl (fun _ _ _ _ _ => trivial) (Nat.le_of_ble_eq_true rfl) rfl ?_
  refine jj_aload_n (pc := 0) 0 dX0_copy_0 rfl rfl ?_
  refine jj_aload_n (pc := 1) 1 dX0_copy_1 rfl rfl ?_
  refine jj_g_3_0 (pc := 2) dX0_copy_2 fd_X0_copy_9 ?_
  refine jj_p_4_0 (pc := 5) (jb_and _) dX0_copy_5 fd_X0_copy_9 ?_
  refine jj_aload_n (pc := 8) 0 dX0_copy_8 rfl rfl ?_
  refine jj_g_4_1 (pc := 9) dX0_copy_9 fd_X0_copy_18 ?_
  refine jj_aload_n (pc := 12) 1 dX0_copy_12 rfl rfl ?_
  refine jj_g_3_1 (pc := 13) dX0_copy_13 fd_X0_copy_18 ?_
  refine jj_callVv (pc := 16) _ (c_X1_copy l D cA ob ro ar _ (j := 2) (by decide) (j2 := 1) (by decide) (by decide)) dX0_copy_16 gX0_copy_X1_copy jm_X1_copy rfl (by decide) 9 jq_9 rfl rfl rfl (Nat.le_of_ble_eq_true rfl) jz ?_
  refine jj_aload_n (pc := 19) 0 dX0_copy_19 rfl rfl ?_
  refine jj_g_4_2 (pc := 20) dX0_copy_20 fd_X0_copy_27 ?_
  refine jj_aload_n (pc := 23) 1 dX0_copy_23 rfl rfl ?_
  refine jj_g_3_2 (pc := 24) dX0_copy_24 fd_X0_copy_27 ?_
  refine jj_rcopy (pc := 27) (r := 26) (by decide) (q := 23) (by decide) (by decide) dX0_copy_27 gX0_copy_X4_copy (by decide) (Nat.le_of_ble_eq_true rfl) jz ?_
  refine jj_aload_n (pc := 30) 0 dX0_copy_30 rfl rfl ?_
  refine jj_g_4_3 (pc := 31) dX0_copy_31 fd_X0_copy_31 ?_
  refine jj_aload_n (pc := 34) 1 dX0_copy_34 rfl rfl ?_
  refine jj_g_3_3 (pc := 35) dX0_copy_35 fd_X0_copy_31 ?_
  refine jj_rcopy (pc := 38) (r := 27) (by decide) (q := 24) (by decide) (by decide) dX0_copy_38 gX0_copy_X4_copy (by decide) (Nat.le_of_ble_eq_true rfl) jz ?_
  refine jj_aload_n (pc := 41) 0 dX0_copy_41 rfl rfl ?_
  refine jj_g_4_4 (pc := 42) dX0_copy_42 fd_X0_copy_34 ?_
  refine jj_aload_n (pc := 45) 1 dX0_copy_45 rfl rfl ?_
  refine jj_g_3_4 (pc := 46) dX0_copy_46 fd_X0_copy_34 ?_
  refine jj_rcopy (pc := 49) (r := 28) (by decide) (q := 25) (by decide) (by decide) dX0_copy_49 gX0_copy_X4_copy (by decide) (Nat.le_of_ble_eq_true rfl) jz ?_
  refine jj_vret (pc := 52) dX0_copy_52 ?_
  exact ⟨rfl, rfl⟩
def bg1 (p : Nat) (T : jS) : jS := if mLaid T 1 (nI p) = true then jMark T 23 24 (mPlace T 1 (nI p)) (jg T 4 (nI p)) 1 (nI p) else T
def bg2 (k : Nat) (T : jS) : jS := if mIsl T 1 (nI k) = -1 then T else jMark T 23 24 (mIsl T 1 (nI k)) 1 2 (nI k - nI k / 16 * 16)
theorem bg1_1 (p : Nat) (T : jS) : (bg1 p T).1 = T.1 := by unfold bg1; split <;> first | rfl | exact jMark_1 _ _ _ _ _ _ _
def jBeg0 (S : jS) : jS := jMark (jfill (jLcopy (js S 16 1) 1 0) 25 (-1)) 23 24 0 200 0 (-1)
def jBeg1 (S : jS) : jS := jfo bg1 (jBeg0 S) ((jBeg0 S).1 2).toNatClampNeg
def jBegin (S : jS) : jS := jfo bg2 (jBeg1 S) 128
set_option maxHeartbeats 4000000 in
theorem c_X0_begin (l : Launch) (D : va_G) (cA : ClassId) (ob ro ar : Nat → Nat) (S : jS)  : jjFn l yX0_begin wsX0_begin 2 D cA [.ref (ob 3), .ref (ob 1), .ref (ob 7)] (jW cA ob ro ar S) none (jW cA ob ro ar (jBegin S)) := by
  refine jjCon_of (own := RX0) (cc := cX0_begin) (nL := 4) (rt := none) (I := jI0) [some (.ref (ob 3)), some (.ref (ob 1)), some (.ref (ob 7)), none] jm_X0_begin (by decide +kernel) rfl (fun _ _ _ _ _ => trivial) (Nat.le_of_ble_eq_true rfl) rfl ?_
  have K2 : ∀ q, q ≤ 128 → jjV l RX0 cX0_begin 4 none jI0 wsX0_begin (jjRm 2 0 0) D cA (jjEnd D (fun r0 w0 => r0 = none ∧ w0 = jW cA ob ro ar (jBegin S)) 0 0) 0 0 (jW cA ob ro ar (jfo bg2 (jBeg1 S) q)) 85 [some (.ref (ob 3)), some (.ref (ob 1)), some (.ref (ob 7)), some (.int (nI q))] [] := by
    refine jdown _ ?_ (fun q hq ih => ?_)
    · refine jj_iload_n (pc := 85) 3 dX0_begin_85 rfl rfl ?_
      refine jj_sipush (pc := 86) (v := 128) dX0_begin_86 rfl ?_
      refine jj_icmp_ge (pc := 89) 134 dX0_begin_89 (by decide) (fun h89 => ?_) (fun h89 => ?_)
      · refine jj_vret (pc := 134) dX0_begin_134 ?_
        exact ⟨rfl, rfl⟩
      · exact absurd (jb_ge (by decide)) h89
    · refine jj_iload_n (pc := 85) 3 dX0_begin_85 rfl rfl ?_
      refine jj_sipush (pc := 86) (v := 128) dX0_begin_86 rfl ?_
      refine jj_icmp_ge (pc := 89) 134 dX0_begin_89 (by decide) (fun h89 => ?_) (fun h89 => ?_)
      · exact absurd h89 (jb_lt (by decide) hq)
      · refine jj_aload_n (pc := 92) 0 dX0_begin_92 rfl rfl ?_
        refine jj_g_3_1 (pc := 93) dX0_begin_93 fd_X0_begin_18 ?_
        refine jj_g_8_5 (pc := 96) dX0_begin_96 fd_X0_begin_69 ?_
        refine jj_iload_n (pc := 99) 3 dX0_begin_99 rfl rfl ?_
        refine jj_rget (pc := 100) (r := 19) (by decide) dX0_begin_100 gX0_begin_X4_get (by decide) (Nat.le_of_ble_eq_true rfl) jz ?_
        refine jj_iconst (pc := 103) (v := (-1)) dX0_begin_103 rfl ?_
        refine jj_icmp_eq (pc := 104) 128 dX0_begin_104 (by decide) (fun h104 => ?_) (fun h104 => ?_)
        · refine jj_iinc_3 (pc := 128) (z := 1) dX0_begin_128 rfl rfl (by decide) ?_
          refine jj_goto (pc := 131) 85 dX0_begin_131 (by decide) ?_
          rw [nI_succ, jfo, bg2, if_pos (show mIsl (jfo bg2 (jBeg1 S) q) 1 (nI q) = -1 from h104)] at ih
          exact ih
        · refine jj_aload_n (pc := 107) 0 dX0_begin_107 rfl rfl ?_
          refine jj_aload_n (pc := 108) 0 dX0_begin_108 rfl rfl ?_
          refine jj_g_3_1 (pc := 109) dX0_begin_109 fd_X0_begin_18 ?_
          refine jj_g_8_5 (pc := 112) dX0_begin_112 fd_X0_begin_69 ?_
          refine jj_iload_n (pc := 115) 3 dX0_begin_115 rfl rfl ?_
          refine jj_rget (pc := 116) (r := 19) (by decide) dX0_begin_116 gX0_begin_X4_get (by decide) (Nat.le_of_ble_eq_true rfl) jz ?_
          refine jj_iconst (pc := 119) (v := 1) dX0_begin_119 rfl ?_
          refine jj_iconst (pc := 120) (v := 2) dX0_begin_120 rfl ?_
          refine jj_iload_n (pc := 121) 3 dX0_begin_121 rfl rfl ?_
          refine jj_bipush (pc := 122) (v := 16) dX0_begin_122 rfl ?_
          refine jj_irem (pc := 124) dX0_begin_124 (by decide) ?_
          refine jj_callVv (pc := 125) _ (c_X0_mark_0 l D cA ob ro ar _ _ _ _ _) dX0_begin_125 gX0_begin_X0_mark jm_X0_mark rfl (by decide) 3 jq_3 rfl rfl rfl (Nat.le_of_ble_eq_true rfl) jz ?_
          refine jj_iinc_3 (pc := 128) (z := 1) dX0_begin_128 rfl rfl (by decide) ?_
          refine jj_goto (pc := 131) 85 dX0_begin_131 (by decide) ?_
          rw [nI_succ, jfo, bg2, if_neg (show ¬ mIsl (jfo bg2 (jBeg1 S) q) 1 (nI q) = -1 from h104)] at ih
          exact ih
  have K1 : ∀ q, q ≤ ((jBeg0 S).1 2).toNatClampNeg → jjV l RX0 cX0_begin 4 none jI0 wsX0_begin (jjRm 2 0 0) D cA (jjEnd D (fun r0 w0 => r0 = none ∧ w0 = jW cA ob ro ar (jBegin S)) 0 0) 0 0 (jW cA ob ro ar (jfo bg1 (jBeg0 S) q)) 33 [some (.ref (ob 3)), some (.ref (ob 1)), some (.ref (ob 7)), some (.int (nI q))] [] := by
    refine jdown _ ?_ (fun q hq ih => ?_)
    · refine jj_iload_n (pc := 33) 3 dX0_begin_33 rfl rfl ?_
      refine jj_aload_n (pc := 34) 1 dX0_begin_34 rfl rfl ?_
      refine jj_g_1_9 (pc := 35) dX0_begin_35 fd_X0_begin_49 ?_
      refine jj_icmp_ge (pc := 38) 83 dX0_begin_38 (by decide) (fun h38 => ?_) (fun h38 => ?_)
      · refine jj_iconst (pc := 83) (v := 0) dX0_begin_83 rfl ?_
        refine jj_istore_n_3 (pc := 84) dX0_begin_84 rfl rfl (by decide) ?_
        exact K2 0 (Nat.zero_le _)
      · exact absurd (by rw [jfo_1 (fun i T => by rw [bg1_1])]; exact jb_ge rfl) h38
    · refine jj_iload_n (pc := 33) 3 dX0_begin_33 rfl rfl ?_
      refine jj_aload_n (pc := 34) 1 dX0_begin_34 rfl rfl ?_
      refine jj_g_1_9 (pc := 35) dX0_begin_35 fd_X0_begin_49 ?_
      refine jj_icmp_ge (pc := 38) 83 dX0_begin_38 (by decide) (fun h38 => ?_) (fun h38 => ?_)
      · exact absurd (by rw [jfo_1 (fun i T => by rw [bg1_1])] at h38; exact h38) (jb_lt rfl hq)
      · refine jj_aload_n (pc := 41) 0 dX0_begin_41 rfl rfl ?_
        refine jj_g_3_1 (pc := 42) dX0_begin_42 fd_X0_begin_18 ?_
        refine jj_iload_n (pc := 45) 3 dX0_begin_45 rfl rfl ?_
        refine jj_callVr (pc := 46) _ (c_X1_isLaid l D cA ob ro ar _ (j := 1) (by decide) _) dX0_begin_46 gX0_begin_X1_isLaid jm_X1_isLaid rfl (by decide) 8 jq_8 rfl rfl rfl (Nat.le_of_ble_eq_true rfl) jz ?_
        refine jj_if_eq (pc := 49) 77 dX0_begin_49 (by decide) (fun h49 => ?_) (fun h49 => ?_)
        · refine jj_iinc_3 (pc := 77) (z := 1) dX0_begin_77 rfl rfl (by decide) ?_
          refine jj_goto (pc := 80) 33 dX0_begin_80 (by decide) ?_
          rw [nI_succ, jfo, bg1, if_neg (by rw [bI_0 h49]; decide)] at ih
          exact ih
        · refine jj_aload_n (pc := 52) 0 dX0_begin_52 rfl rfl ?_
          refine jj_aload_n (pc := 53) 0 dX0_begin_53 rfl rfl ?_
          refine jj_g_3_1 (pc := 54) dX0_begin_54 fd_X0_begin_18 ?_
          refine jj_g_8_4 (pc := 57) dX0_begin_57 fd_X0_begin_59 ?_
          refine jj_iload_n (pc := 60) 3 dX0_begin_60 rfl rfl ?_
          refine jj_rget (pc := 61) (r := 18) (by decide) dX0_begin_61 gX0_begin_X4_get (by decide) (Nat.le_of_ble_eq_true rfl) jz ?_
          refine jj_aload_n (pc := 64) 1 dX0_begin_64 rfl rfl ?_
          refine jj_g_1_4 (pc := 65) dX0_begin_65 fd_X0_begin_66 ?_
          refine jj_iload_n (pc := 68) 3 dX0_begin_68 rfl rfl ?_
          refine jj_rget (pc := 69) (r := 4) (by decide) dX0_begin_69 gX0_begin_X4_get (by decide) (Nat.le_of_ble_eq_true rfl) jz ?_
          refine jj_iconst (pc := 72) (v := 1) dX0_begin_72 rfl ?_
          refine jj_iload_n (pc := 73) 3 dX0_begin_73 rfl rfl ?_
          refine jj_callVv (pc := 74) _ (c_X0_mark_0 l D cA ob ro ar _ _ _ _ _) dX0_begin_74 gX0_begin_X0_mark jm_X0_mark rfl (by decide) 3 jq_3 rfl rfl rfl (Nat.le_of_ble_eq_true rfl) jz ?_
          refine jj_iinc_3 (pc := 77) (z := 1) dX0_begin_77 rfl rfl (by decide) ?_
          refine jj_goto (pc := 80) 33 dX0_begin_80 (by decide) ?_
          rw [nI_succ, jfo, bg1, if_pos (bI_1 h49)] at ih
          exact ih
  refine jj_aload_n (pc := 0) 0 dX0_begin_0 rfl rfl ?_
  refine jj_iconst (pc := 1) (v := 1) dX0_begin_1 rfl ?_
  refine jj_p_3_0 (pc := 2) rfl dX0_begin_2 fd_X0_begin_9 ?_
  refine jj_aload_n (pc := 5) 0 dX0_begin_5 rfl rfl ?_
  refine jj_g_3_1 (pc := 6) dX0_begin_6 fd_X0_begin_18 ?_
  refine jj_aload_n (pc := 9) 2 dX0_begin_9 rfl rfl ?_
  refine jj_callVv (pc := 10) _ (c_X1_copy l D cA ob ro ar _ (j := 1) (by decide) (j2 := 0) (by decide) (by decide)) dX0_begin_10 gX0_begin_X1_copy jm_X1_copy rfl (by decide) 8 jq_8 rfl rfl rfl (Nat.le_of_ble_eq_true rfl) jz ?_
  refine jj_aload_n (pc := 13) 0 dX0_begin_13 rfl rfl ?_
  refine jj_g_3_4 (pc := 14) dX0_begin_14 fd_X0_begin_34 ?_
  refine jj_iconst (pc := 17) (v := (-1)) dX0_begin_17 rfl ?_
  refine jj_rfill (pc := 18) (r := 25) (by decide) dX0_begin_18 gX0_begin_X4_fill (by decide) (Nat.le_of_ble_eq_true rfl) jz ?_
  refine jj_aload_n (pc := 21) 0 dX0_begin_21 rfl rfl ?_
  refine jj_iconst (pc := 22) (v := 0) dX0_begin_22 rfl ?_
  refine jj_sipush (pc := 23) (v := 200) dX0_begin_23 rfl ?_
  refine jj_iconst (pc := 26) (v := 0) dX0_begin_26 rfl ?_
  refine jj_iconst (pc := 27) (v := (-1)) dX0_begin_27 rfl ?_
  refine jj_callVv (pc := 28) _ (c_X0_mark_0 l D cA ob ro ar _ _ _ _ _) dX0_begin_28 gX0_begin_X0_mark jm_X0_mark rfl (by decide) 3 jq_3 rfl rfl rfl (Nat.le_of_ble_eq_true rfl) jz ?_
  refine jj_iconst (pc := 31) (v := 0) dX0_begin_31 rfl ?_
  refine jj_istore_n_3 (pc := 32) dX0_begin_32 rfl rfl (by decide) ?_
  exact K1 0 (Nat.zero_le _)
def rpS1 (S : jS) (p x : Int32) : jS := jset (jset (jMark S 26 27 x (jg S 4 p) 1 p) 21 p x) 20 (jg S 3 p) p
def rpS2 (S : jS) (p x : Int32) : jS := jset (jMark (rpS1 S p x) 26 27 (mPlace S 2 (mStand S 2 (jg S 3 p))) (jg (rpS1 S p x) 4 (mStand S 2 (jg S 3 p))) 0 (-1)) 21 (mStand S 2 (jg S 3 p)) (-1)
def rpS3 (S : jS) (p x : Int32) : jS := if jg (rpS2 S p x) 28 (jg S 3 p) = -1 ∧ mLoses (rpS2 S p x) 2 (jg S 3 p) = true then jset (jMark (rpS2 S p x) 26 27 (mPlace S 2 (mStand S 2 (jg S 3 p))) 1 3 (jg S 3 p)) 28 (jg S 3 p) (mPlace S 2 (mStand S 2 (jg S 3 p))) else rpS2 S p x
def rpOk (S : jS) (p : Int32) : Bool := decide (mRoom S 26 (jg S 4 p) ≠ -1)
def jRep (S : jS) (p : Int32) : jS := if rpOk S p = true then rpS3 S p (mRoom S 26 (jg S 4 p)) else S
set_option maxHeartbeats 4000000 in
theorem c_X0_replace (l : Launch) (D : va_G) (cA : ClassId) (ob ro ar : Nat → Nat) (S : jS) (p : Int32) : jjFn l yX0_replace wsX0_replace 3 D cA [.ref (ob 4), .ref (ob 1), .int p] (jW cA ob ro ar S) (some (.int (bI (rpOk S p)))) (jW cA ob ro ar (jRep S p)) := by
  refine jjCon_of (own := RX0) (cc := cX0_replace) (nL := 8) (rt := (some .boolean)) (I := jI0) [some (.ref (ob 4)), some (.ref (ob 1)), some (.int p), none, none, none, none, none] jm_X0_replace (by decide +kernel) rfl (fun _ _ _ _ _ => trivial) (Nat.le_of_ble_eq_true rfl) rfl ?_
  refine jj_aload_n (pc := 0) 1 dX0_replace_0 rfl rfl ?_
  refine jj_g_1_4 (pc := 1) dX0_replace_1 fd_X0_replace_66 ?_
  refine jj_iload_n (pc := 4) 2 dX0_replace_4 rfl rfl ?_
  refine jj_rget (pc := 5) (r := 4) (by decide) dX0_replace_5 gX0_replace_X4_get (by decide) (Nat.le_of_ble_eq_true rfl) jz ?_
  refine jj_istore_n_3 (pc := 8) dX0_replace_8 rfl rfl (by decide) ?_
  refine jj_aload_n (pc := 9) 1 dX0_replace_9 rfl rfl ?_
  refine jj_g_1_3 (pc := 10) dX0_replace_10 fd_X0_replace_78 ?_
  refine jj_iload_n (pc := 13) 2 dX0_replace_13 rfl rfl ?_
  refine jj_rget (pc := 14) (r := 3) (by decide) dX0_replace_14 gX0_replace_X4_get (by decide) (Nat.le_of_ble_eq_true rfl) jz ?_
  refine jj_istore_4 (pc := 17) dX0_replace_17 rfl (by decide) ?_
  refine jj_aload_n (pc := 19) 0 dX0_replace_19 rfl rfl ?_
  refine jj_iload_n (pc := 20) 3 dX0_replace_20 rfl rfl ?_
  refine jj_callVr (pc := 21) _ (c_X0_room_1 l D cA ob ro ar _ _) dX0_replace_21 gX0_replace_X0_room jm_X0_room rfl (by decide) 4 jq_4 rfl rfl rfl (Nat.le_of_ble_eq_true rfl) jz ?_
  refine jj_istore_5 (pc := 24) dX0_replace_24 rfl (by decide) ?_
  refine jj_iload (pc := 26) dX0_replace_26 rfl ?_
  refine jj_iconst (pc := 28) (v := (-1)) dX0_replace_28 rfl ?_
  refine jj_icmp_ne (pc := 29) 34 dX0_replace_29 (by decide) (fun h29 => ?_) (fun h29 => ?_)
  · refine jj_aload_n (pc := 34) 0 dX0_replace_34 rfl rfl ?_
    refine jj_g_4_1 (pc := 35) dX0_replace_35 fd_X0_replace_18 ?_
    refine jj_g_9_3 (pc := 38) dX0_replace_38 fd_X0_replace_84 ?_
    refine jj_iload (pc := 41) dX0_replace_41 rfl ?_
    refine jj_rget (pc := 43) (r := 20) (by decide) dX0_replace_43 gX0_replace_X4_get (by decide) (Nat.le_of_ble_eq_true rfl) jz ?_
    refine jj_istore_6 (pc := 46) dX0_replace_46 rfl (by decide) ?_
    refine jj_aload_n (pc := 48) 0 dX0_replace_48 rfl rfl ?_
    refine jj_g_4_1 (pc := 49) dX0_replace_49 fd_X0_replace_18 ?_
    refine jj_g_9_4 (pc := 52) dX0_replace_52 fd_X0_replace_59 ?_
    refine jj_iload (pc := 55) dX0_replace_55 rfl ?_
    refine jj_rget (pc := 57) (r := 21) (by decide) dX0_replace_57 gX0_replace_X4_get (by decide) (Nat.le_of_ble_eq_true rfl) jz ?_
    refine jj_istore_7 (pc := 60) dX0_replace_60 rfl (by decide) ?_
    refine jj_aload_n (pc := 62) 0 dX0_replace_62 rfl rfl ?_
    refine jj_iload (pc := 63) dX0_replace_63 rfl ?_
    refine jj_iload_n (pc := 65) 3 dX0_replace_65 rfl rfl ?_
    refine jj_iconst (pc := 66) (v := 1) dX0_replace_66 rfl ?_
    refine jj_iload_n (pc := 67) 2 dX0_replace_67 rfl rfl ?_
    refine jj_callVv (pc := 68) _ (c_X0_mark_1 l D cA ob ro ar _ _ _ _ _) dX0_replace_68 gX0_replace_X0_mark jm_X0_mark rfl (by decide) 4 jq_4 rfl rfl rfl (Nat.le_of_ble_eq_true rfl) jz ?_
    refine jj_aload_n (pc := 71) 0 dX0_replace_71 rfl rfl ?_
    refine jj_g_4_1 (pc := 72) dX0_replace_72 fd_X0_replace_18 ?_
    refine jj_g_9_4 (pc := 75) dX0_replace_75 fd_X0_replace_59 ?_
    refine jj_iload_n (pc := 78) 2 dX0_replace_78 rfl rfl ?_
    refine jj_iload (pc := 79) dX0_replace_79 rfl ?_
    refine jj_rset (pc := 81) (r := 21) (by decide) dX0_replace_81 gX0_replace_X4_set (by decide) (Nat.le_of_ble_eq_true rfl) jz ?_
    refine jj_aload_n (pc := 84) 0 dX0_replace_84 rfl rfl ?_
    refine jj_g_4_1 (pc := 85) dX0_replace_85 fd_X0_replace_18 ?_
    refine jj_g_9_3 (pc := 88) dX0_replace_88 fd_X0_replace_84 ?_
    refine jj_iload (pc := 91) dX0_replace_91 rfl ?_
    refine jj_iload_n (pc := 93) 2 dX0_replace_93 rfl rfl ?_
    refine jj_rset (pc := 94) (r := 20) (by decide) dX0_replace_94 gX0_replace_X4_set (by decide) (Nat.le_of_ble_eq_true rfl) jz ?_
    refine jj_aload_n (pc := 97) 0 dX0_replace_97 rfl rfl ?_
    refine jj_iload (pc := 98) dX0_replace_98 rfl ?_
    refine jj_aload_n (pc := 100) 1 dX0_replace_100 rfl rfl ?_
    refine jj_g_1_4 (pc := 101) dX0_replace_101 fd_X0_replace_66 ?_
    refine jj_iload (pc := 104) dX0_replace_104 rfl ?_
    refine jj_rget (pc := 106) (r := 4) (by decide) dX0_replace_106 gX0_replace_X4_get (by decide) (Nat.le_of_ble_eq_true rfl) jz ?_
    refine jj_iconst (pc := 109) (v := 0) dX0_replace_109 rfl ?_
    refine jj_iconst (pc := 110) (v := (-1)) dX0_replace_110 rfl ?_
    refine jj_callVv (pc := 111) _ (c_X0_mark_1 l D cA ob ro ar _ _ _ _ _) dX0_replace_111 gX0_replace_X0_mark jm_X0_mark rfl (by decide) 4 jq_4 rfl rfl rfl (Nat.le_of_ble_eq_true rfl) jz ?_
    refine jj_aload_n (pc := 114) 0 dX0_replace_114 rfl rfl ?_
    refine jj_g_4_1 (pc := 115) dX0_replace_115 fd_X0_replace_18 ?_
    refine jj_g_9_4 (pc := 118) dX0_replace_118 fd_X0_replace_59 ?_
    refine jj_iload (pc := 121) dX0_replace_121 rfl ?_
    refine jj_iconst (pc := 123) (v := (-1)) dX0_replace_123 rfl ?_
    refine jj_rset (pc := 124) (r := 21) (by decide) dX0_replace_124 gX0_replace_X4_set (by decide) (Nat.le_of_ble_eq_true rfl) jz ?_
    refine jj_aload_n (pc := 127) 0 dX0_replace_127 rfl rfl ?_
    refine jj_g_4_4 (pc := 128) dX0_replace_128 fd_X0_replace_34 ?_
    refine jj_iload (pc := 131) dX0_replace_131 rfl ?_
    refine jj_rget (pc := 133) (r := 28) (by decide) dX0_replace_133 gX0_replace_X4_get (by decide) (Nat.le_of_ble_eq_true rfl) jz ?_
    refine jj_iconst (pc := 136) (v := (-1)) dX0_replace_136 rfl ?_
    refine jj_icmp_ne (pc := 137) 174 dX0_replace_137 (by decide) (fun h137 => ?_) (fun h137 => ?_)
    · refine jj_iconst (pc := 174) (v := 1) dX0_replace_174 rfl ?_
      refine jj_zret (pc := 175) rfl dX0_replace_175 ?_
      have h1 : rpOk S p = true := decide_eq_true h29
      exact ⟨by rw [h1]; rfl, by rw [jRep, if_pos h1, rpS3, if_neg (fun z => h137 z.1)] <;> rfl⟩
    · refine jj_aload_n (pc := 140) 0 dX0_replace_140 rfl rfl ?_
      refine jj_g_4_1 (pc := 141) dX0_replace_141 fd_X0_replace_18 ?_
      refine jj_aload_n (pc := 144) 1 dX0_replace_144 rfl rfl ?_
      refine jj_iload (pc := 145) dX0_replace_145 rfl ?_
      refine jj_callVr (pc := 147) _ (c_X1_losesSymbol l D cA ob ro ar _ (j := 2) (by decide) _) dX0_replace_147 gX0_replace_X1_losesSymbol jm_X1_losesSymbol rfl (by decide) 9 jq_9 rfl rfl rfl (Nat.le_of_ble_eq_true rfl) jz ?_
      refine jj_if_eq (pc := 150) 174 dX0_replace_150 (by decide) (fun h150 => ?_) (fun h150 => ?_)
      · refine jj_iconst (pc := 174) (v := 1) dX0_replace_174 rfl ?_
        refine jj_zret (pc := 175) rfl dX0_replace_175 ?_
        have h1 : rpOk S p = true := decide_eq_true h29
        exact ⟨by rw [h1]; rfl, by rw [jRep, if_pos h1, rpS3, if_neg (fun z => absurd (z.2.symm.trans (bI_0 h150)) (by decide))] <;> rfl⟩
      · refine jj_aload_n (pc := 153) 0 dX0_replace_153 rfl rfl ?_
        refine jj_iload (pc := 154) dX0_replace_154 rfl ?_
        refine jj_iconst (pc := 156) (v := 1) dX0_replace_156 rfl ?_
        refine jj_iconst (pc := 157) (v := 3) dX0_replace_157 rfl ?_
        refine jj_iload (pc := 158) dX0_replace_158 rfl ?_
        refine jj_callVv (pc := 160) _ (c_X0_mark_1 l D cA ob ro ar _ _ _ _ _) dX0_replace_160 gX0_replace_X0_mark jm_X0_mark rfl (by decide) 4 jq_4 rfl rfl rfl (Nat.le_of_ble_eq_true rfl) jz ?_
        refine jj_aload_n (pc := 163) 0 dX0_replace_163 rfl rfl ?_
        refine jj_g_4_4 (pc := 164) dX0_replace_164 fd_X0_replace_34 ?_
        refine jj_iload (pc := 167) dX0_replace_167 rfl ?_
        refine jj_iload (pc := 169) dX0_replace_169 rfl ?_
        refine jj_rset (pc := 171) (r := 28) (by decide) dX0_replace_171 gX0_replace_X4_set (by decide) (Nat.le_of_ble_eq_true rfl) jz ?_
        refine jj_iconst (pc := 174) (v := 1) dX0_replace_174 rfl ?_
        refine jj_zret (pc := 175) rfl dX0_replace_175 ?_
        have h1 : rpOk S p = true := decide_eq_true h29
        exact ⟨by rw [h1]; rfl, by rw [jRep, if_pos h1, rpS3, if_pos ⟨h137, bI_1 h150⟩] <;> rfl⟩
  · refine jj_iconst (pc := 32) (v := 0) dX0_replace_32 rfl ?_
    refine jj_zret (pc := 33) rfl dX0_replace_33 ?_
    have h1 : rpOk S p = false := decide_eq_false (fun z => z h29)
    exact ⟨by rw [h1]; rfl, by rw [jRep, if_neg (by rw [h1]; decide)]⟩
