/-! The class Row: what its methods do to a row of the state. -/
theorem jz {a b : Nat} : 0 ≤ a ∧ 0 ≤ b := ⟨Nat.zero_le _, Nat.zero_le _⟩
theorem jdown {P : Nat → Prop} (N : Nat) (hN : P N) (hs : ∀ i, i < N → P (i + 1) → P i) : ∀ i, i ≤ N → P i := by
  have H : ∀ d, d ≤ N → P (N - d) := by
    intro d
    induction d with
    | zero => intro _; simpa using hN
    | succ d ih =>
      intro hd
      have h1 := ih (by omega)
      exact hs (N - (d + 1)) (by omega) (by rw [show N - (d + 1) + 1 = N - d by omega]; exact h1)
  intro i hi
  have h := H (N - i) (by omega)
  rwa [show N - (N - i) = i by omega] at h
theorem rget_neg {n : Nat} {f : Nat → Int32} {i : Int32} (h : i < 0) : rget n f i = -1 := if_neg (fun q => absurd q.1 (by rw [Int32.not_le]; exact h))
theorem rget_big {n : Nat} {f : Nat → Int32} {i : Int32} (h : nI n ≤ i) : rget n f i = -1 := if_neg (fun q => absurd q.2 (by rw [Int32.not_lt]; exact h))
theorem jin_of {n : Nat} {i : Int32} (h : ¬ i < 0) (h2 : ¬ nI n ≤ i) : jin n i := ⟨by rw [Int32.not_lt] at h; exact h, by rw [Int32.not_le] at h2; exact h2⟩
theorem rget_in {n : Nat} {f : Nat → Int32} {i : Int32} (h : ¬ i < 0) (h2 : ¬ nI n ≤ i) : rget n f i = f i.toNatClampNeg := if_pos (jin_of h h2)
theorem rset_neg {n : Nat} {f : Nat → Int32} {i v : Int32} (h : i < 0) : rset n f i v = f := if_neg (fun q => absurd q.1 (by rw [Int32.not_le]; exact h))
theorem rset_big {n : Nat} {f : Nat → Int32} {i v : Int32} (h : nI n ≤ i) : rset n f i v = f := if_neg (fun q => absurd q.2 (by rw [Int32.not_lt]; exact h))
theorem rset_in {n : Nat} {f : Nat → Int32} {i v : Int32} (h : ¬ i < 0) (h2 : ¬ nI n ≤ i) : rset n f i v = upd f i.toNatClampNeg v := if_pos (jin_of h h2)
theorem vp_in_ge {n : Nat} {i : Int32} (hn : n < 2 ^ 31) (h : ¬ i < 0) (h2 : ¬ nI n ≤ i) : vp_in i n := by
  rcases pk_ix i hn with q | q | ⟨j, hj, rfl⟩
  · exact absurd q h
  · exact absurd q h2
  · exact vp_in_nI hj hn
theorem jr_self (S : jS) (r : Nat) : jr S r (S.2 r) = S := by
  obtain ⟨a, b⟩ := S
  show (a, _) = (a, b)
  congr 1
  funext q
  by_cases h : q = r
  · subst h; exact if_pos rfl
  · exact if_neg h
theorem jr_jr (S : jS) (r : Nat) (f g : Nat → Int32) : jr (jr S r f) r g = jr S r g := by
  show (S.1, _) = (S.1, _)
  congr 1
  funext q
  by_cases h : q = r
  · simp [h]
  · simp [h, jr]
theorem rfill_0 (v : Int32) (f : Nat → Int32) : rfill 0 v f = f := by funext i; simp [rfill]
theorem rfill_s (n : Nat) (v : Int32) (f : Nat → Int32) : upd (rfill n v f) n v = rfill (n + 1) v f := by
  funext i
  by_cases h : i = n
  · subst h; simp [upd, rfill]
  · by_cases h2 : i < n
    · simp [upd, rfill, h, h2, Nat.lt_succ_of_lt h2]
    · simp [upd, rfill, h, h2, show ¬ i < n + 1 by omega]
theorem rcopy_0 (g f : Nat → Int32) : rcopy 0 g f = f := by funext i; simp [rcopy]
theorem rcopy_s (n : Nat) (g f : Nat → Int32) : upd (rcopy n g f) n (g n) = rcopy (n + 1) g f := by
  funext i
  by_cases h : i = n
  · subst h; simp [upd, rcopy]
  · by_cases h2 : i < n
    · simp [upd, rcopy, h, h2, Nat.lt_succ_of_lt h2]
    · simp [upd, rcopy, h, h2, show ¬ i < n + 1 by omega]
set_option maxHeartbeats 4000000 in
theorem c_X4_get (l : Launch) (D : va_G) (cA : ClassId) (ob ro ar : Nat → Nat) (S : jS) {r : Nat} (hr : r < 34) (i : Int32) : jjFn l yX4_get wsX4_get 0 D cA [.ref (ro r), .int i] (jW cA ob ro ar S) (some (.int (jg S r i))) (jW cA ob ro ar S) := by
  refine jjCon_of (own := RX4) (cc := cX4_get) (nL := 2) (rt := (some .int)) (I := jI0) [some (.ref (ro r)), some (.int i)] jm_X4_get (by decide +kernel) rfl (fun _ _ _ _ _ => trivial) (Nat.le_of_ble_eq_true rfl) rfl ?_
  refine jj_iload_n (pc := 0) 1 dX4_get_0 rfl rfl ?_
  refine jj_if_lt (pc := 1) 22 dX4_get_1 (by decide) (fun h1 => ?_) (fun h1 => ?_)
  · refine jj_iconst (pc := 22) (v := (-1)) dX4_get_22 rfl ?_
    refine jj_iret (pc := 23) dX4_get_23 ?_
    first
      | exact ⟨by rw [jg, rget_neg h1], rfl⟩
      | exact ⟨by rw [jg, rget_big h10], rfl⟩
      | exact ⟨by rw [jg, rget_in h1 h10], rfl⟩
  · refine jj_iload_n (pc := 4) 1 dX4_get_4 rfl rfl ?_
    refine jj_aload_n (pc := 5) 0 dX4_get_5 rfl rfl ?_
    refine jj_g_R (pc := 6) (r := r) hr dX4_get_6 fd_X4_get_9 ?_
    refine jj_aln (pc := 9) (r := r) hr dX4_get_9 ?_
    refine jj_icmp_ge (pc := 10) 22 dX4_get_10 (by decide) (fun h10 => ?_) (fun h10 => ?_)
    · refine jj_iconst (pc := 22) (v := (-1)) dX4_get_22 rfl ?_
      refine jj_iret (pc := 23) dX4_get_23 ?_
      first
        | exact ⟨by rw [jg, rget_neg h1], rfl⟩
        | exact ⟨by rw [jg, rget_big h10], rfl⟩
        | exact ⟨by rw [jg, rget_in h1 h10], rfl⟩
    · refine jj_aload_n (pc := 13) 0 dX4_get_13 rfl rfl ?_
      refine jj_g_R (pc := 14) (r := r) hr dX4_get_14 fd_X4_get_9 ?_
      refine jj_iload_n (pc := 17) 1 dX4_get_17 rfl rfl ?_
      refine jj_ald (pc := 18) (r := r) hr dX4_get_18 (vp_in_ge (jlen_lt r) h1 h10) ?_
      refine jj_goto (pc := 19) 23 dX4_get_19 (by decide) ?_
      refine jj_iret (pc := 23) dX4_get_23 ?_
      first
        | exact ⟨by rw [jg, rget_neg h1], rfl⟩
        | exact ⟨by rw [jg, rget_big h10], rfl⟩
        | exact ⟨by rw [jg, rget_in h1 h10], rfl⟩
set_option maxHeartbeats 4000000 in
theorem c_X4_set (l : Launch) (D : va_G) (cA : ClassId) (ob ro ar : Nat → Nat) (S : jS) {r : Nat} (hr : r < 34) (i v : Int32) : jjFn l yX4_set wsX4_set 0 D cA [.ref (ro r), .int i, .int v] (jW cA ob ro ar S) none (jW cA ob ro ar (jset S r i v)) := by
  refine jjCon_of (own := RX4) (cc := cX4_set) (nL := 3) (rt := none) (I := jI0) [some (.ref (ro r)), some (.int i), some (.int v)] jm_X4_set (by decide +kernel) rfl (fun _ _ _ _ _ => trivial) (Nat.le_of_ble_eq_true rfl) rfl ?_
  refine jj_iload_n (pc := 0) 1 dX4_set_0 rfl rfl ?_
  refine jj_if_lt (pc := 1) 20 dX4_set_1 (by decide) (fun h1 => ?_) (fun h1 => ?_)
  · refine jj_vret (pc := 20) dX4_set_20 ?_
    first
      | exact ⟨rfl, by rw [jset, rset_neg h1, jr_self]⟩
      | exact ⟨rfl, by rw [jset, rset_big h10, jr_self]⟩
      | exact ⟨rfl, by rw [jset, rset_in h1 h10]⟩
  · refine jj_iload_n (pc := 4) 1 dX4_set_4 rfl rfl ?_
    refine jj_aload_n (pc := 5) 0 dX4_set_5 rfl rfl ?_
    refine jj_g_R (pc := 6) (r := r) hr dX4_set_6 fd_X4_set_9 ?_
    refine jj_aln (pc := 9) (r := r) hr dX4_set_9 ?_
    refine jj_icmp_ge (pc := 10) 20 dX4_set_10 (by decide) (fun h10 => ?_) (fun h10 => ?_)
    · refine jj_vret (pc := 20) dX4_set_20 ?_
      first
        | exact ⟨rfl, by rw [jset, rset_neg h1, jr_self]⟩
        | exact ⟨rfl, by rw [jset, rset_big h10, jr_self]⟩
        | exact ⟨rfl, by rw [jset, rset_in h1 h10]⟩
    · refine jj_aload_n (pc := 13) 0 dX4_set_13 rfl rfl ?_
      refine jj_g_R (pc := 14) (r := r) hr dX4_set_14 fd_X4_set_9 ?_
      refine jj_iload_n (pc := 17) 1 dX4_set_17 rfl rfl ?_
      refine jj_iload_n (pc := 18) 2 dX4_set_18 rfl rfl ?_
      refine jj_ast (pc := 19) (r := r) hr dX4_set_19 (vp_in_ge (jlen_lt r) h1 h10) ?_
      refine jj_vret (pc := 20) dX4_set_20 ?_
      first
        | exact ⟨rfl, by rw [jset, rset_neg h1, jr_self]⟩
        | exact ⟨rfl, by rw [jset, rset_big h10, jr_self]⟩
        | exact ⟨rfl, by rw [jset, rset_in h1 h10]⟩
set_option maxHeartbeats 4000000 in
theorem c_X4_fill (l : Launch) (D : va_G) (cA : ClassId) (ob ro ar : Nat → Nat) (S : jS) {r : Nat} (hr : r < 34) (v : Int32) : jjFn l yX4_fill wsX4_fill 0 D cA [.ref (ro r), .int v] (jW cA ob ro ar S) none (jW cA ob ro ar (jfill S r v)) := by
  refine jjCon_of (own := RX4) (cc := cX4_fill) (nL := 3) (rt := none) (I := jI0) [some (.ref (ro r)), some (.int v), none] jm_X4_fill (by decide +kernel) rfl (fun _ _ _ _ _ => trivial) (Nat.le_of_ble_eq_true rfl) rfl ?_
  have K : ∀ i, i ≤ jlen r → jjV l RX4 cX4_fill 3 none jI0 wsX4_fill (jjRm 0 0 0) D cA (jjEnd D (fun r0 w0 => r0 = none ∧ w0 = jW cA ob ro ar (jfill S r v)) 0 0) 0 0 (jW cA ob ro ar (jr S r (rfill i v (S.2 r)))) 2 [some (.ref (ro r)), some (.int v), some (.int (nI i))] [] := by
    refine jdown (jlen r) ?_ (fun i hi ih => ?_)
    · refine jj_iload_n (pc := 2) 2 dX4_fill_2 rfl rfl ?_
      refine jj_aload_n (pc := 3) 0 dX4_fill_3 rfl rfl ?_
      refine jj_g_R (pc := 4) (r := r) hr dX4_fill_4 fd_X4_fill_9 ?_
      refine jj_aln (pc := 7) (r := r) hr dX4_fill_7 ?_
      refine jj_icmp_ge (pc := 8) 24 dX4_fill_8 (by decide) (fun h8 => ?_) (fun h8 => ?_)
      · refine jj_vret (pc := 24) dX4_fill_24 ?_
        exact ⟨rfl, rfl⟩
      · exact absurd (nI_le (Nat.le_refl _) (jlen_lt r)) h8
    · refine jj_iload_n (pc := 2) 2 dX4_fill_2 rfl rfl ?_
      refine jj_aload_n (pc := 3) 0 dX4_fill_3 rfl rfl ?_
      refine jj_g_R (pc := 4) (r := r) hr dX4_fill_4 fd_X4_fill_9 ?_
      refine jj_aln (pc := 7) (r := r) hr dX4_fill_7 ?_
      refine jj_icmp_ge (pc := 8) 24 dX4_fill_8 (by decide) (fun h8 => ?_) (fun h8 => ?_)
      · exact absurd h8 (nI_ge hi (jlen_lt r))
      · refine jj_aload_n (pc := 11) 0 dX4_fill_11 rfl rfl ?_
        refine jj_g_R (pc := 12) (r := r) hr dX4_fill_12 fd_X4_fill_9 ?_
        refine jj_iload_n (pc := 15) 2 dX4_fill_15 rfl rfl ?_
        refine jj_iload_n (pc := 16) 1 dX4_fill_16 rfl rfl ?_
        refine jj_ast (pc := 17) (r := r) hr dX4_fill_17 (vp_in_nI hi (jlen_lt r)) ?_
        refine jj_iinc_2 (pc := 18) (z := 1) dX4_fill_18 rfl rfl (by decide) ?_
        refine jj_goto (pc := 21) 2 dX4_fill_21 (by decide) ?_
        rw [nI_clamp (Nat.lt_trans hi (jlen_lt r)), jr_2, jr_jr, rfill_s]
        rw [nI_succ] at ih
        exact ih
  refine jj_iconst (pc := 0) (v := 0) dX4_fill_0 rfl ?_
  refine jj_istore_n_2 (pc := 1) dX4_fill_1 rfl rfl (by decide) ?_
  have h0 := K 0 (Nat.zero_le _)
  rw [rfill_0, jr_self] at h0
  exact h0
set_option maxHeartbeats 4000000 in
theorem c_X4_copy (l : Launch) (D : va_G) (cA : ClassId) (ob ro ar : Nat → Nat) (S : jS) {r : Nat} (hr : r < 34) {q : Nat} (hq : q < 34) (hrq : q ≠ r) : jjFn l yX4_copy wsX4_copy 0 D cA [.ref (ro r), .ref (ro q)] (jW cA ob ro ar S) none (jW cA ob ro ar (jcopy S r q)) := by
  refine jjCon_of (own := RX4) (cc := cX4_copy) (nL := 3) (rt := none) (I := jI0) [some (.ref (ro r)), some (.ref (ro q)), none] jm_X4_copy (by decide +kernel) rfl (fun _ _ _ _ _ => trivial) (Nat.le_of_ble_eq_true rfl) rfl ?_
  have K : ∀ i, i ≤ min (jlen r) (jlen q) → jjV l RX4 cX4_copy 3 none jI0 wsX4_copy (jjRm 0 0 0) D cA (jjEnd D (fun r0 w0 => r0 = none ∧ w0 = jW cA ob ro ar (jcopy S r q)) 0 0) 0 0 (jW cA ob ro ar (jr S r (rcopy i (S.2 q) (S.2 r)))) 2 [some (.ref (ro r)), some (.ref (ro q)), some (.int (nI i))] [] := by
    refine jdown _ ?_ (fun i hi ih => ?_)
    · have hx : ¬ nI (jlen r) ≤ nI (min (jlen r) (jlen q)) → ¬ nI (jlen q) ≤ nI (min (jlen r) (jlen q)) → False := fun a b => by
        rcases Nat.le_total (jlen r) (jlen q) with z | z
        · exact a (by rw [Nat.min_eq_left z]; exact nI_le (Nat.le_refl _) (jlen_lt r))
        · exact b (by rw [Nat.min_eq_right z]; exact nI_le (Nat.le_refl _) (jlen_lt q))
      refine jj_iload_n (pc := 2) 2 dX4_copy_2 rfl rfl ?_
      refine jj_aload_n (pc := 3) 0 dX4_copy_3 rfl rfl ?_
      refine jj_g_R (pc := 4) (r := r) hr dX4_copy_4 fd_X4_copy_9 ?_
      refine jj_aln (pc := 7) (r := r) hr dX4_copy_7 ?_
      refine jj_icmp_ge (pc := 8) 38 dX4_copy_8 (by decide) (fun h8 => ?_) (fun h8 => ?_)
      · refine jj_vret (pc := 38) dX4_copy_38 ?_
        exact ⟨rfl, rfl⟩
      · refine jj_iload_n (pc := 11) 2 dX4_copy_11 rfl rfl ?_
        refine jj_aload_n (pc := 12) 1 dX4_copy_12 rfl rfl ?_
        refine jj_g_R (pc := 13) (r := q) hq dX4_copy_13 fd_X4_copy_9 ?_
        refine jj_aln (pc := 16) (r := q) hq dX4_copy_16 ?_
        refine jj_icmp_ge (pc := 17) 38 dX4_copy_17 (by decide) (fun h17 => ?_) (fun h17 => ?_)
        · refine jj_vret (pc := 38) dX4_copy_38 ?_
          exact ⟨rfl, rfl⟩
        · exact (hx h8 h17).elim
    · have h1 : i < jlen r := by omega
      have h2 : i < jlen q := by omega
      refine jj_iload_n (pc := 2) 2 dX4_copy_2 rfl rfl ?_
      refine jj_aload_n (pc := 3) 0 dX4_copy_3 rfl rfl ?_
      refine jj_g_R (pc := 4) (r := r) hr dX4_copy_4 fd_X4_copy_9 ?_
      refine jj_aln (pc := 7) (r := r) hr dX4_copy_7 ?_
      refine jj_icmp_ge (pc := 8) 38 dX4_copy_8 (by decide) (fun h8 => ?_) (fun h8 => ?_)
      · refine jj_vret (pc := 38) dX4_copy_38 ?_
        first
          | exact absurd h8 (nI_ge h1 (jlen_lt r))
          | exact absurd h17 (nI_ge h2 (jlen_lt q))
      · refine jj_iload_n (pc := 11) 2 dX4_copy_11 rfl rfl ?_
        refine jj_aload_n (pc := 12) 1 dX4_copy_12 rfl rfl ?_
        refine jj_g_R (pc := 13) (r := q) hq dX4_copy_13 fd_X4_copy_9 ?_
        refine jj_aln (pc := 16) (r := q) hq dX4_copy_16 ?_
        refine jj_icmp_ge (pc := 17) 38 dX4_copy_17 (by decide) (fun h17 => ?_) (fun h17 => ?_)
        · refine jj_vret (pc := 38) dX4_copy_38 ?_
          first
            | exact absurd h8 (nI_ge h1 (jlen_lt r))
            | exact absurd h17 (nI_ge h2 (jlen_lt q))
        · refine jj_aload_n (pc := 20) 0 dX4_copy_20 rfl rfl ?_
          refine jj_g_R (pc := 21) (r := r) hr dX4_copy_21 fd_X4_copy_9 ?_
          refine jj_iload_n (pc := 24) 2 dX4_copy_24 rfl rfl ?_
          refine jj_aload_n (pc := 25) 1 dX4_copy_25 rfl rfl ?_
          refine jj_g_R (pc := 26) (r := q) hq dX4_copy_26 fd_X4_copy_9 ?_
          refine jj_iload_n (pc := 29) 2 dX4_copy_29 rfl rfl ?_
          refine jj_ald (pc := 30) (r := q) hq dX4_copy_30 (by first | exact vp_in_nI h1 (jlen_lt r) | exact vp_in_nI h2 (jlen_lt q)) ?_
          refine jj_ast (pc := 31) (r := r) hr dX4_copy_31 (by first | exact vp_in_nI h1 (jlen_lt r) | exact vp_in_nI h2 (jlen_lt q)) ?_
          refine jj_iinc_2 (pc := 32) (z := 1) dX4_copy_32 rfl rfl (by decide) ?_
          refine jj_goto (pc := 35) 2 dX4_copy_35 (by decide) ?_
          rw [nI_clamp (Nat.lt_trans h1 (jlen_lt r)), jr_2, jr_n S _ hrq, jr_jr, rcopy_s]
          rw [nI_succ] at ih
          exact ih
  refine jj_iconst (pc := 0) (v := 0) dX4_copy_0 rfl ?_
  refine jj_istore_n_2 (pc := 1) dX4_copy_1 rfl rfl (by decide) ?_
  have h0 := K 0 (Nat.zero_le _)
  rw [rcopy_0, jr_self] at h0
  exact h0
set_option maxHeartbeats 4000000 in
theorem c_X4_count (l : Launch) (D : va_G) (cA : ClassId) (ob ro ar : Nat → Nat) (S : jS) {r : Nat} (hr : r < 34) (v : Int32) : jjFn l yX4_count wsX4_count 0 D cA [.ref (ro r), .int v] (jW cA ob ro ar S) (some (.int (jcnt S r v))) (jW cA ob ro ar S) := by
  refine jjCon_of (own := RX4) (cc := cX4_count) (nL := 4) (rt := (some .int)) (I := jI0) [some (.ref (ro r)), some (.int v), none, none] jm_X4_count (by decide +kernel) rfl (fun _ _ _ _ _ => trivial) (Nat.le_of_ble_eq_true rfl) rfl ?_
  have K : ∀ i, i ≤ jlen r → jjV l RX4 cX4_count 4 (some .int) jI0 wsX4_count (jjRm 0 0 0) D cA (jjEnd D (fun r0 w0 => r0 = some (.int (jcnt S r v)) ∧ w0 = jW cA ob ro ar S) 0 0) 0 0 (jW cA ob ro ar S) 4 [some (.ref (ro r)), some (.int v), some (.int (nI (rcnt (S.2 r) v i))), some (.int (nI i))] [] := by
    refine jdown (jlen r) ?_ (fun i hi ih => ?_)
    · refine jj_iload_n (pc := 4) 3 dX4_count_4 rfl rfl ?_
      refine jj_aload_n (pc := 5) 0 dX4_count_5 rfl rfl ?_
      refine jj_g_R (pc := 6) (r := r) hr dX4_count_6 fd_X4_count_9 ?_
      refine jj_aln (pc := 9) (r := r) hr dX4_count_9 ?_
      refine jj_icmp_ge (pc := 10) 32 dX4_count_10 (by decide) (fun h10 => ?_) (fun h10 => ?_)
      · refine jj_iload_n (pc := 32) 2 dX4_count_32 rfl rfl ?_
        refine jj_iret (pc := 33) dX4_count_33 ?_
        exact ⟨rfl, rfl⟩
      · exact absurd (nI_le (Nat.le_refl _) (jlen_lt r)) h10
    · refine jj_iload_n (pc := 4) 3 dX4_count_4 rfl rfl ?_
      refine jj_aload_n (pc := 5) 0 dX4_count_5 rfl rfl ?_
      refine jj_g_R (pc := 6) (r := r) hr dX4_count_6 fd_X4_count_9 ?_
      refine jj_aln (pc := 9) (r := r) hr dX4_count_9 ?_
      refine jj_icmp_ge (pc := 10) 32 dX4_count_10 (by decide) (fun h10 => ?_) (fun h10 => ?_)
      · exact absurd h10 (nI_ge hi (jlen_lt r))
      · refine jj_aload_n (pc := 13) 0 dX4_count_13 rfl rfl ?_
        refine jj_g_R (pc := 14) (r := r) hr dX4_count_14 fd_X4_count_9 ?_
        refine jj_iload_n (pc := 17) 3 dX4_count_17 rfl rfl ?_
        refine jj_ald (pc := 18) (r := r) hr dX4_count_18 (vp_in_nI hi (jlen_lt r)) ?_
        refine jj_iload_n (pc := 19) 1 dX4_count_19 rfl rfl ?_
        refine jj_icmp_ne (pc := 20) 26 dX4_count_20 (by decide) (fun h20 => ?_) (fun h20 => ?_)
        · refine jj_iinc_3 (pc := 26) (z := 1) dX4_count_26 rfl rfl (by decide) ?_
          refine jj_goto (pc := 29) 4 dX4_count_29 (by decide) ?_
          rw [nI_clamp (Nat.lt_trans hi (jlen_lt r))] at h20
          rw [nI_succ, show rcnt (S.2 r) v (i + 1) = rcnt (S.2 r) v i + _ from rfl] at ih
          first
            | (rw [if_pos h20, nI_succ] at ih; exact ih)
            | (rw [if_neg h20, Nat.add_zero] at ih; exact ih)
        · refine jj_iinc_2 (pc := 23) (z := 1) dX4_count_23 rfl rfl (by decide) ?_
          refine jj_iinc_3 (pc := 26) (z := 1) dX4_count_26 rfl rfl (by decide) ?_
          refine jj_goto (pc := 29) 4 dX4_count_29 (by decide) ?_
          rw [nI_clamp (Nat.lt_trans hi (jlen_lt r))] at h20
          rw [nI_succ, show rcnt (S.2 r) v (i + 1) = rcnt (S.2 r) v i + _ from rfl] at ih
          first
            | (rw [if_pos h20, nI_succ] at ih; exact ih)
            | (rw [if_neg h20, Nat.add_zero] at ih; exact ih)
  refine jj_iconst (pc := 0) (v := 0) dX4_count_0 rfl ?_
  refine jj_istore_n_2 (pc := 1) dX4_count_1 rfl rfl (by decide) ?_
  refine jj_iconst (pc := 2) (v := 0) dX4_count_2 rfl ?_
  refine jj_istore_n_3 (pc := 3) dX4_count_3 rfl rfl (by decide) ?_
  exact K 0 (Nat.zero_le _)
section JRC
variable {l : Launch} {own : String} {cc : ByteArray} {nL : Nat} {rt : Option FieldType} {I : jjI} {ws : List Cond} {R : Room} {D : va_G} {cA : ClassId} {E : jjE} {k n : Nat} {ob ro ar : Nat → Nat} {S : jS} {pc : Nat} {lv : List (Option Value)} {rest : List Value} {ix : Nat}
theorem jj_rget {r : Nat} (hr : r < 34) {i : Int32} (hd : decode cc pc = .ok (.invokevirtual ix, 3)) (hG : GoodIn ws (wsV own ix RX4 yX4_get wsX4_get)) (hR : 0 + 1 ≤ R.frames ∧ 8 + (2 + 11) + 30 * 0 ≤ R.locals) (hrest : (rest.map fun v => v.category).sum ≤ 8) (hf : k ≤ R.cells ∧ n ≤ R.slots) (kk : jjV l own cc nL rt I ws R D cA E k n (jW cA ob ro ar S) (pc + 3) lv (.int (jg S r i) :: rest)) : jjV l own cc nL rt I ws R D cA E k n (jW cA ob ro ar S) pc lv (.int i :: .ref (ro r) :: rest) :=
  jj_callVr rest (c_X4_get l D cA ob ro ar S hr i) hd hG jm_X4_get rfl hR (10 + r) (jW_r hr) rfl rfl rfl hrest hf kk
theorem jj_rset {r : Nat} (hr : r < 34) {i v : Int32} (hd : decode cc pc = .ok (.invokevirtual ix, 3)) (hG : GoodIn ws (wsV own ix RX4 yX4_set wsX4_set)) (hR : 0 + 1 ≤ R.frames ∧ 8 + (3 + 11) + 30 * 0 ≤ R.locals) (hrest : (rest.map fun v => v.category).sum ≤ 8) (hf : k ≤ R.cells ∧ n ≤ R.slots) (kk : jjV l own cc nL rt I ws R D cA E k n (jW cA ob ro ar (jset S r i v)) (pc + 3) lv rest) : jjV l own cc nL rt I ws R D cA E k n (jW cA ob ro ar S) pc lv (.int v :: .int i :: .ref (ro r) :: rest) :=
  jj_callVv rest (c_X4_set l D cA ob ro ar S hr i v) hd hG jm_X4_set rfl hR (10 + r) (jW_r hr) rfl rfl rfl hrest hf kk
theorem jj_rfill {r : Nat} (hr : r < 34) {v : Int32} (hd : decode cc pc = .ok (.invokevirtual ix, 3)) (hG : GoodIn ws (wsV own ix RX4 yX4_fill wsX4_fill)) (hR : 0 + 1 ≤ R.frames ∧ 8 + (3 + 11) + 30 * 0 ≤ R.locals) (hrest : (rest.map fun v => v.category).sum ≤ 8) (hf : k ≤ R.cells ∧ n ≤ R.slots) (kk : jjV l own cc nL rt I ws R D cA E k n (jW cA ob ro ar (jfill S r v)) (pc + 3) lv rest) : jjV l own cc nL rt I ws R D cA E k n (jW cA ob ro ar S) pc lv (.int v :: .ref (ro r) :: rest) :=
  jj_callVv rest (c_X4_fill l D cA ob ro ar S hr v) hd hG jm_X4_fill rfl hR (10 + r) (jW_r hr) rfl rfl rfl hrest hf kk
theorem jj_rcopy {r : Nat} (hr : r < 34) {q : Nat} (hq : q < 34) (hrq : q ≠ r) (hd : decode cc pc = .ok (.invokevirtual ix, 3)) (hG : GoodIn ws (wsV own ix RX4 yX4_copy wsX4_copy)) (hR : 0 + 1 ≤ R.frames ∧ 8 + (3 + 11) + 30 * 0 ≤ R.locals) (hrest : (rest.map fun v => v.category).sum ≤ 8) (hf : k ≤ R.cells ∧ n ≤ R.slots) (kk : jjV l own cc nL rt I ws R D cA E k n (jW cA ob ro ar (jcopy S r q)) (pc + 3) lv rest) : jjV l own cc nL rt I ws R D cA E k n (jW cA ob ro ar S) pc lv (.ref (ro q) :: .ref (ro r) :: rest) :=
  jj_callVv rest (c_X4_copy l D cA ob ro ar S hr hq hrq) hd hG jm_X4_copy rfl hR (10 + r) (jW_r hr) rfl rfl rfl hrest hf kk
theorem jj_rcnt {r : Nat} (hr : r < 34) {v : Int32} (hd : decode cc pc = .ok (.invokevirtual ix, 3)) (hG : GoodIn ws (wsV own ix RX4 yX4_count wsX4_count)) (hR : 0 + 1 ≤ R.frames ∧ 8 + (4 + 11) + 30 * 0 ≤ R.locals) (hrest : (rest.map fun v => v.category).sum ≤ 8) (hf : k ≤ R.cells ∧ n ≤ R.slots) (kk : jjV l own cc nL rt I ws R D cA E k n (jW cA ob ro ar S) (pc + 3) lv (.int (jcnt S r v) :: rest)) : jjV l own cc nL rt I ws R D cA E k n (jW cA ob ro ar S) pc lv (.int v :: .ref (ro r) :: rest) :=
  jj_callVr rest (c_X4_count l D cA ob ro ar S hr v) hd hG jm_X4_count rfl hR (10 + r) (jW_r hr) rfl rfl rfl hrest hf kk
end JRC
set_option maxHeartbeats 4000000 in
theorem c_X4_add (l : Launch) (D : va_G) (cA : ClassId) (ob ro ar : Nat → Nat) (S : jS) {r : Nat} (hr : r < 34) (i v : Int32) : jjFn l yX4_add wsX4_add 1 D cA [.ref (ro r), .int i, .int v] (jW cA ob ro ar S) none (jW cA ob ro ar (jadd S r i v)) := by
  refine jjCon_of (own := RX4) (cc := cX4_add) (nL := 3) (rt := none) (I := jI0) [some (.ref (ro r)), some (.int i), some (.int v)] jm_X4_add (by decide +kernel) rfl (fun _ _ _ _ _ => trivial) (Nat.le_of_ble_eq_true rfl) rfl ?_
  refine jj_aload_n (pc := 0) 0 dX4_add_0 rfl rfl ?_
  refine jj_iload_n (pc := 1) 1 dX4_add_1 rfl rfl ?_
  refine jj_aload_n (pc := 2) 0 dX4_add_2 rfl rfl ?_
  refine jj_iload_n (pc := 3) 1 dX4_add_3 rfl rfl ?_
  refine jj_rget (pc := 4) (r := r) hr dX4_add_4 gX4_add_X4_get (by decide) (Nat.le_of_ble_eq_true rfl) jz ?_
  refine jj_iload_n (pc := 7) 2 dX4_add_7 rfl rfl ?_
  refine jj_iadd (pc := 8) dX4_add_8 ?_
  refine jj_rset (pc := 9) (r := r) hr dX4_add_9 gX4_add_X4_set (by decide) (Nat.le_of_ble_eq_true rfl) jz ?_
  refine jj_vret (pc := 12) dX4_add_12 ?_
  exact ⟨rfl, rfl⟩
section JRC2
variable {l : Launch} {own : String} {cc : ByteArray} {nL : Nat} {rt : Option FieldType} {I : jjI} {ws : List Cond} {R : Room} {D : va_G} {cA : ClassId} {E : jjE} {k n : Nat} {ob ro ar : Nat → Nat} {S : jS} {pc : Nat} {lv : List (Option Value)} {rest : List Value} {ix : Nat}
theorem jj_radd {r : Nat} (hr : r < 34) {i v : Int32} (hd : decode cc pc = .ok (.invokevirtual ix, 3)) (hG : GoodIn ws (wsV own ix RX4 yX4_add wsX4_add)) (hR : 1 + 1 ≤ R.frames ∧ 8 + (3 + 11) + 30 * 1 ≤ R.locals) (hrest : (rest.map fun v => v.category).sum ≤ 8) (hf : k ≤ R.cells ∧ n ≤ R.slots) (kk : jjV l own cc nL rt I ws R D cA E k n (jW cA ob ro ar (jadd S r i v)) (pc + 3) lv rest) : jjV l own cc nL rt I ws R D cA E k n (jW cA ob ro ar S) pc lv (.int v :: .int i :: .ref (ro r) :: rest) :=
  jj_callVv rest (c_X4_add l D cA ob ro ar S hr i v) hd hG jm_X4_add rfl hR (10 + r) (jW_r hr) rfl rfl rfl hrest hf kk
end JRC2
