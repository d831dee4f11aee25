set_option maxHeartbeats 4000000 in
theorem c_X7_mix (l : Launch) (D : va_G) (cA : ClassId) (ob ro ar : Nat → Nat) (S : jS) (d v : Int64) : jjFn l yX7_mix wsX7_mix 0 D cA [.long d, .long v] (jW cA ob ro ar S) (some (.long (mix d v))) (jW cA ob ro ar S) := by
  refine jjCon_of (own := RX7) (cc := cX7_mix) (nL := 4) (rt := (some .long)) (I := jI0) [some (.long d), none, some (.long v), none] jm_X7_mix (by decide +kernel) rfl (fun _ _ _ _ _ => trivial) (Nat.le_of_ble_eq_true rfl) rfl ?_
  refine jj_lload_n (pc := 0) 0 dX7_mix_0 rfl rfl ?_
  refine jj_ldc2 (pc := 1) (v := 31) dX7_mix_1 (by decide +kernel) ?_
  refine jj_lmul (pc := 4) dX7_mix_4 ?_
  refine jj_lload_n (pc := 5) 2 dX7_mix_5 rfl rfl ?_
  refine jj_ladd (pc := 6) dX7_mix_6 ?_
  refine jj_lret (pc := 7) dX7_mix_7 ?_
  exact ⟨rfl, rfl⟩
set_option maxHeartbeats 4000000 in
theorem c_X7_mixSymbols (l : Launch) (D : va_G) (cA : ClassId) (ob ro ar : Nat → Nat) (S : jS) (d : Int64) : jjFn l yX7_mixSymbols wsX7_mixSymbols 4 D cA [.ref (ob 0), .long d] (jW cA ob ro ar S) (some (.long (dSy S d 16))) (jW cA ob ro ar S) := by
  refine jjCon_of (own := RX7) (cc := cX7_mixSymbols) (nL := 7) (rt := (some .long)) (I := jI0) [some (.ref (ob 0)), some (.long d), none, none, none, none, none] jm_X7_mixSymbols (by decide +kernel) rfl (fun _ _ _ _ _ => trivial) (Nat.le_of_ble_eq_true rfl) rfl ?_
  have K : ∀ i, i ≤ 16 → jjV l RX7 cX7_mixSymbols 7 (some .long) jI0 wsX7_mixSymbols (jjRm 4 0 0) D cA (jjEnd D (fun r0 w0 => r0 = some (.long (dSy S d 16)) ∧ w0 = jW cA ob ro ar S) 0 0) 0 0 (jW cA ob ro ar S) 5 [some (.ref (ob 0)), some (.long d), none, some (.long (dSy S d i)), none, some (.int (nI i)), none] [] := by
    refine jdown (16) ?_ (fun i hi ih => ?_)
    · refine jj_iload (pc := 5) dX7_mixSymbols_5 rfl ?_
      refine jj_bipush (pc := 7) (v := 16) dX7_mixSymbols_7 rfl ?_
      refine jj_icmp_ge (pc := 9) 47 dX7_mixSymbols_9 (by decide) (fun h9 => ?_) (fun h9 => ?_)
      · refine jj_lload_n (pc := 47) 3 dX7_mixSymbols_47 rfl rfl ?_
        refine jj_lret (pc := 48) dX7_mixSymbols_48 ?_
        exact ⟨rfl, rfl⟩
      · exact absurd (jb_ge (by decide)) h9
    · have K2 : ∀ k, k ≤ 4 → jjV l RX7 cX7_mixSymbols 7 (some .long) jI0 wsX7_mixSymbols (jjRm 4 0 0) D cA (jjEnd D (fun r0 w0 => r0 = some (.long (dSy S d 16)) ∧ w0 = jW cA ob ro ar S) 0 0) 0 0 (jW cA ob ro ar S) 15 [some (.ref (ob 0)), some (.long d), none, some (.long (dSy1 S (nI i) (dSy S d i) k)), none, some (.int (nI i)), some (.int (nI k))] [] := by
        refine jdown 4 ?_ (fun k hk ih2 => ?_)
        · refine jj_iload (pc := 15) dX7_mixSymbols_15 rfl ?_
          refine jj_iconst (pc := 17) (v := 4) dX7_mixSymbols_17 rfl ?_
          refine jj_icmp_ge (pc := 18) 41 dX7_mixSymbols_18 (by decide) (fun h18 => ?_) (fun h18 => ?_)
          · refine jj_iinc_5 (pc := 41) (z := 1) dX7_mixSymbols_41 rfl rfl (by decide) ?_
            refine jj_goto (pc := 44) 5 dX7_mixSymbols_44 (by decide) ?_
            rw [nI_succ] at ih
            refine jj_sub ?_ ih
            exact jjLe_some (jjLe_some (jjLe_none (jjLe_some (jjLe_none (jjLe_some (jjLe_none jjLe_nil))))))
          · exact absurd (jb_ge (by decide)) h18
        · refine jj_iload (pc := 15) dX7_mixSymbols_15 rfl ?_
          refine jj_iconst (pc := 17) (v := 4) dX7_mixSymbols_17 rfl ?_
          refine jj_icmp_ge (pc := 18) 41 dX7_mixSymbols_18 (by decide) (fun h18 => ?_) (fun h18 => ?_)
          · exact absurd h18 (jb_lt (by decide) hk)
          · refine jj_lload_n (pc := 21) 3 dX7_mixSymbols_21 rfl rfl ?_
            refine jj_aload_n (pc := 22) 0 dX7_mixSymbols_22 rfl rfl ?_
            refine jj_iload (pc := 23) dX7_mixSymbols_23 rfl ?_
            refine jj_iload (pc := 25) dX7_mixSymbols_25 rfl ?_
            refine jj_callVr (pc := 27) _ (c_X7_tellSymbol l D cA ob ro ar _ _ _) dX7_mixSymbols_27 gX7_mixSymbols_X7_tellSymbol jm_X7_tellSymbol rfl (by decide) 0 jq_0 rfl rfl rfl (Nat.le_of_ble_eq_true rfl) jz ?_
            refine jj_i2l (pc := 30) dX7_mixSymbols_30 ?_
            refine jj_callSr (pc := 31) _ (c_X7_mix l D cA ob ro ar _ _ _) dX7_mixSymbols_31 gX7_mixSymbols_X7_mix jm_X7_mix (by decide) rfl rfl (Nat.le_of_ble_eq_true rfl) jz ?_
            refine jj_lstore_n_3 (pc := 34) dX7_mixSymbols_34 rfl rfl (by decide) ?_
            refine jj_iinc_6 (pc := 35) (z := 1) dX7_mixSymbols_35 rfl rfl (by decide) ?_
            refine jj_goto (pc := 38) 15 dX7_mixSymbols_38 (by decide) ?_
            rw [nI_succ] at ih2
            exact ih2
      refine jj_iload (pc := 5) dX7_mixSymbols_5 rfl ?_
      refine jj_bipush (pc := 7) (v := 16) dX7_mixSymbols_7 rfl ?_
      refine jj_icmp_ge (pc := 9) 47 dX7_mixSymbols_9 (by decide) (fun h9 => ?_) (fun h9 => ?_)
      · exact absurd h9 (jb_lt (by decide) hi)
      · refine jj_iconst (pc := 12) (v := 0) dX7_mixSymbols_12 rfl ?_
        refine jj_istore_6 (pc := 13) dX7_mixSymbols_13 rfl (by decide) ?_
        exact K2 0 (Nat.zero_le _)
  refine jj_lload_n (pc := 0) 1 dX7_mixSymbols_0 rfl rfl ?_
  refine jj_lstore_n_3 (pc := 1) dX7_mixSymbols_1 rfl rfl (by decide) ?_
  refine jj_iconst (pc := 2) (v := 0) dX7_mixSymbols_2 rfl ?_
  refine jj_istore_5 (pc := 3) dX7_mixSymbols_3 rfl (by decide) ?_
  exact K 0 (Nat.zero_le _)
set_option maxHeartbeats 4000000 in
theorem c_X7_mixPatches (l : Launch) (D : va_G) (cA : ClassId) (ob ro ar : Nat → Nat) (S : jS) (d : Int64) : jjFn l yX7_mixPatches wsX7_mixPatches 4 D cA [.ref (ob 0), .long d] (jW cA ob ro ar S) (some (.long (dPt S d (mNP S)))) (jW cA ob ro ar S) := by
  refine jjCon_of (own := RX7) (cc := cX7_mixPatches) (nL := 7) (rt := (some .long)) (I := jI0) [some (.ref (ob 0)), some (.long d), none, none, none, none, none] jm_X7_mixPatches (by decide +kernel) rfl (fun _ _ _ _ _ => trivial) (Nat.le_of_ble_eq_true rfl) rfl ?_
  have K : ∀ i, i ≤ mNP S → jjV l RX7 cX7_mixPatches 7 (some .long) jI0 wsX7_mixPatches (jjRm 4 0 0) D cA (jjEnd D (fun r0 w0 => r0 = some (.long (dPt S d (mNP S))) ∧ w0 = jW cA ob ro ar S) 0 0) 0 0 (jW cA ob ro ar S) 5 [some (.ref (ob 0)), some (.long d), none, some (.long (dPt S d i)), none, some (.int (nI i)), none] [] := by
    refine jdown (mNP S) ?_ (fun i hi ih => ?_)
    · refine jj_iload (pc := 5) dX7_mixPatches_5 rfl ?_
      refine jj_aload_n (pc := 7) 0 dX7_mixPatches_7 rfl rfl ?_
      refine jj_g_0_5 (pc := 8) dX7_mixPatches_8 fd_X7_mixPatches_43 ?_
      refine jj_g_6_3 (pc := 11) dX7_mixPatches_11 fd_X7_mixPatches_246 ?_
      refine jj_icmp_ge (pc := 14) 52 dX7_mixPatches_14 (by decide) (fun h14 => ?_) (fun h14 => ?_)
      · refine jj_lload_n (pc := 52) 3 dX7_mixPatches_52 rfl rfl ?_
        refine jj_lret (pc := 53) dX7_mixPatches_53 ?_
        exact ⟨rfl, rfl⟩
      · exact absurd (jb_ge rfl) h14
    · have K2 : ∀ k, k ≤ 4 → jjV l RX7 cX7_mixPatches 7 (some .long) jI0 wsX7_mixPatches (jjRm 4 0 0) D cA (jjEnd D (fun r0 w0 => r0 = some (.long (dPt S d (mNP S))) ∧ w0 = jW cA ob ro ar S) 0 0) 0 0 (jW cA ob ro ar S) 20 [some (.ref (ob 0)), some (.long d), none, some (.long (dPt1 S (nI i) (dPt S d i) k)), none, some (.int (nI i)), some (.int (nI k))] [] := by
        refine jdown 4 ?_ (fun k hk ih2 => ?_)
        · refine jj_iload (pc := 20) dX7_mixPatches_20 rfl ?_
          refine jj_iconst (pc := 22) (v := 4) dX7_mixPatches_22 rfl ?_
          refine jj_icmp_ge (pc := 23) 46 dX7_mixPatches_23 (by decide) (fun h23 => ?_) (fun h23 => ?_)
          · refine jj_iinc_5 (pc := 46) (z := 1) dX7_mixPatches_46 rfl rfl (by decide) ?_
            refine jj_goto (pc := 49) 5 dX7_mixPatches_49 (by decide) ?_
            rw [nI_succ] at ih
            refine jj_sub ?_ ih
            exact jjLe_some (jjLe_some (jjLe_none (jjLe_some (jjLe_none (jjLe_some (jjLe_none jjLe_nil))))))
          · exact absurd (jb_ge (by decide)) h23
        · refine jj_iload (pc := 20) dX7_mixPatches_20 rfl ?_
          refine jj_iconst (pc := 22) (v := 4) dX7_mixPatches_22 rfl ?_
          refine jj_icmp_ge (pc := 23) 46 dX7_mixPatches_23 (by decide) (fun h23 => ?_) (fun h23 => ?_)
          · exact absurd h23 (jb_lt (by decide) hk)
          · refine jj_lload_n (pc := 26) 3 dX7_mixPatches_26 rfl rfl ?_
            refine jj_aload_n (pc := 27) 0 dX7_mixPatches_27 rfl rfl ?_
            refine jj_iload (pc := 28) dX7_mixPatches_28 rfl ?_
            refine jj_iload (pc := 30) dX7_mixPatches_30 rfl ?_
            refine jj_callVr (pc := 32) _ (c_X7_tellPatch l D cA ob ro ar _ _ _) dX7_mixPatches_32 gX7_mixPatches_X7_tellPatch jm_X7_tellPatch rfl (by decide) 0 jq_0 rfl rfl rfl (Nat.le_of_ble_eq_true rfl) jz ?_
            refine jj_i2l (pc := 35) dX7_mixPatches_35 ?_
            refine jj_callSr (pc := 36) _ (c_X7_mix l D cA ob ro ar _ _ _) dX7_mixPatches_36 gX7_mixPatches_X7_mix jm_X7_mix (by decide) rfl rfl (Nat.le_of_ble_eq_true rfl) jz ?_
            refine jj_lstore_n_3 (pc := 39) dX7_mixPatches_39 rfl rfl (by decide) ?_
            refine jj_iinc_6 (pc := 40) (z := 1) dX7_mixPatches_40 rfl rfl (by decide) ?_
            refine jj_goto (pc := 43) 20 dX7_mixPatches_43 (by decide) ?_
            rw [nI_succ] at ih2
            exact ih2
      refine jj_iload (pc := 5) dX7_mixPatches_5 rfl ?_
      refine jj_aload_n (pc := 7) 0 dX7_mixPatches_7 rfl rfl ?_
      refine jj_g_0_5 (pc := 8) dX7_mixPatches_8 fd_X7_mixPatches_43 ?_
      refine jj_g_6_3 (pc := 11) dX7_mixPatches_11 fd_X7_mixPatches_246 ?_
      refine jj_icmp_ge (pc := 14) 52 dX7_mixPatches_14 (by decide) (fun h14 => ?_) (fun h14 => ?_)
      · exact absurd h14 (jb_lt rfl hi)
      · refine jj_iconst (pc := 17) (v := 0) dX7_mixPatches_17 rfl ?_
        refine jj_istore_6 (pc := 18) dX7_mixPatches_18 rfl (by decide) ?_
        exact K2 0 (Nat.zero_le _)
  refine jj_lload_n (pc := 0) 1 dX7_mixPatches_0 rfl rfl ?_
  refine jj_lstore_n_3 (pc := 1) dX7_mixPatches_1 rfl rfl (by decide) ?_
  refine jj_iconst (pc := 2) (v := 0) dX7_mixPatches_2 rfl ?_
  refine jj_istore_5 (pc := 3) dX7_mixPatches_3 rfl (by decide) ?_
  exact K 0 (Nat.zero_le _)
set_option maxHeartbeats 4000000 in
theorem c_X7_mixWords (l : Launch) (D : va_G) (cA : ClassId) (ob ro ar : Nat → Nat) (S : jS) (d : Int64) : jjFn l yX7_mixWords wsX7_mixWords 4 D cA [.ref (ob 0), .long d] (jW cA ob ro ar S) (some (.long (dWd S d 200))) (jW cA ob ro ar S) := by
  refine jjCon_of (own := RX7) (cc := cX7_mixWords) (nL := 6) (rt := (some .long)) (I := jI0) [some (.ref (ob 0)), some (.long d), none, none, none, none] jm_X7_mixWords (by decide +kernel) rfl (fun _ _ _ _ _ => trivial) (Nat.le_of_ble_eq_true rfl) rfl ?_
  have K : ∀ i, i ≤ 200 → jjV l RX7 cX7_mixWords 6 (some .long) jI0 wsX7_mixWords (jjRm 4 0 0) D cA (jjEnd D (fun r0 w0 => r0 = some (.long (dWd S d 200)) ∧ w0 = jW cA ob ro ar S) 0 0) 0 0 (jW cA ob ro ar S) 5 [some (.ref (ob 0)), some (.long d), none, some (.long (dWd S d i)), none, some (.int (nI i))] [] := by
    refine jdown (200) ?_ (fun i hi ih => ?_)
    · refine jj_iload (pc := 5) dX7_mixWords_5 rfl ?_
      refine jj_sipush (pc := 7) (v := 200) dX7_mixWords_7 rfl ?_
      refine jj_icmp_ge (pc := 10) 45 dX7_mixWords_10 (by decide) (fun h10 => ?_) (fun h10 => ?_)
      · refine jj_lload_n (pc := 45) 3 dX7_mixWords_45 rfl rfl ?_
        refine jj_lret (pc := 46) dX7_mixWords_46 ?_
        exact ⟨rfl, rfl⟩
      · exact absurd (jb_ge (by decide)) h10
    · refine jj_iload (pc := 5) dX7_mixWords_5 rfl ?_
      refine jj_sipush (pc := 7) (v := 200) dX7_mixWords_7 rfl ?_
      refine jj_icmp_ge (pc := 10) 45 dX7_mixWords_10 (by decide) (fun h10 => ?_) (fun h10 => ?_)
      · exact absurd h10 (jb_lt (by decide) hi)
      · refine jj_lload_n (pc := 13) 3 dX7_mixWords_13 rfl rfl ?_
        refine jj_aload_n (pc := 14) 0 dX7_mixWords_14 rfl rfl ?_
        refine jj_iload (pc := 15) dX7_mixWords_15 rfl ?_
        refine jj_iconst (pc := 17) (v := 0) dX7_mixWords_17 rfl ?_
        refine jj_callVr (pc := 18) _ (c_X7_tellWord l D cA ob ro ar _ _ _) dX7_mixWords_18 gX7_mixWords_X7_tellWord jm_X7_tellWord rfl (by decide) 0 jq_0 rfl rfl rfl (Nat.le_of_ble_eq_true rfl) jz ?_
        refine jj_i2l (pc := 21) dX7_mixWords_21 ?_
        refine jj_callSr (pc := 22) _ (c_X7_mix l D cA ob ro ar _ _ _) dX7_mixWords_22 gX7_mixWords_X7_mix jm_X7_mix (by decide) rfl rfl (Nat.le_of_ble_eq_true rfl) jz ?_
        refine jj_lstore_n_3 (pc := 25) dX7_mixWords_25 rfl rfl (by decide) ?_
        refine jj_lload_n (pc := 26) 3 dX7_mixWords_26 rfl rfl ?_
        refine jj_aload_n (pc := 27) 0 dX7_mixWords_27 rfl rfl ?_
        refine jj_iload (pc := 28) dX7_mixWords_28 rfl ?_
        refine jj_iconst (pc := 30) (v := 1) dX7_mixWords_30 rfl ?_
        refine jj_callVr (pc := 31) _ (c_X7_tellWord l D cA ob ro ar _ _ _) dX7_mixWords_31 gX7_mixWords_X7_tellWord jm_X7_tellWord rfl (by decide) 0 jq_0 rfl rfl rfl (Nat.le_of_ble_eq_true rfl) jz ?_
        refine jj_i2l (pc := 34) dX7_mixWords_34 ?_
        refine jj_callSr (pc := 35) _ (c_X7_mix l D cA ob ro ar _ _ _) dX7_mixWords_35 gX7_mixWords_X7_mix jm_X7_mix (by decide) rfl rfl (Nat.le_of_ble_eq_true rfl) jz ?_
        refine jj_lstore_n_3 (pc := 38) dX7_mixWords_38 rfl rfl (by decide) ?_
        refine jj_iinc_5 (pc := 39) (z := 1) dX7_mixWords_39 rfl rfl (by decide) ?_
        refine jj_goto (pc := 42) 5 dX7_mixWords_42 (by decide) ?_
        rw [nI_succ] at ih
        exact ih
  refine jj_lload_n (pc := 0) 1 dX7_mixWords_0 rfl rfl ?_
  refine jj_lstore_n_3 (pc := 1) dX7_mixWords_1 rfl rfl (by decide) ?_
  refine jj_iconst (pc := 2) (v := 0) dX7_mixWords_2 rfl ?_
  refine jj_istore_5 (pc := 3) dX7_mixWords_3 rfl (by decide) ?_
  exact K 0 (Nat.zero_le _)
set_option maxHeartbeats 4000000 in
theorem c_X7_mixFaults (l : Launch) (D : va_G) (cA : ClassId) (ob ro ar : Nat → Nat) (S : jS) (d : Int64) : jjFn l yX7_mixFaults wsX7_mixFaults 4 D cA [.ref (ob 0), .long d] (jW cA ob ro ar S) (some (.long (dFa S d (S.1 3).toNatClampNeg))) (jW cA ob ro ar S) := by
  refine jjCon_of (own := RX7) (cc := cX7_mixFaults) (nL := 6) (rt := (some .long)) (I := jI0) [some (.ref (ob 0)), some (.long d), none, none, none, none] jm_X7_mixFaults (by decide +kernel) rfl (fun _ _ _ _ _ => trivial) (Nat.le_of_ble_eq_true rfl) rfl ?_
  have K : ∀ i, i ≤ (S.1 3).toNatClampNeg → jjV l RX7 cX7_mixFaults 6 (some .long) jI0 wsX7_mixFaults (jjRm 4 0 0) D cA (jjEnd D (fun r0 w0 => r0 = some (.long (dFa S d (S.1 3).toNatClampNeg)) ∧ w0 = jW cA ob ro ar S) 0 0) 0 0 (jW cA ob ro ar S) 5 [some (.ref (ob 0)), some (.long d), none, some (.long (dFa S d i)), none, some (.int (nI i))] [] := by
    refine jdown ((S.1 3).toNatClampNeg) ?_ (fun i hi ih => ?_)
    · refine jj_iload (pc := 5) dX7_mixFaults_5 rfl ?_
      refine jj_aload_n (pc := 7) 0 dX7_mixFaults_7 rfl rfl ?_
      refine jj_g_0_1 (pc := 8) dX7_mixFaults_8 fd_X7_mixFaults_19 ?_
      refine jj_g_2_3 (pc := 11) dX7_mixFaults_11 fd_X7_mixFaults_146 ?_
      refine jj_icmp_ge (pc := 14) 49 dX7_mixFaults_14 (by decide) (fun h14 => ?_) (fun h14 => ?_)
      · refine jj_lload_n (pc := 49) 3 dX7_mixFaults_49 rfl rfl ?_
        refine jj_lret (pc := 50) dX7_mixFaults_50 ?_
        exact ⟨rfl, rfl⟩
      · exact absurd (jb_ge rfl) h14
    · refine jj_iload (pc := 5) dX7_mixFaults_5 rfl ?_
      refine jj_aload_n (pc := 7) 0 dX7_mixFaults_7 rfl rfl ?_
      refine jj_g_0_1 (pc := 8) dX7_mixFaults_8 fd_X7_mixFaults_19 ?_
      refine jj_g_2_3 (pc := 11) dX7_mixFaults_11 fd_X7_mixFaults_146 ?_
      refine jj_icmp_ge (pc := 14) 49 dX7_mixFaults_14 (by decide) (fun h14 => ?_) (fun h14 => ?_)
      · exact absurd h14 (jb_lt rfl hi)
      · refine jj_lload_n (pc := 17) 3 dX7_mixFaults_17 rfl rfl ?_
        refine jj_aload_n (pc := 18) 0 dX7_mixFaults_18 rfl rfl ?_
        refine jj_iload (pc := 19) dX7_mixFaults_19 rfl ?_
        refine jj_iconst (pc := 21) (v := 0) dX7_mixFaults_21 rfl ?_
        refine jj_callVr (pc := 22) _ (c_X7_tellFault l D cA ob ro ar _ _ _) dX7_mixFaults_22 gX7_mixFaults_X7_tellFault jm_X7_tellFault rfl (by decide) 0 jq_0 rfl rfl rfl (Nat.le_of_ble_eq_true rfl) jz ?_
        refine jj_i2l (pc := 25) dX7_mixFaults_25 ?_
        refine jj_callSr (pc := 26) _ (c_X7_mix l D cA ob ro ar _ _ _) dX7_mixFaults_26 gX7_mixFaults_X7_mix jm_X7_mix (by decide) rfl rfl (Nat.le_of_ble_eq_true rfl) jz ?_
        refine jj_lstore_n_3 (pc := 29) dX7_mixFaults_29 rfl rfl (by decide) ?_
        refine jj_lload_n (pc := 30) 3 dX7_mixFaults_30 rfl rfl ?_
        refine jj_aload_n (pc := 31) 0 dX7_mixFaults_31 rfl rfl ?_
        refine jj_iload (pc := 32) dX7_mixFaults_32 rfl ?_
        refine jj_iconst (pc := 34) (v := 1) dX7_mixFaults_34 rfl ?_
        refine jj_callVr (pc := 35) _ (c_X7_tellFault l D cA ob ro ar _ _ _) dX7_mixFaults_35 gX7_mixFaults_X7_tellFault jm_X7_tellFault rfl (by decide) 0 jq_0 rfl rfl rfl (Nat.le_of_ble_eq_true rfl) jz ?_
        refine jj_i2l (pc := 38) dX7_mixFaults_38 ?_
        refine jj_callSr (pc := 39) _ (c_X7_mix l D cA ob ro ar _ _ _) dX7_mixFaults_39 gX7_mixFaults_X7_mix jm_X7_mix (by decide) rfl rfl (Nat.le_of_ble_eq_true rfl) jz ?_
        refine jj_lstore_n_3 (pc := 42) dX7_mixFaults_42 rfl rfl (by decide) ?_
        refine jj_iinc_5 (pc := 43) (z := 1) dX7_mixFaults_43 rfl rfl (by decide) ?_
        refine jj_goto (pc := 46) 5 dX7_mixFaults_46 (by decide) ?_
        rw [nI_succ] at ih
        exact ih
  refine jj_lload_n (pc := 0) 1 dX7_mixFaults_0 rfl rfl ?_
  refine jj_lstore_n_3 (pc := 1) dX7_mixFaults_1 rfl rfl (by decide) ?_
  refine jj_iconst (pc := 2) (v := 0) dX7_mixFaults_2 rfl ?_
  refine jj_istore_5 (pc := 3) dX7_mixFaults_3 rfl (by decide) ?_
  exact K 0 (Nat.zero_le _)
set_option maxHeartbeats 4000000 in
theorem c_X7_mixRuns (l : Launch) (D : va_G) (cA : ClassId) (ob ro ar : Nat → Nat) (S : jS) (d : Int64) : jjFn l yX7_mixRuns wsX7_mixRuns 4 D cA [.ref (ob 0), .long d] (jW cA ob ro ar S) (some (.long (dRn S d 4))) (jW cA ob ro ar S) := by
  refine jjCon_of (own := RX7) (cc := cX7_mixRuns) (nL := 7) (rt := (some .long)) (I := jI0) [some (.ref (ob 0)), some (.long d), none, none, none, none, none] jm_X7_mixRuns (by decide +kernel) rfl (fun _ _ _ _ _ => trivial) (Nat.le_of_ble_eq_true rfl) rfl ?_
  have K : ∀ i, i ≤ 4 → jjV l RX7 cX7_mixRuns 7 (some .long) jI0 wsX7_mixRuns (jjRm 4 0 0) D cA (jjEnd D (fun r0 w0 => r0 = some (.long (dRn S d 4)) ∧ w0 = jW cA ob ro ar S) 0 0) 0 0 (jW cA ob ro ar S) 5 [some (.ref (ob 0)), some (.long d), none, some (.long (dRn S d i)), none, some (.int (nI i)), none] [] := by
    refine jdown (4) ?_ (fun i hi ih => ?_)
    · refine jj_iload (pc := 5) dX7_mixRuns_5 rfl ?_
      refine jj_iconst (pc := 7) (v := 4) dX7_mixRuns_7 rfl ?_
      refine jj_icmp_ge (pc := 8) 80 dX7_mixRuns_8 (by decide) (fun h8 => ?_) (fun h8 => ?_)
      · refine jj_lload_n (pc := 80) 3 dX7_mixRuns_80 rfl rfl ?_
        refine jj_lret (pc := 81) dX7_mixRuns_81 ?_
        exact ⟨rfl, rfl⟩
      · exact absurd (jb_ge (by decide)) h8
    · have K2 : ∀ k, k ≤ (mH S (nI i)).toNatClampNeg → jjV l RX7 cX7_mixRuns 7 (some .long) jI0 wsX7_mixRuns (jjRm 4 0 0) D cA (jjEnd D (fun r0 w0 => r0 = some (.long (dRn S d 4)) ∧ w0 = jW cA ob ro ar S) 0 0) 0 0 (jW cA ob ro ar S) 34 [some (.ref (ob 0)), some (.long d), none, some (.long (dRn1 S (nI i) (dRn0 S (nI i) (dRn S d i)) k)), none, some (.int (nI i)), some (.int (nI k))] [] := by
        refine jdown _ ?_ (fun k hk ih2 => ?_)
        · refine jj_iload (pc := 34) dX7_mixRuns_34 rfl ?_
          refine jj_aload_n (pc := 36) 0 dX7_mixRuns_36 rfl rfl ?_
          refine jj_g_0_4 (pc := 37) dX7_mixRuns_37 fd_X7_mixRuns_36 ?_
          refine jj_g_5_0 (pc := 40) dX7_mixRuns_40 fd_X7_mixRuns_222 ?_
          refine jj_iload (pc := 43) dX7_mixRuns_43 rfl ?_
          refine jj_rget (pc := 45) (r := 29) (by decide) dX7_mixRuns_45 gX7_mixRuns_X4_get (by decide) (Nat.le_of_ble_eq_true rfl) jz ?_
          refine jj_icmp_ge (pc := 48) 74 dX7_mixRuns_48 (by decide) (fun h48 => ?_) (fun h48 => ?_)
          · refine jj_iinc_5 (pc := 74) (z := 1) dX7_mixRuns_74 rfl rfl (by decide) ?_
            refine jj_goto (pc := 77) 5 dX7_mixRuns_77 (by decide) ?_
            rw [nI_succ] at ih
            refine jj_sub ?_ ih
            exact jjLe_some (jjLe_some (jjLe_none (jjLe_some (jjLe_none (jjLe_some (jjLe_none jjLe_nil))))))
          · exact absurd (jb_ge rfl) h48
        · refine jj_iload (pc := 34) dX7_mixRuns_34 rfl ?_
          refine jj_aload_n (pc := 36) 0 dX7_mixRuns_36 rfl rfl ?_
          refine jj_g_0_4 (pc := 37) dX7_mixRuns_37 fd_X7_mixRuns_36 ?_
          refine jj_g_5_0 (pc := 40) dX7_mixRuns_40 fd_X7_mixRuns_222 ?_
          refine jj_iload (pc := 43) dX7_mixRuns_43 rfl ?_
          refine jj_rget (pc := 45) (r := 29) (by decide) dX7_mixRuns_45 gX7_mixRuns_X4_get (by decide) (Nat.le_of_ble_eq_true rfl) jz ?_
          refine jj_icmp_ge (pc := 48) 74 dX7_mixRuns_48 (by decide) (fun h48 => ?_) (fun h48 => ?_)
          · exact absurd h48 (jb_lt rfl hk)
          · refine jj_lload_n (pc := 51) 3 dX7_mixRuns_51 rfl rfl ?_
            refine jj_aload_n (pc := 52) 0 dX7_mixRuns_52 rfl rfl ?_
            refine jj_g_0_4 (pc := 53) dX7_mixRuns_53 fd_X7_mixRuns_36 ?_
            refine jj_iload (pc := 56) dX7_mixRuns_56 rfl ?_
            refine jj_iload (pc := 58) dX7_mixRuns_58 rfl ?_
            refine jj_callVr (pc := 60) _ (c_X5_entry l D cA ob ro ar _ _ _) dX7_mixRuns_60 gX7_mixRuns_X5_entry jm_X5_entry rfl (by decide) 5 jq_5 rfl rfl rfl (Nat.le_of_ble_eq_true rfl) jz ?_
            refine jj_i2l (pc := 63) dX7_mixRuns_63 ?_
            refine jj_callSr (pc := 64) _ (c_X7_mix l D cA ob ro ar _ _ _) dX7_mixRuns_64 gX7_mixRuns_X7_mix jm_X7_mix (by decide) rfl rfl (Nat.le_of_ble_eq_true rfl) jz ?_
            refine jj_lstore_n_3 (pc := 67) dX7_mixRuns_67 rfl rfl (by decide) ?_
            refine jj_iinc_6 (pc := 68) (z := 1) dX7_mixRuns_68 rfl rfl (by decide) ?_
            refine jj_goto (pc := 71) 34 dX7_mixRuns_71 (by decide) ?_
            rw [nI_succ] at ih2
            exact ih2
      refine jj_iload (pc := 5) dX7_mixRuns_5 rfl ?_
      refine jj_iconst (pc := 7) (v := 4) dX7_mixRuns_7 rfl ?_
      refine jj_icmp_ge (pc := 8) 80 dX7_mixRuns_8 (by decide) (fun h8 => ?_) (fun h8 => ?_)
      · exact absurd h8 (jb_lt (by decide) hi)
      · refine jj_aload_n (pc := 11) 0 dX7_mixRuns_11 rfl rfl ?_
        refine jj_g_0_4 (pc := 12) dX7_mixRuns_12 fd_X7_mixRuns_36 ?_
        refine jj_iload (pc := 15) dX7_mixRuns_15 rfl ?_
        refine jj_callVr (pc := 17) _ (c_X5_isThere l D cA ob ro ar _ _) dX7_mixRuns_17 gX7_mixRuns_X5_isThere jm_X5_isThere rfl (by decide) 5 jq_5 rfl rfl rfl (Nat.le_of_ble_eq_true rfl) jz ?_
        refine jj_if_eq (pc := 20) 31 dX7_mixRuns_20 (by decide) (fun h20 => ?_) (fun h20 => ?_)
        · refine jj_iconst (pc := 31) (v := 0) dX7_mixRuns_31 rfl ?_
          refine jj_istore_6 (pc := 32) dX7_mixRuns_32 rfl (by decide) ?_
          have h2 := K2 0 (Nat.zero_le _)
          rw [dRn1, dRn0, if_neg (by rw [bI_0 h20]; decide)] at h2
          exact h2
        · refine jj_lload_n (pc := 23) 3 dX7_mixRuns_23 rfl rfl ?_
          refine jj_iload (pc := 24) dX7_mixRuns_24 rfl ?_
          refine jj_i2l (pc := 26) dX7_mixRuns_26 ?_
          refine jj_callSr (pc := 27) _ (c_X7_mix l D cA ob ro ar _ _ _) dX7_mixRuns_27 gX7_mixRuns_X7_mix jm_X7_mix (by decide) rfl rfl (Nat.le_of_ble_eq_true rfl) jz ?_
          refine jj_lstore_n_3 (pc := 30) dX7_mixRuns_30 rfl rfl (by decide) ?_
          refine jj_iconst (pc := 31) (v := 0) dX7_mixRuns_31 rfl ?_
          refine jj_istore_6 (pc := 32) dX7_mixRuns_32 rfl (by decide) ?_
          have h2 := K2 0 (Nat.zero_le _)
          rw [dRn1, dRn0, if_pos (bI_1 h20)] at h2
          exact h2
  refine jj_lload_n (pc := 0) 1 dX7_mixRuns_0 rfl rfl ?_
  refine jj_lstore_n_3 (pc := 1) dX7_mixRuns_1 rfl rfl (by decide) ?_
  refine jj_iconst (pc := 2) (v := 0) dX7_mixRuns_2 rfl ?_
  refine jj_istore_5 (pc := 3) dX7_mixRuns_3 rfl (by decide) ?_
  exact K 0 (Nat.zero_le _)
set_option maxHeartbeats 4000000 in
theorem c_X7_mixPieces (l : Launch) (D : va_G) (cA : ClassId) (ob ro ar : Nat → Nat) (S : jS) (d : Int64) : jjFn l yX7_mixPieces wsX7_mixPieces 4 D cA [.ref (ob 0), .long d] (jW cA ob ro ar S) (some (.long (dPc S d (S.1 2).toNatClampNeg))) (jW cA ob ro ar S) := by
  refine jjCon_of (own := RX7) (cc := cX7_mixPieces) (nL := 8) (rt := (some .long)) (I := jI0) [some (.ref (ob 0)), some (.long d), none, none, none, none, none, none] jm_X7_mixPieces (by decide +kernel) rfl (fun _ _ _ _ _ => trivial) (Nat.le_of_ble_eq_true rfl) rfl ?_
  have K : ∀ i, i ≤ (S.1 2).toNatClampNeg → jjV l RX7 cX7_mixPieces 8 (some .long) jI0 wsX7_mixPieces (jjRm 4 0 0) D cA (jjEnd D (fun r0 w0 => r0 = some (.long (dPc S d (S.1 2).toNatClampNeg)) ∧ w0 = jW cA ob ro ar S) 0 0) 0 0 (jW cA ob ro ar S) 5 [some (.ref (ob 0)), some (.long d), none, some (.long (dPc S d i)), none, some (.int (nI i)), none, none] [] := by
    refine jdown ((S.1 2).toNatClampNeg) ?_ (fun i hi ih => ?_)
    · refine jj_iload (pc := 5) dX7_mixPieces_5 rfl ?_
      refine jj_aload_n (pc := 7) 0 dX7_mixPieces_7 rfl rfl ?_
      refine jj_g_0_0 (pc := 8) dX7_mixPieces_8 fd_X7_mixPieces_12 ?_
      refine jj_g_1_9 (pc := 11) dX7_mixPieces_11 fd_X7_mixPieces_95 ?_
      refine jj_icmp_ge (pc := 14) 116 dX7_mixPieces_14 (by decide) (fun h14 => ?_) (fun h14 => ?_)
      · refine jj_lload_n (pc := 116) 3 dX7_mixPieces_116 rfl rfl ?_
        refine jj_lret (pc := 117) dX7_mixPieces_117 ?_
        exact ⟨rfl, rfl⟩
      · exact absurd (jb_ge rfl) h14
    · have K3 : ∀ k, k ≤ (dPcK S (nI i)).toNatClampNeg → jjV l RX7 cX7_mixPieces 8 (some .long) jI0 wsX7_mixPieces (jjRm 4 0 0) D cA (jjEnd D (fun r0 w0 => r0 = some (.long (dPc S d (S.1 2).toNatClampNeg)) ∧ w0 = jW cA ob ro ar S) 0 0) 0 0 (jW cA ob ro ar S) 83 [some (.ref (ob 0)), some (.long d), none, some (.long (dPc2 S (nI i) (dPc1 S (nI i) (dPc S d i) 7) k)), none, some (.int (nI i)), some (.int (dPcK S (nI i))), some (.int (nI k))] [] := by
        refine jdown _ ?_ (fun k hk ih3 => ?_)
        · refine jj_iload (pc := 83) dX7_mixPieces_83 rfl ?_
          refine jj_iload (pc := 85) dX7_mixPieces_85 rfl ?_
          refine jj_icmp_ge (pc := 87) 110 dX7_mixPieces_87 (by decide) (fun h87 => ?_) (fun h87 => ?_)
          · refine jj_iinc_5 (pc := 110) (z := 1) dX7_mixPieces_110 rfl rfl (by decide) ?_
            refine jj_goto (pc := 113) 5 dX7_mixPieces_113 (by decide) ?_
            rw [nI_succ] at ih
            refine jj_sub ?_ ih
            exact jjLe_some (jjLe_some (jjLe_none (jjLe_some (jjLe_none (jjLe_some (jjLe_none (jjLe_none jjLe_nil)))))))
          · exact absurd (jb_ge rfl) h87
        · refine jj_iload (pc := 83) dX7_mixPieces_83 rfl ?_
          refine jj_iload (pc := 85) dX7_mixPieces_85 rfl ?_
          refine jj_icmp_ge (pc := 87) 110 dX7_mixPieces_87 (by decide) (fun h87 => ?_) (fun h87 => ?_)
          · exact absurd h87 (jb_lt rfl hk)
          · refine jj_lload_n (pc := 90) 3 dX7_mixPieces_90 rfl rfl ?_
            refine jj_aload_n (pc := 91) 0 dX7_mixPieces_91 rfl rfl ?_
            refine jj_iload (pc := 92) dX7_mixPieces_92 rfl ?_
            refine jj_iload (pc := 94) dX7_mixPieces_94 rfl ?_
            refine jj_callVr (pc := 96) _ (c_X7_tellSteps l D cA ob ro ar _ _ _) dX7_mixPieces_96 gX7_mixPieces_X7_tellSteps jm_X7_tellSteps rfl (by decide) 0 jq_0 rfl rfl rfl (Nat.le_of_ble_eq_true rfl) jz ?_
            refine jj_i2l (pc := 99) dX7_mixPieces_99 ?_
            refine jj_callSr (pc := 100) _ (c_X7_mix l D cA ob ro ar _ _ _) dX7_mixPieces_100 gX7_mixPieces_X7_mix jm_X7_mix (by decide) rfl rfl (Nat.le_of_ble_eq_true rfl) jz ?_
            refine jj_lstore_n_3 (pc := 103) dX7_mixPieces_103 rfl rfl (by decide) ?_
            refine jj_iinc_7 (pc := 104) (z := 1) dX7_mixPieces_104 rfl rfl (by decide) ?_
            refine jj_goto (pc := 107) 83 dX7_mixPieces_107 (by decide) ?_
            rw [nI_succ] at ih3
            exact ih3
      have K2 : ∀ k, k ≤ 7 → jjV l RX7 cX7_mixPieces 8 (some .long) jI0 wsX7_mixPieces (jjRm 4 0 0) D cA (jjEnd D (fun r0 w0 => r0 = some (.long (dPc S d (S.1 2).toNatClampNeg)) ∧ w0 = jW cA ob ro ar S) 0 0) 0 0 (jW cA ob ro ar S) 20 [some (.ref (ob 0)), some (.long d), none, some (.long (dPc1 S (nI i) (dPc S d i) k)), none, some (.int (nI i)), some (.int (nI k)), none] [] := by
        refine jdown 7 ?_ (fun k hk ih2 => ?_)
        · refine jj_iload (pc := 20) dX7_mixPieces_20 rfl ?_
          refine jj_bipush (pc := 22) (v := 7) dX7_mixPieces_22 rfl ?_
          refine jj_icmp_ge (pc := 24) 47 dX7_mixPieces_24 (by decide) (fun h24 => ?_) (fun h24 => ?_)
          · refine jj_aload_n (pc := 47) 0 dX7_mixPieces_47 rfl rfl ?_
            refine jj_g_0_2 (pc := 48) dX7_mixPieces_48 fd_X7_mixPieces_26 ?_
            refine jj_g_3_1 (pc := 51) dX7_mixPieces_51 fd_X7_mixPieces_116 ?_
            refine jj_iload (pc := 54) dX7_mixPieces_54 rfl ?_
            refine jj_callVr (pc := 56) _ (c_X1_isLaid l D cA ob ro ar _ (j := 1) (by decide) _) dX7_mixPieces_56 gX7_mixPieces_X1_isLaid jm_X1_isLaid rfl (by decide) 8 jq_8 rfl rfl rfl (Nat.le_of_ble_eq_true rfl) jz ?_
            refine jj_if_eq (pc := 59) 77 dX7_mixPieces_59 (by decide) (fun h59 => ?_) (fun h59 => ?_)
            · refine jj_iconst (pc := 77) (v := 0) dX7_mixPieces_77 rfl ?_
              refine jj_istore_6 (pc := 78) dX7_mixPieces_78 rfl (by decide) ?_
              refine jj_iconst (pc := 80) (v := 0) dX7_mixPieces_80 rfl ?_
              refine jj_istore_7 (pc := 81) dX7_mixPieces_81 rfl (by decide) ?_
              have h2 := K3 0 (Nat.zero_le _)
              rw [dPcK, if_neg (by rw [bI_0 h59]; decide)] at h2
              exact h2
            · refine jj_aload_n (pc := 62) 0 dX7_mixPieces_62 rfl rfl ?_
              refine jj_g_0_0 (pc := 63) dX7_mixPieces_63 fd_X7_mixPieces_12 ?_
              refine jj_g_1_6 (pc := 66) dX7_mixPieces_66 fd_X7_mixPieces_106 ?_
              refine jj_iload (pc := 69) dX7_mixPieces_69 rfl ?_
              refine jj_rget (pc := 71) (r := 6) (by decide) dX7_mixPieces_71 gX7_mixPieces_X4_get (by decide) (Nat.le_of_ble_eq_true rfl) jz ?_
              refine jj_goto (pc := 74) 78 dX7_mixPieces_74 (by decide) ?_
              refine jj_istore_6 (pc := 78) dX7_mixPieces_78 rfl (by decide) ?_
              refine jj_iconst (pc := 80) (v := 0) dX7_mixPieces_80 rfl ?_
              refine jj_istore_7 (pc := 81) dX7_mixPieces_81 rfl (by decide) ?_
              have h2 := K3 0 (Nat.zero_le _)
              rw [dPcK, if_pos (bI_1 h59)] at h2
              exact h2
          · exact absurd (jb_ge (by decide)) h24
        · refine jj_iload (pc := 20) dX7_mixPieces_20 rfl ?_
          refine jj_bipush (pc := 22) (v := 7) dX7_mixPieces_22 rfl ?_
          refine jj_icmp_ge (pc := 24) 47 dX7_mixPieces_24 (by decide) (fun h24 => ?_) (fun h24 => ?_)
          · exact absurd h24 (jb_lt (by decide) hk)
          · refine jj_lload_n (pc := 27) 3 dX7_mixPieces_27 rfl rfl ?_
            refine jj_aload_n (pc := 28) 0 dX7_mixPieces_28 rfl rfl ?_
            refine jj_iload (pc := 29) dX7_mixPieces_29 rfl ?_
            refine jj_iload (pc := 31) dX7_mixPieces_31 rfl ?_
            refine jj_callVr (pc := 33) _ (c_X7_tellPiece l D cA ob ro ar _ _ _) dX7_mixPieces_33 gX7_mixPieces_X7_tellPiece jm_X7_tellPiece rfl (by decide) 0 jq_0 rfl rfl rfl (Nat.le_of_ble_eq_true rfl) jz ?_
            refine jj_i2l (pc := 36) dX7_mixPieces_36 ?_
            refine jj_callSr (pc := 37) _ (c_X7_mix l D cA ob ro ar _ _ _) dX7_mixPieces_37 gX7_mixPieces_X7_mix jm_X7_mix (by decide) rfl rfl (Nat.le_of_ble_eq_true rfl) jz ?_
            refine jj_lstore_n_3 (pc := 40) dX7_mixPieces_40 rfl rfl (by decide) ?_
            refine jj_iinc_6 (pc := 41) (z := 1) dX7_mixPieces_41 rfl rfl (by decide) ?_
            refine jj_goto (pc := 44) 20 dX7_mixPieces_44 (by decide) ?_
            rw [nI_succ] at ih2
            exact ih2
      refine jj_iload (pc := 5) dX7_mixPieces_5 rfl ?_
      refine jj_aload_n (pc := 7) 0 dX7_mixPieces_7 rfl rfl ?_
      refine jj_g_0_0 (pc := 8) dX7_mixPieces_8 fd_X7_mixPieces_12 ?_
      refine jj_g_1_9 (pc := 11) dX7_mixPieces_11 fd_X7_mixPieces_95 ?_
      refine jj_icmp_ge (pc := 14) 116 dX7_mixPieces_14 (by decide) (fun h14 => ?_) (fun h14 => ?_)
      · exact absurd h14 (jb_lt rfl hi)
      · refine jj_iconst (pc := 17) (v := 0) dX7_mixPieces_17 rfl ?_
        refine jj_istore_6 (pc := 18) dX7_mixPieces_18 rfl (by decide) ?_
        exact K2 0 (Nat.zero_le _)
  refine jj_lload_n (pc := 0) 1 dX7_mixPieces_0 rfl rfl ?_
  refine jj_lstore_n_3 (pc := 1) dX7_mixPieces_1 rfl rfl (by decide) ?_
  refine jj_iconst (pc := 2) (v := 0) dX7_mixPieces_2 rfl ?_
  refine jj_istore_5 (pc := 3) dX7_mixPieces_3 rfl (by decide) ?_
  exact K 0 (Nat.zero_le _)
set_option maxHeartbeats 4000000 in
theorem c_X7_digest (l : Launch) (D : va_G) (cA : ClassId) (ob ro ar : Nat → Nat) (S : jS)  : jjFn l yX7_digest wsX7_digest 6 D cA [.ref (ob 0)] (jW cA ob ro ar S) (some (.long (dDig S))) (jW cA ob ro ar (dS2 S)) := by
  refine jjCon_of (own := RX7) (cc := cX7_digest) (nL := 4) (rt := (some .long)) (I := jI0) [some (.ref (ob 0)), none, none, none] jm_X7_digest (by decide +kernel) rfl (fun _ _ _ _ _ => trivial) (Nat.le_of_ble_eq_true rfl) rfl ?_
  have K : ∀ i, i ≤ 10 → jjV l RX7 cX7_digest 4 (some .long) jI0 wsX7_digest (jjRm 6 0 0) D cA (jjEnd D (fun r0 w0 => r0 = some (.long (dDig S)) ∧ w0 = jW cA ob ro ar (dS2 S)) 0 0) 0 0 (jW cA ob ro ar S) 6 [some (.ref (ob 0)), some (.long (dMn S i)), none, some (.int (nI i))] [] := by
    refine jdown (10) ?_ (fun i hi ih => ?_)
    · refine jj_iload_n (pc := 6) 3 dX7_digest_6 rfl rfl ?_
      refine jj_bipush (pc := 7) (v := 10) dX7_digest_7 rfl ?_
      refine jj_icmp_ge (pc := 9) 29 dX7_digest_9 (by decide) (fun h9 => ?_) (fun h9 => ?_)
      · refine jj_aload_n (pc := 29) 0 dX7_digest_29 rfl rfl ?_
        refine jj_lload_n (pc := 30) 1 dX7_digest_30 rfl rfl ?_
        refine jj_callVr (pc := 31) _ (c_X7_mixSymbols l D cA ob ro ar _ _) dX7_digest_31 gX7_digest_X7_mixSymbols jm_X7_mixSymbols rfl (by decide) 0 jq_0 rfl rfl rfl (Nat.le_of_ble_eq_true rfl) jz ?_
        refine jj_lstore_n_1 (pc := 34) dX7_digest_34 rfl rfl (by decide) ?_
        refine jj_aload_n (pc := 35) 0 dX7_digest_35 rfl rfl ?_
        refine jj_lload_n (pc := 36) 1 dX7_digest_36 rfl rfl ?_
        refine jj_callVr (pc := 37) _ (c_X7_mixPieces l D cA ob ro ar _ _) dX7_digest_37 gX7_digest_X7_mixPieces jm_X7_mixPieces rfl (by decide) 0 jq_0 rfl rfl rfl (Nat.le_of_ble_eq_true rfl) jz ?_
        refine jj_lstore_n_1 (pc := 40) dX7_digest_40 rfl rfl (by decide) ?_
        refine jj_aload_n (pc := 41) 0 dX7_digest_41 rfl rfl ?_
        refine jj_lload_n (pc := 42) 1 dX7_digest_42 rfl rfl ?_
        refine jj_callVr (pc := 43) _ (c_X7_mixWords l D cA ob ro ar _ _) dX7_digest_43 gX7_digest_X7_mixWords jm_X7_mixWords rfl (by decide) 0 jq_0 rfl rfl rfl (Nat.le_of_ble_eq_true rfl) jz ?_
        refine jj_lstore_n_1 (pc := 46) dX7_digest_46 rfl rfl (by decide) ?_
        refine jj_aload_n (pc := 47) 0 dX7_digest_47 rfl rfl ?_
        refine jj_lload_n (pc := 48) 1 dX7_digest_48 rfl rfl ?_
        refine jj_callVr (pc := 49) _ (c_X7_mixRuns l D cA ob ro ar _ _) dX7_digest_49 gX7_digest_X7_mixRuns jm_X7_mixRuns rfl (by decide) 0 jq_0 rfl rfl rfl (Nat.le_of_ble_eq_true rfl) jz ?_
        refine jj_lstore_n_1 (pc := 52) dX7_digest_52 rfl rfl (by decide) ?_
        refine jj_aload_n (pc := 53) 0 dX7_digest_53 rfl rfl ?_
        refine jj_lload_n (pc := 54) 1 dX7_digest_54 rfl rfl ?_
        refine jj_callVr (pc := 55) _ (c_X7_mixPatches l D cA ob ro ar _ _) dX7_digest_55 gX7_digest_X7_mixPatches jm_X7_mixPatches rfl (by decide) 0 jq_0 rfl rfl rfl (Nat.le_of_ble_eq_true rfl) jz ?_
        refine jj_lstore_n_1 (pc := 58) dX7_digest_58 rfl rfl (by decide) ?_
        refine jj_aload_n (pc := 59) 0 dX7_digest_59 rfl rfl ?_
        refine jj_g_0_1 (pc := 60) dX7_digest_60 fd_X7_digest_19 ?_
        refine jj_aload_n (pc := 63) 0 dX7_digest_63 rfl rfl ?_
        refine jj_g_0_0 (pc := 64) dX7_digest_64 fd_X7_digest_12 ?_
        refine jj_aload_n (pc := 67) 0 dX7_digest_67 rfl rfl ?_
        refine jj_g_0_7 (pc := 68) dX7_digest_68 fd_X7_digest_56 ?_
        refine jj_iconst (pc := 71) (v := (-1)) dX7_digest_71 rfl ?_
        refine jj_callVv (pc := 72) _ (c_X2_attempt l D cA ob ro ar _ _ _) dX7_digest_72 gX7_digest_X2_attempt jm_X2_attempt rfl (by decide) 2 jq_2 rfl rfl rfl (Nat.le_of_ble_eq_true rfl) jz ?_
        refine jj_aload_n (pc := 75) 0 dX7_digest_75 rfl rfl ?_
        refine jj_lload_n (pc := 76) 1 dX7_digest_76 rfl rfl ?_
        refine jj_callVr (pc := 77) _ (c_X7_mixFaults l D cA ob ro ar _ _) dX7_digest_77 gX7_digest_X7_mixFaults jm_X7_mixFaults rfl (by decide) 0 jq_0 rfl rfl rfl (Nat.le_of_ble_eq_true rfl) jz ?_
        refine jj_lstore_n_1 (pc := 80) dX7_digest_80 rfl rfl (by decide) ?_
        refine jj_aload_n (pc := 81) 0 dX7_digest_81 rfl rfl ?_
        refine jj_g_0_1 (pc := 82) dX7_digest_82 fd_X7_digest_19 ?_
        refine jj_aload_n (pc := 85) 0 dX7_digest_85 rfl rfl ?_
        refine jj_g_0_0 (pc := 86) dX7_digest_86 fd_X7_digest_12 ?_
        refine jj_iconst (pc := 89) (v := 5) dX7_digest_89 rfl ?_
        refine jj_iconst (pc := 90) (v := (-1)) dX7_digest_90 rfl ?_
        refine jj_callVv (pc := 91) _ (c_X2_attempt l D cA ob ro ar _ _ _) dX7_digest_91 gX7_digest_X2_attempt jm_X2_attempt rfl (by decide) 2 jq_2 rfl rfl rfl (Nat.le_of_ble_eq_true rfl) jz ?_
        refine jj_lload_n (pc := 94) 1 dX7_digest_94 rfl rfl ?_
        refine jj_aload_n (pc := 95) 0 dX7_digest_95 rfl rfl ?_
        refine jj_g_0_1 (pc := 96) dX7_digest_96 fd_X7_digest_19 ?_
        refine jj_g_2_0 (pc := 99) dX7_digest_99 fd_X7_digest_149 ?_
        refine jj_g_7_2 (pc := 102) dX7_digest_102 fd_X7_digest_275 ?_
        refine jj_i2l (pc := 105) dX7_digest_105 ?_
        refine jj_callSr (pc := 106) _ (c_X7_mix l D cA ob ro ar _ _ _) dX7_digest_106 gX7_digest_X7_mix jm_X7_mix (by decide) rfl rfl (Nat.le_of_ble_eq_true rfl) jz ?_
        refine jj_lret (pc := 109) dX7_digest_109 ?_
        exact ⟨rfl, rfl⟩
      · exact absurd (jb_ge (by decide)) h9
    · refine jj_iload_n (pc := 6) 3 dX7_digest_6 rfl rfl ?_
      refine jj_bipush (pc := 7) (v := 10) dX7_digest_7 rfl ?_
      refine jj_icmp_ge (pc := 9) 29 dX7_digest_9 (by decide) (fun h9 => ?_) (fun h9 => ?_)
      · exact absurd h9 (jb_lt (by decide) hi)
      · refine jj_lload_n (pc := 12) 1 dX7_digest_12 rfl rfl ?_
        refine jj_aload_n (pc := 13) 0 dX7_digest_13 rfl rfl ?_
        refine jj_iload_n (pc := 14) 3 dX7_digest_14 rfl rfl ?_
        refine jj_callVr (pc := 15) _ (c_X7_tellMany l D cA ob ro ar _ _) dX7_digest_15 gX7_digest_X7_tellMany jm_X7_tellMany rfl (by decide) 0 jq_0 rfl rfl rfl (Nat.le_of_ble_eq_true rfl) jz ?_
        refine jj_i2l (pc := 18) dX7_digest_18 ?_
        refine jj_callSr (pc := 19) _ (c_X7_mix l D cA ob ro ar _ _ _) dX7_digest_19 gX7_digest_X7_mix jm_X7_mix (by decide) rfl rfl (Nat.le_of_ble_eq_true rfl) jz ?_
        refine jj_lstore_n_1 (pc := 22) dX7_digest_22 rfl rfl (by decide) ?_
        refine jj_iinc_3 (pc := 23) (z := 1) dX7_digest_23 rfl rfl (by decide) ?_
        refine jj_goto (pc := 26) 6 dX7_digest_26 (by decide) ?_
        rw [nI_succ] at ih
        exact ih
  refine jj_ldc2 (pc := 0) (v := 5737) dX7_digest_0 (by decide +kernel) ?_
  refine jj_lstore_n_1 (pc := 3) dX7_digest_3 rfl rfl (by decide) ?_
  refine jj_iconst (pc := 4) (v := 0) dX7_digest_4 rfl ?_
  refine jj_istore_n_3 (pc := 5) dX7_digest_5 rfl rfl (by decide) ?_
  exact K 0 (Nat.zero_le _)
def mMean (S : jS) : UInt64 := if mRuns S = 0 then FP.dconst0 else FP.ddiv (FP.i2d (mEnts S 4)) (FP.i2d (mRuns S))
set_option maxHeartbeats 4000000 in
theorem c_X7_meanStack (l : Launch) (D : va_G) (cA : ClassId) (ob ro ar : Nat → Nat) (S : jS) (hnn : ¬ mRuns S = 0 → vf_n64 (FP.ddiv (FP.i2d (mEnts S 4)) (FP.i2d (mRuns S)))) : jjFn l yX7_meanStack wsX7_meanStack 2 D cA [.ref (ob 0)] (jW cA ob ro ar S) (some (.double (mMean S))) (jW cA ob ro ar S) := by
  refine jjCon_of (own := RX7) (cc := cX7_meanStack) (nL := 2) (rt := (some .double)) (I := jI0) [some (.ref (ob 0)), none] jm_X7_meanStack (by decide +kernel) rfl (fun _ _ _ _ _ => trivial) (Nat.le_of_ble_eq_true rfl) rfl ?_
  refine jj_aload_n (pc := 0) 0 dX7_meanStack_0 rfl rfl ?_
  refine jj_g_0_4 (pc := 1) dX7_meanStack_1 fd_X7_meanStack_36 ?_
  refine jj_callVr (pc := 4) _ (c_X5_count l D cA ob ro ar _) dX7_meanStack_4 gX7_meanStack_X5_count jm_X5_count rfl (by decide) 5 jq_5 rfl rfl rfl (Nat.le_of_ble_eq_true rfl) jz ?_
  refine jj_istore_n_1 (pc := 7) dX7_meanStack_7 rfl rfl (by decide) ?_
  refine jj_iload_n (pc := 8) 1 dX7_meanStack_8 rfl rfl ?_
  refine jj_if_ne (pc := 9) 14 dX7_meanStack_9 (by decide) (fun h9 => ?_) (fun h9 => ?_)
  · refine jj_aload_n (pc := 14) 0 dX7_meanStack_14 rfl rfl ?_
    refine jj_g_0_4 (pc := 15) dX7_meanStack_15 fd_X7_meanStack_36 ?_
    refine jj_callVr (pc := 18) _ (c_X5_entries l D cA ob ro ar _) dX7_meanStack_18 gX7_meanStack_X5_entries jm_X5_entries rfl (by decide) 5 jq_5 rfl rfl rfl (Nat.le_of_ble_eq_true rfl) jz ?_
    refine jj_i2d (pc := 21) dX7_meanStack_21 ?_
    refine jj_iload_n (pc := 22) 1 dX7_meanStack_22 rfl rfl ?_
    refine jj_i2d (pc := 23) dX7_meanStack_23 ?_
    refine jj_ddiv (pc := 24) dX7_meanStack_24 (hnn h9) ?_
    refine jj_dret (pc := 25) dX7_meanStack_25 ?_
    exact ⟨by rw [mMean, if_neg h9], rfl⟩
  · refine jj_dconst0 (pc := 12) dX7_meanStack_12 ?_
    refine jj_dret (pc := 13) dX7_meanStack_13 ?_
    exact ⟨by rw [mMean, if_pos h9], rfl⟩
