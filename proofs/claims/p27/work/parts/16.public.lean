/-! The public methods that may throw. -/
def gObject (S : jS) (_ : Int32) : Option String := if S.1 1 < 8 then none else some "java/lang/IllegalStateException"
theorem fx_X7_object_ISE : jXwd RX7 wsX7_object 63 67 "java/lang/IllegalStateException" := ⟨by decide +kernel, by decide +kernel, by decide +kernel⟩
set_option maxHeartbeats 4000000 in
theorem c_X7_object (l : Launch) (hl0 : l.stackTraces = false) (D : va_G) (cA : ClassId) (ob ro ar : Nat → Nat) (S : jS) (b : Int32) : jjConX l yX7_object wsX7_object 6 D cA [.ref (ob 0), .int b] (jW cA ob ro ar S) 1 6 (fun r0 w0 => gObject S b = none ∧ r0 = some (.int (S.1 1 + 1 - 1)) ∧ w0 = jW cA ob ro ar (addObj S b)) (fun E w0 => gObject S b = some E ∧ w0 = jW cA ob ro ar S) := by
  refine jjConX_of (own := RX7) (cc := cX7_object) (nL := 2) (rt := (some .int)) [some (.ref (ob 0)), some (.int b)] jm_X7_object (by decide +kernel) rfl (Nat.le_of_ble_eq_true rfl) rfl ?_
  refine jj_aload_n (pc := 0) 0 dX7_object_0 rfl rfl ?_
  refine jj_g_0_0 (pc := 1) dX7_object_1 fd_X7_object_12 ?_
  refine jj_g_1_1 (pc := 4) dX7_object_4 fd_X7_object_60 ?_
  refine jj_bipush (pc := 7) (v := 8) dX7_object_7 rfl ?_
  refine jj_icmp_lt (pc := 9) 22 dX7_object_9 (by decide) (fun h9 => ?_) (fun h9 => ?_)
  · refine jj_aload_n (pc := 22) 0 dX7_object_22 rfl rfl ?_
    refine jj_g_0_0 (pc := 23) dX7_object_23 fd_X7_object_12 ?_
    refine jj_iload_n (pc := 26) 1 dX7_object_26 rfl rfl ?_
    refine jj_callVr (pc := 27) _ (c_X6_addObject l D cA ob ro ar _ _) dX7_object_27 gX7_object_X6_addObject jm_X6_addObject rfl (by decide) 1 jq_1 rfl rfl rfl (Nat.le_of_ble_eq_true rfl) ⟨Nat.zero_le _, Nat.zero_le _⟩ ?_
    refine jjx_iret (pc := 30) dX7_object_30 (Nat.zero_le _) (Nat.zero_le _) ?_
    exact ⟨by simp [gObject, h9], rfl, rfl⟩
  · refine jjx_throw (pc := 12) "there are 8 objects" hl0 jxc_ISE fx_X7_object_ISE (by decide +kernel) dX7_object_12 dX7_object_15 dX7_object_16 dX7_object_18 dX7_object_21 (by decide) (Nat.le_of_ble_eq_true rfl) ?_
    exact ⟨by simp [gObject, h9], rfl⟩
def gPiece (S : jS) (a y z _ : Int32) : Option String := if mWithin a (S.1 1) = true ∧ mSym y = true then (if mSize z = true then (if S.1 2 < 40 then none else some "java/lang/IllegalStateException") else some "java/lang/IllegalArgumentException") else some "java/lang/IndexOutOfBoundsException"
def bn (b : Int32) : Int32 := if b = 0 then 1 else 0
theorem fx_X7_piece_ISE : jXwd RX7 wsX7_piece 63 67 "java/lang/IllegalStateException" := ⟨by decide +kernel, by decide +kernel, by decide +kernel⟩
theorem fx_X7_piece_IOB : jXwd RX7 wsX7_piece 82 86 "java/lang/IndexOutOfBoundsException" := ⟨by decide +kernel, by decide +kernel, by decide +kernel⟩
theorem fx_X7_piece_IAE : jXwd RX7 wsX7_piece 90 94 "java/lang/IllegalArgumentException" := ⟨by decide +kernel, by decide +kernel, by decide +kernel⟩
set_option maxHeartbeats 4000000 in
theorem c_X7_piece (l : Launch) (hl0 : l.stackTraces = false) (D : va_G) (cA : ClassId) (ob ro ar : Nat → Nat) (S : jS) (a y z b : Int32) : jjConX l yX7_piece wsX7_piece 6 D cA [.ref (ob 0), .int a, .int y, .int z, .int b] (jW cA ob ro ar S) 1 6 (fun r0 w0 => gPiece S a y z b = none ∧ r0 = some (.int (S.1 2 + 1 - 1)) ∧ w0 = jW cA ob ro ar (addPc S a y z (bn b))) (fun E w0 => gPiece S a y z b = some E ∧ w0 = jW cA ob ro ar S) := by
  refine jjConX_of (own := RX7) (cc := cX7_piece) (nL := 5) (rt := (some .int)) [some (.ref (ob 0)), some (.int a), some (.int y), some (.int z), some (.int b)] jm_X7_piece (by decide +kernel) rfl (Nat.le_of_ble_eq_true rfl) rfl ?_
  refine jj_iload_n (pc := 0) 1 dX7_piece_0 rfl rfl ?_
  refine jj_aload_n (pc := 1) 0 dX7_piece_1 rfl rfl ?_
  refine jj_g_0_0 (pc := 2) dX7_piece_2 fd_X7_piece_12 ?_
  refine jj_g_1_1 (pc := 5) dX7_piece_5 fd_X7_piece_60 ?_
  refine jj_callSr (pc := 8) _ (c_X7_isWithin l D cA ob ro ar _ _ _) dX7_piece_8 gX7_piece_X7_isWithin jm_X7_isWithin (by decide) rfl rfl (Nat.le_of_ble_eq_true rfl) ⟨Nat.zero_le _, Nat.zero_le _⟩ ?_
  refine jj_if_eq (pc := 11) 21 dX7_piece_11 (by decide) (fun h11 => ?_) (fun h11 => ?_)
  · refine jjx_throw (pc := 21) "no such object, or symbol" hl0 jxc_IOB fx_X7_piece_IOB (by decide +kernel) dX7_piece_21 dX7_piece_24 dX7_piece_25 dX7_piece_27 dX7_piece_30 (by decide) (Nat.le_of_ble_eq_true rfl) ?_
    have e11 := bI_0 h11
    exact ⟨by simp [gPiece, e11], rfl⟩
  · refine jj_iload_n (pc := 14) 2 dX7_piece_14 rfl rfl ?_
    refine jj_callSr (pc := 15) _ (c_X7_isSymbol l D cA ob ro ar _ _) dX7_piece_15 gX7_piece_X7_isSymbol jm_X7_isSymbol (by decide) rfl rfl (Nat.le_of_ble_eq_true rfl) ⟨Nat.zero_le _, Nat.zero_le _⟩ ?_
    refine jj_if_ne (pc := 18) 31 dX7_piece_18 (by decide) (fun h18 => ?_) (fun h18 => ?_)
    · refine jj_iload_n (pc := 31) 3 dX7_piece_31 rfl rfl ?_
      refine jj_callSr (pc := 32) _ (c_X7_isPieceSize l D cA ob ro ar _ _) dX7_piece_32 gX7_piece_X7_isPieceSize jm_X7_isPieceSize (by decide) rfl rfl (Nat.le_of_ble_eq_true rfl) ⟨Nat.zero_le _, Nat.zero_le _⟩ ?_
      refine jj_if_ne (pc := 35) 48 dX7_piece_35 (by decide) (fun h35 => ?_) (fun h35 => ?_)
      · refine jj_aload_n (pc := 48) 0 dX7_piece_48 rfl rfl ?_
        refine jj_g_0_0 (pc := 49) dX7_piece_49 fd_X7_piece_12 ?_
        refine jj_g_1_9 (pc := 52) dX7_piece_52 fd_X7_piece_95 ?_
        refine jj_bipush (pc := 55) (v := 40) dX7_piece_55 rfl ?_
        refine jj_icmp_lt (pc := 57) 70 dX7_piece_57 (by decide) (fun h57 => ?_) (fun h57 => ?_)
        · refine jj_aload_n (pc := 70) 0 dX7_piece_70 rfl rfl ?_
          refine jj_g_0_0 (pc := 71) dX7_piece_71 fd_X7_piece_12 ?_
          refine jj_iload_n (pc := 74) 1 dX7_piece_74 rfl rfl ?_
          refine jj_iload_n (pc := 75) 2 dX7_piece_75 rfl rfl ?_
          refine jj_iload_n (pc := 76) 3 dX7_piece_76 rfl rfl ?_
          refine jj_iload (pc := 77) dX7_piece_77 rfl ?_
          refine jj_if_ne (pc := 79) 86 dX7_piece_79 (by decide) (fun h79 => ?_) (fun h79 => ?_)
          · refine jj_iconst (pc := 86) (v := 0) dX7_piece_86 rfl ?_
            refine jj_callVr (pc := 87) _ (c_X6_addPiece l D cA ob ro ar _ _ _ _ _) dX7_piece_87 gX7_piece_X6_addPiece jm_X6_addPiece rfl (by decide) 1 jq_1 rfl rfl rfl (Nat.le_of_ble_eq_true rfl) ⟨Nat.zero_le _, Nat.zero_le _⟩ ?_
            refine jjx_iret (pc := 90) dX7_piece_90 (Nat.zero_le _) (Nat.zero_le _) ?_
            have e11 := bI_1 h11
            have e18 := bI_1 h18
            have e35 := bI_1 h35
            exact ⟨by simp [gPiece, e11, e18, e35, h57, h79], rfl, by rw [bn, if_neg h79]⟩
          · refine jj_iconst (pc := 82) (v := 1) dX7_piece_82 rfl ?_
            refine jj_goto (pc := 83) 87 dX7_piece_83 (by decide) ?_
            refine jj_callVr (pc := 87) _ (c_X6_addPiece l D cA ob ro ar _ _ _ _ _) dX7_piece_87 gX7_piece_X6_addPiece jm_X6_addPiece rfl (by decide) 1 jq_1 rfl rfl rfl (Nat.le_of_ble_eq_true rfl) ⟨Nat.zero_le _, Nat.zero_le _⟩ ?_
            refine jjx_iret (pc := 90) dX7_piece_90 (Nat.zero_le _) (Nat.zero_le _) ?_
            have e11 := bI_1 h11
            have e18 := bI_1 h18
            have e35 := bI_1 h35
            exact ⟨by simp [gPiece, e11, e18, e35, h57, h79], rfl, by rw [bn, if_pos h79]⟩
        · refine jjx_throw (pc := 60) "there were 40 pieces" hl0 jxc_ISE fx_X7_piece_ISE (by decide +kernel) dX7_piece_60 dX7_piece_63 dX7_piece_64 dX7_piece_66 dX7_piece_69 (by decide) (Nat.le_of_ble_eq_true rfl) ?_
          have e11 := bI_1 h11
          have e18 := bI_1 h18
          have e35 := bI_1 h35
          exact ⟨by simp [gPiece, e11, e18, e35, h57], rfl⟩
      · refine jjx_throw (pc := 38) "size is not 1 to 20" hl0 jxc_IAE fx_X7_piece_IAE (by decide +kernel) dX7_piece_38 dX7_piece_41 dX7_piece_42 dX7_piece_44 dX7_piece_47 (by decide) (Nat.le_of_ble_eq_true rfl) ?_
        have e11 := bI_1 h11
        have e18 := bI_1 h18
        have e35 := bI_0 h35
        exact ⟨by simp [gPiece, e11, e18, e35], rfl⟩
    · refine jjx_throw (pc := 21) "no such object, or symbol" hl0 jxc_IOB fx_X7_piece_IOB (by decide +kernel) dX7_piece_21 dX7_piece_24 dX7_piece_25 dX7_piece_27 dX7_piece_30 (by decide) (Nat.le_of_ble_eq_true rfl) ?_
      have e11 := bI_1 h11
      have e18 := bI_0 h18
      exact ⟨by simp [gPiece, e11, e18], rfl⟩
def gRefer (S : jS) (p y _ : Int32) : Option String := if mWithin p (S.1 2) = true ∧ mSym y = true then (if 3 ≤ jg S 6 p ∨ mOfPatch S p = true ∨ mLaid S 1 p = true then some "java/lang/IllegalStateException" else none) else some "java/lang/IndexOutOfBoundsException"
theorem fx_X7_refer_ISE : jXwd RX7 wsX7_refer 63 67 "java/lang/IllegalStateException" := ⟨by decide +kernel, by decide +kernel, by decide +kernel⟩
theorem fx_X7_refer_IOB : jXwd RX7 wsX7_refer 82 86 "java/lang/IndexOutOfBoundsException" := ⟨by decide +kernel, by decide +kernel, by decide +kernel⟩
set_option maxHeartbeats 4000000 in
theorem c_X7_refer (l : Launch) (hl0 : l.stackTraces = false) (D : va_G) (cA : ClassId) (ob ro ar : Nat → Nat) (S : jS) (p y b : Int32) : jjConX l yX7_refer wsX7_refer 6 D cA [.ref (ob 0), .int p, .int y, .int b] (jW cA ob ro ar S) 1 6 (fun r0 w0 => gRefer S p y b = none ∧ r0 = some (.int (jg (addRef S p y b) 6 p)) ∧ w0 = jW cA ob ro ar (addRef S p y b)) (fun E w0 => gRefer S p y b = some E ∧ w0 = jW cA ob ro ar S) := by
  refine jjConX_of (own := RX7) (cc := cX7_refer) (nL := 4) (rt := (some .int)) [some (.ref (ob 0)), some (.int p), some (.int y), some (.int b)] jm_X7_refer (by decide +kernel) rfl (Nat.le_of_ble_eq_true rfl) rfl ?_
  refine jj_iload_n (pc := 0) 1 dX7_refer_0 rfl rfl ?_
  refine jj_aload_n (pc := 1) 0 dX7_refer_1 rfl rfl ?_
  refine jj_g_0_0 (pc := 2) dX7_refer_2 fd_X7_refer_12 ?_
  refine jj_g_1_9 (pc := 5) dX7_refer_5 fd_X7_refer_95 ?_
  refine jj_callSr (pc := 8) _ (c_X7_isWithin l D cA ob ro ar _ _ _) dX7_refer_8 gX7_refer_X7_isWithin jm_X7_isWithin (by decide) rfl rfl (Nat.le_of_ble_eq_true rfl) ⟨Nat.zero_le _, Nat.zero_le _⟩ ?_
  refine jj_if_eq (pc := 11) 21 dX7_refer_11 (by decide) (fun h11 => ?_) (fun h11 => ?_)
  · refine jjx_throw (pc := 21) "no such piece, or symbol" hl0 jxc_IOB fx_X7_refer_IOB (by decide +kernel) dX7_refer_21 dX7_refer_24 dX7_refer_25 dX7_refer_27 dX7_refer_30 (by decide) (Nat.le_of_ble_eq_true rfl) ?_
    have e11 := bI_0 h11
    exact ⟨by simp [gRefer, e11], rfl⟩
  · refine jj_iload_n (pc := 14) 2 dX7_refer_14 rfl rfl ?_
    refine jj_callSr (pc := 15) _ (c_X7_isSymbol l D cA ob ro ar _ _) dX7_refer_15 gX7_refer_X7_isSymbol jm_X7_isSymbol (by decide) rfl rfl (Nat.le_of_ble_eq_true rfl) ⟨Nat.zero_le _, Nat.zero_le _⟩ ?_
    refine jj_if_ne (pc := 18) 31 dX7_refer_18 (by decide) (fun h18 => ?_) (fun h18 => ?_)
    · refine jj_aload_n (pc := 31) 0 dX7_refer_31 rfl rfl ?_
      refine jj_g_0_0 (pc := 32) dX7_refer_32 fd_X7_refer_12 ?_
      refine jj_g_1_6 (pc := 35) dX7_refer_35 fd_X7_refer_106 ?_
      refine jj_iload_n (pc := 38) 1 dX7_refer_38 rfl rfl ?_
      refine jj_rget (pc := 39) (r := 6) (by decide) dX7_refer_39 gX7_refer_X4_get (by decide) (Nat.le_of_ble_eq_true rfl) ⟨Nat.zero_le _, Nat.zero_le _⟩ ?_
      refine jj_iconst (pc := 42) (v := 3) dX7_refer_42 rfl ?_
      refine jj_icmp_ge (pc := 43) 71 dX7_refer_43 (by decide) (fun h43 => ?_) (fun h43 => ?_)
      · refine jjx_throw (pc := 71) "the piece has 3 references, is of a patch, or is laid" hl0 jxc_ISE fx_X7_refer_ISE (by decide +kernel) dX7_refer_71 dX7_refer_74 dX7_refer_75 dX7_refer_77 dX7_refer_80 (by decide) (Nat.le_of_ble_eq_true rfl) ?_
        have e11 := bI_1 h11
        have e18 := bI_1 h18
        exact ⟨by simp [gRefer, e11, e18, h43], rfl⟩
      · refine jj_aload_n (pc := 46) 0 dX7_refer_46 rfl rfl ?_
        refine jj_g_0_0 (pc := 47) dX7_refer_47 fd_X7_refer_12 ?_
        refine jj_iload_n (pc := 50) 1 dX7_refer_50 rfl rfl ?_
        refine jj_callVr (pc := 51) _ (c_X6_isOfPatch l D cA ob ro ar _ _) dX7_refer_51 gX7_refer_X6_isOfPatch jm_X6_isOfPatch rfl (by decide) 1 jq_1 rfl rfl rfl (Nat.le_of_ble_eq_true rfl) ⟨Nat.zero_le _, Nat.zero_le _⟩ ?_
        refine jj_if_ne (pc := 54) 71 dX7_refer_54 (by decide) (fun h54 => ?_) (fun h54 => ?_)
        · refine jjx_throw (pc := 71) "the piece has 3 references, is of a patch, or is laid" hl0 jxc_ISE fx_X7_refer_ISE (by decide +kernel) dX7_refer_71 dX7_refer_74 dX7_refer_75 dX7_refer_77 dX7_refer_80 (by decide) (Nat.le_of_ble_eq_true rfl) ?_
          have e11 := bI_1 h11
          have e18 := bI_1 h18
          have e54 := bI_1 h54
          exact ⟨by simp [gRefer, e11, e18, h43, e54], rfl⟩
        · refine jj_aload_n (pc := 57) 0 dX7_refer_57 rfl rfl ?_
          refine jj_g_0_2 (pc := 58) dX7_refer_58 fd_X7_refer_26 ?_
          refine jj_g_3_1 (pc := 61) dX7_refer_61 fd_X7_refer_116 ?_
          refine jj_iload_n (pc := 64) 1 dX7_refer_64 rfl rfl ?_
          refine jj_callVr (pc := 65) _ (c_X1_isLaid l D cA ob ro ar _ (j := 1) (by decide) _) dX7_refer_65 gX7_refer_X1_isLaid jm_X1_isLaid rfl (by decide) 8 jq_8 rfl rfl rfl (Nat.le_of_ble_eq_true rfl) ⟨Nat.zero_le _, Nat.zero_le _⟩ ?_
          refine jj_if_eq (pc := 68) 81 dX7_refer_68 (by decide) (fun h68 => ?_) (fun h68 => ?_)
          · refine jj_aload_n (pc := 81) 0 dX7_refer_81 rfl rfl ?_
            refine jj_g_0_0 (pc := 82) dX7_refer_82 fd_X7_refer_12 ?_
            refine jj_iload_n (pc := 85) 1 dX7_refer_85 rfl rfl ?_
            refine jj_iload_n (pc := 86) 2 dX7_refer_86 rfl rfl ?_
            refine jj_iload_n (pc := 87) 3 dX7_refer_87 rfl rfl ?_
            refine jj_callVr (pc := 88) _ (c_X6_addReference l D cA ob ro ar _ _ _ _) dX7_refer_88 gX7_refer_X6_addReference jm_X6_addReference rfl (by decide) 1 jq_1 rfl rfl rfl (Nat.le_of_ble_eq_true rfl) ⟨Nat.zero_le _, Nat.zero_le _⟩ ?_
            refine jjx_iret (pc := 91) dX7_refer_91 (Nat.zero_le _) (Nat.zero_le _) ?_
            have e11 := bI_1 h11
            have e18 := bI_1 h18
            have e54 := bI_0 h54
            have e68 := bI_0 h68
            exact ⟨by simp [gRefer, e11, e18, h43, e54, e68], rfl, rfl⟩
          · refine jjx_throw (pc := 71) "the piece has 3 references, is of a patch, or is laid" hl0 jxc_ISE fx_X7_refer_ISE (by decide +kernel) dX7_refer_71 dX7_refer_74 dX7_refer_75 dX7_refer_77 dX7_refer_80 (by decide) (Nat.le_of_ble_eq_true rfl) ?_
            have e11 := bI_1 h11
            have e18 := bI_1 h18
            have e54 := bI_0 h54
            have e68 := bI_1 h68
            exact ⟨by simp [gRefer, e11, e18, h43, e54, e68], rfl⟩
    · refine jjx_throw (pc := 21) "no such piece, or symbol" hl0 jxc_IOB fx_X7_refer_IOB (by decide +kernel) dX7_refer_21 dX7_refer_24 dX7_refer_25 dX7_refer_27 dX7_refer_30 (by decide) (Nat.le_of_ble_eq_true rfl) ?_
      have e11 := bI_1 h11
      have e18 := bI_0 h18
      exact ⟨by simp [gRefer, e11, e18], rfl⟩
def gReach (_ : jS) (r : Int32) : Option String := if mRch r = true then none else some "java/lang/IllegalArgumentException"
theorem fx_X7_reach_IAE : jXwd RX7 wsX7_reach 90 94 "java/lang/IllegalArgumentException" := ⟨by decide +kernel, by decide +kernel, by decide +kernel⟩
set_option maxHeartbeats 4000000 in
theorem c_X7_reach (l : Launch) (hl0 : l.stackTraces = false) (D : va_G) (cA : ClassId) (ob ro ar : Nat → Nat) (S : jS) (r : Int32) : jjConX l yX7_reach wsX7_reach 6 D cA [.ref (ob 0), .int r] (jW cA ob ro ar S) 1 6 (fun r0 w0 => gReach S r = none ∧ r0 = some (.int (S.1 0)) ∧ w0 = jW cA ob ro ar (js S 0 r)) (fun E w0 => gReach S r = some E ∧ w0 = jW cA ob ro ar S) := by
  refine jjConX_of (own := RX7) (cc := cX7_reach) (nL := 3) (rt := (some .int)) [some (.ref (ob 0)), some (.int r), none] jm_X7_reach (by decide +kernel) rfl (Nat.le_of_ble_eq_true rfl) rfl ?_
  refine jj_iload_n (pc := 0) 1 dX7_reach_0 rfl rfl ?_
  refine jj_callSr (pc := 1) _ (c_X7_isReach l D cA ob ro ar _ _) dX7_reach_1 gX7_reach_X7_isReach jm_X7_isReach (by decide) rfl rfl (Nat.le_of_ble_eq_true rfl) ⟨Nat.zero_le _, Nat.zero_le _⟩ ?_
  refine jj_if_ne (pc := 4) 17 dX7_reach_4 (by decide) (fun h4 => ?_) (fun h4 => ?_)
  · refine jj_aload_n (pc := 17) 0 dX7_reach_17 rfl rfl ?_
    refine jj_g_0_7 (pc := 18) dX7_reach_18 fd_X7_reach_56 ?_
    refine jj_istore_n_2 (pc := 21) dX7_reach_21 rfl rfl (by decide) ?_
    refine jj_aload_n (pc := 22) 0 dX7_reach_22 rfl rfl ?_
    refine jj_iload_n (pc := 23) 1 dX7_reach_23 rfl rfl ?_
    refine jj_p_0_7 (pc := 24) dX7_reach_24 fd_X7_reach_56 ?_
    refine jj_iload_n (pc := 27) 2 dX7_reach_27 rfl rfl ?_
    refine jjx_iret (pc := 28) dX7_reach_28 (Nat.zero_le _) (Nat.zero_le _) ?_
    have e4 := bI_1 h4
    exact ⟨by simp [gReach, e4], rfl, rfl⟩
  · refine jjx_throw (pc := 7) "reach is not 5 to 100" hl0 jxc_IAE fx_X7_reach_IAE (by decide +kernel) dX7_reach_7 dX7_reach_10 dX7_reach_11 dX7_reach_13 dX7_reach_16 (by decide) (Nat.le_of_ble_eq_true rfl) ?_
    have e4 := bI_0 h4
    exact ⟨by simp [gReach, e4], rfl⟩
def gLink (S : jS) : Option String := if 0 < mRuns S then some "java/lang/IllegalStateException" else none
def lnk (S : jS) : jS := if (dS1 S).1 3 = 0 then js (jBegin (dS1 S)) 18 0 else dS1 S
theorem fx_X7_link_ISE : jXwd RX7 wsX7_link 63 67 "java/lang/IllegalStateException" := ⟨by decide +kernel, by decide +kernel, by decide +kernel⟩
set_option maxHeartbeats 4000000 in
theorem c_X7_link (l : Launch) (hl0 : l.stackTraces = false) (D : va_G) (cA : ClassId) (ob ro ar : Nat → Nat) (S : jS)  : jjConX l yX7_link wsX7_link 6 D cA [.ref (ob 0)] (jW cA ob ro ar S) 1 6 (fun r0 w0 => gLink S = none ∧ r0 = some (.int ((lnk S).1 3)) ∧ w0 = jW cA ob ro ar (lnk S)) (fun E w0 => gLink S = some E ∧ w0 = jW cA ob ro ar S) := by
  refine jjConX_of (own := RX7) (cc := cX7_link) (nL := 1) (rt := (some .int)) [some (.ref (ob 0))] jm_X7_link (by decide +kernel) rfl (Nat.le_of_ble_eq_true rfl) rfl ?_
  refine jj_aload_n (pc := 0) 0 dX7_link_0 rfl rfl ?_
  refine jj_g_0_4 (pc := 1) dX7_link_1 fd_X7_link_36 ?_
  refine jj_callVr (pc := 4) _ (c_X5_count l D cA ob ro ar _) dX7_link_4 gX7_link_X5_count jm_X5_count rfl (by decide) 5 jq_5 rfl rfl rfl (Nat.le_of_ble_eq_true rfl) ⟨Nat.zero_le _, Nat.zero_le _⟩ ?_
  refine jj_if_le (pc := 7) 20 dX7_link_7 (by decide) (fun h7 => ?_) (fun h7 => ?_)
  · refine jj_aload_n (pc := 20) 0 dX7_link_20 rfl rfl ?_
    refine jj_g_0_1 (pc := 21) dX7_link_21 fd_X7_link_19 ?_
    refine jj_aload_n (pc := 24) 0 dX7_link_24 rfl rfl ?_
    refine jj_g_0_0 (pc := 25) dX7_link_25 fd_X7_link_12 ?_
    refine jj_aload_n (pc := 28) 0 dX7_link_28 rfl rfl ?_
    refine jj_g_0_7 (pc := 29) dX7_link_29 fd_X7_link_56 ?_
    refine jj_iconst (pc := 32) (v := (-1)) dX7_link_32 rfl ?_
    refine jj_callVv (pc := 33) _ (c_X2_attempt l D cA ob ro ar _ _ _) dX7_link_33 gX7_link_X2_attempt jm_X2_attempt rfl (by decide) 2 jq_2 rfl rfl rfl (Nat.le_of_ble_eq_true rfl) ⟨Nat.zero_le _, Nat.zero_le _⟩ ?_
    refine jj_aload_n (pc := 36) 0 dX7_link_36 rfl rfl ?_
    refine jj_g_0_1 (pc := 37) dX7_link_37 fd_X7_link_19 ?_
    refine jj_g_2_3 (pc := 40) dX7_link_40 fd_X7_link_146 ?_
    refine jj_if_ne (pc := 43) 71 dX7_link_43 (by decide) (fun h43 => ?_) (fun h43 => ?_)
    · refine jj_aload_n (pc := 71) 0 dX7_link_71 rfl rfl ?_
      refine jj_g_0_1 (pc := 72) dX7_link_72 fd_X7_link_19 ?_
      refine jj_g_2_3 (pc := 75) dX7_link_75 fd_X7_link_146 ?_
      refine jjx_iret (pc := 78) dX7_link_78 (Nat.zero_le _) (Nat.zero_le _) ?_
      have e1 : dS1 S = lkTry S (S.1 0) (-1) := rfl
      rw [← e1] at h43
      have e2 : lnk S = dS1 S := if_neg h43
      exact ⟨by simp [gLink, h7, h43], by rw [e2, e1]; try rfl, by rw [e2, e1]⟩
    · refine jj_aload_n (pc := 46) 0 dX7_link_46 rfl rfl ?_
      refine jj_g_0_2 (pc := 47) dX7_link_47 fd_X7_link_26 ?_
      refine jj_aload_n (pc := 50) 0 dX7_link_50 rfl rfl ?_
      refine jj_g_0_0 (pc := 51) dX7_link_51 fd_X7_link_12 ?_
      refine jj_aload_n (pc := 54) 0 dX7_link_54 rfl rfl ?_
      refine jj_g_0_1 (pc := 55) dX7_link_55 fd_X7_link_19 ?_
      refine jj_g_2_0 (pc := 58) dX7_link_58 fd_X7_link_149 ?_
      refine jj_callVv (pc := 61) _ (c_X0_begin l D cA ob ro ar _) dX7_link_61 gX7_link_X0_begin jm_X0_begin rfl (by decide) 3 jq_3 rfl rfl rfl (Nat.le_of_ble_eq_true rfl) ⟨Nat.zero_le _, Nat.zero_le _⟩ ?_
      refine jj_aload_n (pc := 64) 0 dX7_link_64 rfl rfl ?_
      refine jj_g_0_5 (pc := 65) dX7_link_65 fd_X7_link_43 ?_
      refine jj_callVv (pc := 68) _ (c_X3_forget l D cA ob ro ar _) dX7_link_68 gX7_link_X3_forget jm_X3_forget rfl (by decide) 6 jq_6 rfl rfl rfl (Nat.le_of_ble_eq_true rfl) ⟨Nat.zero_le _, Nat.zero_le _⟩ ?_
      refine jj_aload_n (pc := 71) 0 dX7_link_71 rfl rfl ?_
      refine jj_g_0_1 (pc := 72) dX7_link_72 fd_X7_link_19 ?_
      refine jj_g_2_3 (pc := 75) dX7_link_75 fd_X7_link_146 ?_
      refine jjx_iret (pc := 78) dX7_link_78 (Nat.zero_le _) (Nat.zero_le _) ?_
      have e1 : dS1 S = lkTry S (S.1 0) (-1) := rfl
      rw [← e1] at h43
      have e2 : lnk S = js (jBegin (dS1 S)) 18 0 := if_pos h43
      exact ⟨by simp [gLink, h7, h43], by rw [e2, e1]; try rfl, by rw [e2, e1]⟩
  · refine jjx_throw (pc := 10) "there is a run" hl0 jxc_ISE fx_X7_link_ISE (by decide +kernel) dX7_link_10 dX7_link_13 dX7_link_14 dX7_link_16 dX7_link_19 (by decide) (Nat.le_of_ble_eq_true rfl) ?_
    exact ⟨by simp [gLink, h7], rfl⟩
def gFault (S : jS) (k w : Int32) : Option String := if mWithin k ((dS1 S).1 3) = true then (if mWithin w 2 = true then none else some "java/lang/IllegalArgumentException") else some "java/lang/IndexOutOfBoundsException"
theorem fx_X7_fault_IOB : jXwd RX7 wsX7_fault 82 86 "java/lang/IndexOutOfBoundsException" := ⟨by decide +kernel, by decide +kernel, by decide +kernel⟩
theorem fx_X7_fault_IAE : jXwd RX7 wsX7_fault 90 94 "java/lang/IllegalArgumentException" := ⟨by decide +kernel, by decide +kernel, by decide +kernel⟩
set_option maxHeartbeats 4000000 in
theorem c_X7_fault (l : Launch) (hl0 : l.stackTraces = false) (D : va_G) (cA : ClassId) (ob ro ar : Nat → Nat) (S : jS) (k w : Int32) : jjConX l yX7_fault wsX7_fault 6 D cA [.ref (ob 0), .int k, .int w] (jW cA ob ro ar S) 1 6 (fun r0 w0 => gFault S k w = none ∧ r0 = some (.int (tFault (dS1 S) k w)) ∧ w0 = jW cA ob ro ar (dS1 S)) (fun E w0 => gFault S k w = some E ∧ w0 = jW cA ob ro ar (dS1 S)) := by
  refine jjConX_of (own := RX7) (cc := cX7_fault) (nL := 3) (rt := (some .int)) [some (.ref (ob 0)), some (.int k), some (.int w)] jm_X7_fault (by decide +kernel) rfl (Nat.le_of_ble_eq_true rfl) rfl ?_
  refine jj_aload_n (pc := 0) 0 dX7_fault_0 rfl rfl ?_
  refine jj_g_0_1 (pc := 1) dX7_fault_1 fd_X7_fault_19 ?_
  refine jj_aload_n (pc := 4) 0 dX7_fault_4 rfl rfl ?_
  refine jj_g_0_0 (pc := 5) dX7_fault_5 fd_X7_fault_12 ?_
  refine jj_aload_n (pc := 8) 0 dX7_fault_8 rfl rfl ?_
  refine jj_g_0_7 (pc := 9) dX7_fault_9 fd_X7_fault_56 ?_
  refine jj_iconst (pc := 12) (v := (-1)) dX7_fault_12 rfl ?_
  refine jj_callVv (pc := 13) _ (c_X2_attempt l D cA ob ro ar _ _ _) dX7_fault_13 gX7_fault_X2_attempt jm_X2_attempt rfl (by decide) 2 jq_2 rfl rfl rfl (Nat.le_of_ble_eq_true rfl) ⟨Nat.zero_le _, Nat.zero_le _⟩ ?_
  refine jj_iload_n (pc := 16) 1 dX7_fault_16 rfl rfl ?_
  refine jj_aload_n (pc := 17) 0 dX7_fault_17 rfl rfl ?_
  refine jj_g_0_1 (pc := 18) dX7_fault_18 fd_X7_fault_19 ?_
  refine jj_g_2_3 (pc := 21) dX7_fault_21 fd_X7_fault_146 ?_
  refine jj_callSr (pc := 24) _ (c_X7_isWithin l D cA ob ro ar _ _ _) dX7_fault_24 gX7_fault_X7_isWithin jm_X7_isWithin (by decide) rfl rfl (Nat.le_of_ble_eq_true rfl) ⟨Nat.zero_le _, Nat.zero_le _⟩ ?_
  refine jj_if_ne (pc := 27) 40 dX7_fault_27 (by decide) (fun h27 => ?_) (fun h27 => ?_)
  · refine jj_iload_n (pc := 40) 2 dX7_fault_40 rfl rfl ?_
    refine jj_iconst (pc := 41) (v := 2) dX7_fault_41 rfl ?_
    refine jj_callSr (pc := 42) _ (c_X7_isWithin l D cA ob ro ar _ _ _) dX7_fault_42 gX7_fault_X7_isWithin jm_X7_isWithin (by decide) rfl rfl (Nat.le_of_ble_eq_true rfl) ⟨Nat.zero_le _, Nat.zero_le _⟩ ?_
    refine jj_if_ne (pc := 45) 58 dX7_fault_45 (by decide) (fun h45 => ?_) (fun h45 => ?_)
    · refine jj_aload_n (pc := 58) 0 dX7_fault_58 rfl rfl ?_
      refine jj_iload_n (pc := 59) 1 dX7_fault_59 rfl rfl ?_
      refine jj_iload_n (pc := 60) 2 dX7_fault_60 rfl rfl ?_
      refine jj_callVr (pc := 61) _ (c_X7_tellFault l D cA ob ro ar _ _ _) dX7_fault_61 gX7_fault_X7_tellFault jm_X7_tellFault rfl (by decide) 0 jq_0 rfl rfl rfl (Nat.le_of_ble_eq_true rfl) ⟨Nat.zero_le _, Nat.zero_le _⟩ ?_
      refine jjx_iret (pc := 64) dX7_fault_64 (Nat.zero_le _) (Nat.zero_le _) ?_
      have e27 := bI_1 h27
      have e45 := bI_1 h45
      exact ⟨by simp [gFault, e27, e45, dS1], rfl, rfl⟩
    · refine jjx_throw (pc := 48) "what is not 0 to 1" hl0 jxc_IAE fx_X7_fault_IAE (by decide +kernel) dX7_fault_48 dX7_fault_51 dX7_fault_52 dX7_fault_54 dX7_fault_57 (by decide) (Nat.le_of_ble_eq_true rfl) ?_
      have e27 := bI_1 h27
      have e45 := bI_0 h45
      exact ⟨by simp [gFault, e27, e45, dS1], rfl⟩
  · refine jjx_throw (pc := 30) "no such fault" hl0 jxc_IOB fx_X7_fault_IOB (by decide +kernel) dX7_fault_30 dX7_fault_33 dX7_fault_34 dX7_fault_36 dX7_fault_39 (by decide) (Nat.le_of_ble_eq_true rfl) ?_
    have e27 := bI_0 h27
    exact ⟨by simp [gFault, e27, dS1], rfl⟩
def gOfSymbol (_ : jS) (y w : Int32) : Option String := if mSym y = true then (if mWithin w 4 = true then none else some "java/lang/IllegalArgumentException") else some "java/lang/IndexOutOfBoundsException"
theorem fx_X7_ofSymbol_IOB : jXwd RX7 wsX7_ofSymbol 82 86 "java/lang/IndexOutOfBoundsException" := ⟨by decide +kernel, by decide +kernel, by decide +kernel⟩
theorem fx_X7_ofSymbol_IAE : jXwd RX7 wsX7_ofSymbol 90 94 "java/lang/IllegalArgumentException" := ⟨by decide +kernel, by decide +kernel, by decide +kernel⟩
set_option maxHeartbeats 4000000 in
theorem c_X7_ofSymbol (l : Launch) (hl0 : l.stackTraces = false) (D : va_G) (cA : ClassId) (ob ro ar : Nat → Nat) (S : jS) (y w : Int32) : jjConX l yX7_ofSymbol wsX7_ofSymbol 6 D cA [.ref (ob 0), .int y, .int w] (jW cA ob ro ar S) 1 6 (fun r0 w0 => gOfSymbol S y w = none ∧ r0 = some (.int (tSymbol S y w)) ∧ w0 = jW cA ob ro ar S) (fun E w0 => gOfSymbol S y w = some E ∧ w0 = jW cA ob ro ar S) := by
  refine jjConX_of (own := RX7) (cc := cX7_ofSymbol) (nL := 3) (rt := (some .int)) [some (.ref (ob 0)), some (.int y), some (.int w)] jm_X7_ofSymbol (by decide +kernel) rfl (Nat.le_of_ble_eq_true rfl) rfl ?_
  refine jj_iload_n (pc := 0) 1 dX7_ofSymbol_0 rfl rfl ?_
  refine jj_callSr (pc := 1) _ (c_X7_isSymbol l D cA ob ro ar _ _) dX7_ofSymbol_1 gX7_ofSymbol_X7_isSymbol jm_X7_isSymbol (by decide) rfl rfl (Nat.le_of_ble_eq_true rfl) ⟨Nat.zero_le _, Nat.zero_le _⟩ ?_
  refine jj_if_ne (pc := 4) 17 dX7_ofSymbol_4 (by decide) (fun h4 => ?_) (fun h4 => ?_)
  · refine jj_iload_n (pc := 17) 2 dX7_ofSymbol_17 rfl rfl ?_
    refine jj_iconst (pc := 18) (v := 4) dX7_ofSymbol_18 rfl ?_
    refine jj_callSr (pc := 19) _ (c_X7_isWithin l D cA ob ro ar _ _ _) dX7_ofSymbol_19 gX7_ofSymbol_X7_isWithin jm_X7_isWithin (by decide) rfl rfl (Nat.le_of_ble_eq_true rfl) ⟨Nat.zero_le _, Nat.zero_le _⟩ ?_
    refine jj_if_ne (pc := 22) 35 dX7_ofSymbol_22 (by decide) (fun h22 => ?_) (fun h22 => ?_)
    · refine jj_aload_n (pc := 35) 0 dX7_ofSymbol_35 rfl rfl ?_
      refine jj_iload_n (pc := 36) 1 dX7_ofSymbol_36 rfl rfl ?_
      refine jj_iload_n (pc := 37) 2 dX7_ofSymbol_37 rfl rfl ?_
      refine jj_callVr (pc := 38) _ (c_X7_tellSymbol l D cA ob ro ar _ _ _) dX7_ofSymbol_38 gX7_ofSymbol_X7_tellSymbol jm_X7_tellSymbol rfl (by decide) 0 jq_0 rfl rfl rfl (Nat.le_of_ble_eq_true rfl) ⟨Nat.zero_le _, Nat.zero_le _⟩ ?_
      refine jjx_iret (pc := 41) dX7_ofSymbol_41 (Nat.zero_le _) (Nat.zero_le _) ?_
      have e4 := bI_1 h4
      have e22 := bI_1 h22
      exact ⟨by simp [gOfSymbol, e4, e22], rfl, rfl⟩
    · refine jjx_throw (pc := 25) "what is not 0 to 3" hl0 jxc_IAE fx_X7_ofSymbol_IAE (by decide +kernel) dX7_ofSymbol_25 dX7_ofSymbol_28 dX7_ofSymbol_29 dX7_ofSymbol_31 dX7_ofSymbol_34 (by decide) (Nat.le_of_ble_eq_true rfl) ?_
      have e4 := bI_1 h4
      have e22 := bI_0 h22
      exact ⟨by simp [gOfSymbol, e4, e22], rfl⟩
  · refine jjx_throw (pc := 7) "no such symbol" hl0 jxc_IOB fx_X7_ofSymbol_IOB (by decide +kernel) dX7_ofSymbol_7 dX7_ofSymbol_10 dX7_ofSymbol_11 dX7_ofSymbol_13 dX7_ofSymbol_16 (by decide) (Nat.le_of_ble_eq_true rfl) ?_
    have e4 := bI_0 h4
    exact ⟨by simp [gOfSymbol, e4], rfl⟩
def gOfPiece (S : jS) (p w : Int32) : Option String := if mWithin p (S.1 2) = true then (if mWithin w 7 = true then none else some "java/lang/IllegalArgumentException") else some "java/lang/IndexOutOfBoundsException"
theorem fx_X7_ofPiece_IOB : jXwd RX7 wsX7_ofPiece 82 86 "java/lang/IndexOutOfBoundsException" := ⟨by decide +kernel, by decide +kernel, by decide +kernel⟩
theorem fx_X7_ofPiece_IAE : jXwd RX7 wsX7_ofPiece 90 94 "java/lang/IllegalArgumentException" := ⟨by decide +kernel, by decide +kernel, by decide +kernel⟩
set_option maxHeartbeats 4000000 in
theorem c_X7_ofPiece (l : Launch) (hl0 : l.stackTraces = false) (D : va_G) (cA : ClassId) (ob ro ar : Nat → Nat) (S : jS) (p w : Int32) : jjConX l yX7_ofPiece wsX7_ofPiece 6 D cA [.ref (ob 0), .int p, .int w] (jW cA ob ro ar S) 1 6 (fun r0 w0 => gOfPiece S p w = none ∧ r0 = some (.int (tPiece S p w)) ∧ w0 = jW cA ob ro ar S) (fun E w0 => gOfPiece S p w = some E ∧ w0 = jW cA ob ro ar S) := by
  refine jjConX_of (own := RX7) (cc := cX7_ofPiece) (nL := 3) (rt := (some .int)) [some (.ref (ob 0)), some (.int p), some (.int w)] jm_X7_ofPiece (by decide +kernel) rfl (Nat.le_of_ble_eq_true rfl) rfl ?_
  refine jj_iload_n (pc := 0) 1 dX7_ofPiece_0 rfl rfl ?_
  refine jj_aload_n (pc := 1) 0 dX7_ofPiece_1 rfl rfl ?_
  refine jj_g_0_0 (pc := 2) dX7_ofPiece_2 fd_X7_ofPiece_12 ?_
  refine jj_g_1_9 (pc := 5) dX7_ofPiece_5 fd_X7_ofPiece_95 ?_
  refine jj_callSr (pc := 8) _ (c_X7_isWithin l D cA ob ro ar _ _ _) dX7_ofPiece_8 gX7_ofPiece_X7_isWithin jm_X7_isWithin (by decide) rfl rfl (Nat.le_of_ble_eq_true rfl) ⟨Nat.zero_le _, Nat.zero_le _⟩ ?_
  refine jj_if_ne (pc := 11) 24 dX7_ofPiece_11 (by decide) (fun h11 => ?_) (fun h11 => ?_)
  · refine jj_iload_n (pc := 24) 2 dX7_ofPiece_24 rfl rfl ?_
    refine jj_bipush (pc := 25) (v := 7) dX7_ofPiece_25 rfl ?_
    refine jj_callSr (pc := 27) _ (c_X7_isWithin l D cA ob ro ar _ _ _) dX7_ofPiece_27 gX7_ofPiece_X7_isWithin jm_X7_isWithin (by decide) rfl rfl (Nat.le_of_ble_eq_true rfl) ⟨Nat.zero_le _, Nat.zero_le _⟩ ?_
    refine jj_if_ne (pc := 30) 43 dX7_ofPiece_30 (by decide) (fun h30 => ?_) (fun h30 => ?_)
    · refine jj_aload_n (pc := 43) 0 dX7_ofPiece_43 rfl rfl ?_
      refine jj_iload_n (pc := 44) 1 dX7_ofPiece_44 rfl rfl ?_
      refine jj_iload_n (pc := 45) 2 dX7_ofPiece_45 rfl rfl ?_
      refine jj_callVr (pc := 46) _ (c_X7_tellPiece l D cA ob ro ar _ _ _) dX7_ofPiece_46 gX7_ofPiece_X7_tellPiece jm_X7_tellPiece rfl (by decide) 0 jq_0 rfl rfl rfl (Nat.le_of_ble_eq_true rfl) ⟨Nat.zero_le _, Nat.zero_le _⟩ ?_
      refine jjx_iret (pc := 49) dX7_ofPiece_49 (Nat.zero_le _) (Nat.zero_le _) ?_
      have e11 := bI_1 h11
      have e30 := bI_1 h30
      exact ⟨by simp [gOfPiece, e11, e30], rfl, rfl⟩
    · refine jjx_throw (pc := 33) "what is not 0 to 6" hl0 jxc_IAE fx_X7_ofPiece_IAE (by decide +kernel) dX7_ofPiece_33 dX7_ofPiece_36 dX7_ofPiece_37 dX7_ofPiece_39 dX7_ofPiece_42 (by decide) (Nat.le_of_ble_eq_true rfl) ?_
      have e11 := bI_1 h11
      have e30 := bI_0 h30
      exact ⟨by simp [gOfPiece, e11, e30], rfl⟩
  · refine jjx_throw (pc := 14) "no such piece" hl0 jxc_IOB fx_X7_ofPiece_IOB (by decide +kernel) dX7_ofPiece_14 dX7_ofPiece_17 dX7_ofPiece_18 dX7_ofPiece_20 dX7_ofPiece_23 (by decide) (Nat.le_of_ble_eq_true rfl) ?_
    have e11 := bI_0 h11
    exact ⟨by simp [gOfPiece, e11], rfl⟩
def gMap (_ : jS) (q w : Int32) : Option String := if mWithin q 200 = true then (if mWithin w 2 = true then none else some "java/lang/IllegalArgumentException") else some "java/lang/IndexOutOfBoundsException"
theorem fx_X7_map_IOB : jXwd RX7 wsX7_map 82 86 "java/lang/IndexOutOfBoundsException" := ⟨by decide +kernel, by decide +kernel, by decide +kernel⟩
theorem fx_X7_map_IAE : jXwd RX7 wsX7_map 90 94 "java/lang/IllegalArgumentException" := ⟨by decide +kernel, by decide +kernel, by decide +kernel⟩
set_option maxHeartbeats 4000000 in
theorem c_X7_map (l : Launch) (hl0 : l.stackTraces = false) (D : va_G) (cA : ClassId) (ob ro ar : Nat → Nat) (S : jS) (q w : Int32) : jjConX l yX7_map wsX7_map 6 D cA [.ref (ob 0), .int q, .int w] (jW cA ob ro ar S) 1 6 (fun r0 w0 => gMap S q w = none ∧ r0 = some (.int (tWord S q w)) ∧ w0 = jW cA ob ro ar S) (fun E w0 => gMap S q w = some E ∧ w0 = jW cA ob ro ar S) := by
  refine jjConX_of (own := RX7) (cc := cX7_map) (nL := 3) (rt := (some .int)) [some (.ref (ob 0)), some (.int q), some (.int w)] jm_X7_map (by decide +kernel) rfl (Nat.le_of_ble_eq_true rfl) rfl ?_
  refine jj_iload_n (pc := 0) 1 dX7_map_0 rfl rfl ?_
  refine jj_sipush (pc := 1) (v := 200) dX7_map_1 rfl ?_
  refine jj_callSr (pc := 4) _ (c_X7_isWithin l D cA ob ro ar _ _ _) dX7_map_4 gX7_map_X7_isWithin jm_X7_isWithin (by decide) rfl rfl (Nat.le_of_ble_eq_true rfl) ⟨Nat.zero_le _, Nat.zero_le _⟩ ?_
  refine jj_if_ne (pc := 7) 20 dX7_map_7 (by decide) (fun h7 => ?_) (fun h7 => ?_)
  · refine jj_iload_n (pc := 20) 2 dX7_map_20 rfl rfl ?_
    refine jj_iconst (pc := 21) (v := 2) dX7_map_21 rfl ?_
    refine jj_callSr (pc := 22) _ (c_X7_isWithin l D cA ob ro ar _ _ _) dX7_map_22 gX7_map_X7_isWithin jm_X7_isWithin (by decide) rfl rfl (Nat.le_of_ble_eq_true rfl) ⟨Nat.zero_le _, Nat.zero_le _⟩ ?_
    refine jj_if_ne (pc := 25) 38 dX7_map_25 (by decide) (fun h25 => ?_) (fun h25 => ?_)
    · refine jj_aload_n (pc := 38) 0 dX7_map_38 rfl rfl ?_
      refine jj_iload_n (pc := 39) 1 dX7_map_39 rfl rfl ?_
      refine jj_iload_n (pc := 40) 2 dX7_map_40 rfl rfl ?_
      refine jj_callVr (pc := 41) _ (c_X7_tellWord l D cA ob ro ar _ _ _) dX7_map_41 gX7_map_X7_tellWord jm_X7_tellWord rfl (by decide) 0 jq_0 rfl rfl rfl (Nat.le_of_ble_eq_true rfl) ⟨Nat.zero_le _, Nat.zero_le _⟩ ?_
      refine jjx_iret (pc := 44) dX7_map_44 (Nat.zero_le _) (Nat.zero_le _) ?_
      have e7 := bI_1 h7
      have e25 := bI_1 h25
      exact ⟨by simp [gMap, e7, e25], rfl, rfl⟩
    · refine jjx_throw (pc := 28) "what is not 0 to 1" hl0 jxc_IAE fx_X7_map_IAE (by decide +kernel) dX7_map_28 dX7_map_31 dX7_map_32 dX7_map_34 dX7_map_37 (by decide) (Nat.le_of_ble_eq_true rfl) ?_
      have e7 := bI_1 h7
      have e25 := bI_0 h25
      exact ⟨by simp [gMap, e7, e25], rfl⟩
  · refine jjx_throw (pc := 10) "no such word" hl0 jxc_IOB fx_X7_map_IOB (by decide +kernel) dX7_map_10 dX7_map_13 dX7_map_14 dX7_map_16 dX7_map_19 (by decide) (Nat.le_of_ble_eq_true rfl) ?_
    have e7 := bI_0 h7
    exact ⟨by simp [gMap, e7], rfl⟩
def gMany (_ : jS) (w : Int32) : Option String := if mWithin w 10 = true then none else some "java/lang/IllegalArgumentException"
theorem fx_X7_many_IAE : jXwd RX7 wsX7_many 90 94 "java/lang/IllegalArgumentException" := ⟨by decide +kernel, by decide +kernel, by decide +kernel⟩
set_option maxHeartbeats 4000000 in
theorem c_X7_many (l : Launch) (hl0 : l.stackTraces = false) (D : va_G) (cA : ClassId) (ob ro ar : Nat → Nat) (S : jS) (w : Int32) : jjConX l yX7_many wsX7_many 6 D cA [.ref (ob 0), .int w] (jW cA ob ro ar S) 1 6 (fun r0 w0 => gMany S w = none ∧ r0 = some (.int (tMany S w)) ∧ w0 = jW cA ob ro ar S) (fun E w0 => gMany S w = some E ∧ w0 = jW cA ob ro ar S) := by
  refine jjConX_of (own := RX7) (cc := cX7_many) (nL := 2) (rt := (some .int)) [some (.ref (ob 0)), some (.int w)] jm_X7_many (by decide +kernel) rfl (Nat.le_of_ble_eq_true rfl) rfl ?_
  refine jj_iload_n (pc := 0) 1 dX7_many_0 rfl rfl ?_
  refine jj_bipush (pc := 1) (v := 10) dX7_many_1 rfl ?_
  refine jj_callSr (pc := 3) _ (c_X7_isWithin l D cA ob ro ar _ _ _) dX7_many_3 gX7_many_X7_isWithin jm_X7_isWithin (by decide) rfl rfl (Nat.le_of_ble_eq_true rfl) ⟨Nat.zero_le _, Nat.zero_le _⟩ ?_
  refine jj_if_ne (pc := 6) 19 dX7_many_6 (by decide) (fun h6 => ?_) (fun h6 => ?_)
  · refine jj_aload_n (pc := 19) 0 dX7_many_19 rfl rfl ?_
    refine jj_iload_n (pc := 20) 1 dX7_many_20 rfl rfl ?_
    refine jj_callVr (pc := 21) _ (c_X7_tellMany l D cA ob ro ar _ _) dX7_many_21 gX7_many_X7_tellMany jm_X7_tellMany rfl (by decide) 0 jq_0 rfl rfl rfl (Nat.le_of_ble_eq_true rfl) ⟨Nat.zero_le _, Nat.zero_le _⟩ ?_
    refine jjx_iret (pc := 24) dX7_many_24 (Nat.zero_le _) (Nat.zero_le _) ?_
    have e6 := bI_1 h6
    exact ⟨by simp [gMany, e6], rfl, rfl⟩
  · refine jjx_throw (pc := 9) "what is not 0 to 9" hl0 jxc_IAE fx_X7_many_IAE (by decide +kernel) dX7_many_9 dX7_many_12 dX7_many_13 dX7_many_15 dX7_many_18 (by decide) (Nat.le_of_ble_eq_true rfl) ?_
    have e6 := bI_0 h6
    exact ⟨by simp [gMany, e6], rfl⟩
def gRun (S : jS) (y : Int32) : Option String := if mSym y = true then (if mStd S y = true ∧ mHeld S y = false ∧ mRuns S < 4 then none else some "java/lang/IllegalStateException") else some "java/lang/IndexOutOfBoundsException"
def jRun (S : jS) (y : Int32) : jS := jPush S (mFF S) (mStand S 1 y)
theorem fx_X7_run_ISE : jXwd RX7 wsX7_run 63 67 "java/lang/IllegalStateException" := ⟨by decide +kernel, by decide +kernel, by decide +kernel⟩
theorem fx_X7_run_IOB : jXwd RX7 wsX7_run 82 86 "java/lang/IndexOutOfBoundsException" := ⟨by decide +kernel, by decide +kernel, by decide +kernel⟩
set_option maxHeartbeats 4000000 in
theorem c_X7_run (l : Launch) (hl0 : l.stackTraces = false) (D : va_G) (cA : ClassId) (ob ro ar : Nat → Nat) (S : jS) (y : Int32) : jjConX l yX7_run wsX7_run 6 D cA [.ref (ob 0), .int y] (jW cA ob ro ar S) 1 6 (fun r0 w0 => gRun S y = none ∧ r0 = some (.int (mFF S)) ∧ w0 = jW cA ob ro ar (jRun S y)) (fun E w0 => gRun S y = some E ∧ w0 = jW cA ob ro ar S) := by
  refine jjConX_of (own := RX7) (cc := cX7_run) (nL := 3) (rt := (some .int)) [some (.ref (ob 0)), some (.int y), none] jm_X7_run (by decide +kernel) rfl (Nat.le_of_ble_eq_true rfl) rfl ?_
  refine jj_iload_n (pc := 0) 1 dX7_run_0 rfl rfl ?_
  refine jj_callSr (pc := 1) _ (c_X7_isSymbol l D cA ob ro ar _ _) dX7_run_1 gX7_run_X7_isSymbol jm_X7_isSymbol (by decide) rfl rfl (Nat.le_of_ble_eq_true rfl) ⟨Nat.zero_le _, Nat.zero_le _⟩ ?_
  refine jj_if_ne (pc := 4) 17 dX7_run_4 (by decide) (fun h4 => ?_) (fun h4 => ?_)
  · refine jj_aload_n (pc := 17) 0 dX7_run_17 rfl rfl ?_
    refine jj_iload_n (pc := 18) 1 dX7_run_18 rfl rfl ?_
    refine jj_callVr (pc := 19) _ (c_X7_isStanding l D cA ob ro ar _ _) dX7_run_19 gX7_run_X7_isStanding jm_X7_isStanding rfl (by decide) 0 jq_0 rfl rfl rfl (Nat.le_of_ble_eq_true rfl) ⟨Nat.zero_le _, Nat.zero_le _⟩ ?_
    refine jj_if_eq (pc := 22) 44 dX7_run_22 (by decide) (fun h22 => ?_) (fun h22 => ?_)
    · refine jjx_throw (pc := 44) "no image, nothing to run, a gate that holds, or 4 runs" hl0 jxc_ISE fx_X7_run_ISE (by decide +kernel) dX7_run_44 dX7_run_47 dX7_run_48 dX7_run_50 dX7_run_53 (by decide) (Nat.le_of_ble_eq_true rfl) ?_
      have e4 := bI_1 h4
      have e22 := bI_0 h22
      exact ⟨by simp [gRun, e4, e22], rfl⟩
    · refine jj_aload_n (pc := 25) 0 dX7_run_25 rfl rfl ?_
      refine jj_iload_n (pc := 26) 1 dX7_run_26 rfl rfl ?_
      refine jj_callVr (pc := 27) _ (c_X7_isHeld l D cA ob ro ar _ _) dX7_run_27 gX7_run_X7_isHeld jm_X7_isHeld rfl (by decide) 0 jq_0 rfl rfl rfl (Nat.le_of_ble_eq_true rfl) ⟨Nat.zero_le _, Nat.zero_le _⟩ ?_
      refine jj_if_ne (pc := 30) 44 dX7_run_30 (by decide) (fun h30 => ?_) (fun h30 => ?_)
      · refine jjx_throw (pc := 44) "no image, nothing to run, a gate that holds, or 4 runs" hl0 jxc_ISE fx_X7_run_ISE (by decide +kernel) dX7_run_44 dX7_run_47 dX7_run_48 dX7_run_50 dX7_run_53 (by decide) (Nat.le_of_ble_eq_true rfl) ?_
        have e4 := bI_1 h4
        have e22 := bI_1 h22
        have e30 := bI_1 h30
        exact ⟨by simp [gRun, e4, e22, e30], rfl⟩
      · refine jj_aload_n (pc := 33) 0 dX7_run_33 rfl rfl ?_
        refine jj_g_0_4 (pc := 34) dX7_run_34 fd_X7_run_36 ?_
        refine jj_callVr (pc := 37) _ (c_X5_count l D cA ob ro ar _) dX7_run_37 gX7_run_X5_count jm_X5_count rfl (by decide) 5 jq_5 rfl rfl rfl (Nat.le_of_ble_eq_true rfl) ⟨Nat.zero_le _, Nat.zero_le _⟩ ?_
        refine jj_iconst (pc := 40) (v := 4) dX7_run_40 rfl ?_
        refine jj_icmp_lt (pc := 41) 54 dX7_run_41 (by decide) (fun h41 => ?_) (fun h41 => ?_)
        · refine jj_aload_n (pc := 54) 0 dX7_run_54 rfl rfl ?_
          refine jj_g_0_4 (pc := 55) dX7_run_55 fd_X7_run_36 ?_
          refine jj_callVr (pc := 58) _ (c_X5_firstFree l D cA ob ro ar _) dX7_run_58 gX7_run_X5_firstFree jm_X5_firstFree rfl (by decide) 5 jq_5 rfl rfl rfl (Nat.le_of_ble_eq_true rfl) ⟨Nat.zero_le _, Nat.zero_le _⟩ ?_
          refine jj_istore_n_2 (pc := 61) dX7_run_61 rfl rfl (by decide) ?_
          refine jj_aload_n (pc := 62) 0 dX7_run_62 rfl rfl ?_
          refine jj_g_0_4 (pc := 63) dX7_run_63 fd_X7_run_36 ?_
          refine jj_iload_n (pc := 66) 2 dX7_run_66 rfl rfl ?_
          refine jj_aload_n (pc := 67) 0 dX7_run_67 rfl rfl ?_
          refine jj_g_0_2 (pc := 68) dX7_run_68 fd_X7_run_26 ?_
          refine jj_g_3_1 (pc := 71) dX7_run_71 fd_X7_run_116 ?_
          refine jj_g_8_3 (pc := 74) dX7_run_74 fd_X7_run_205 ?_
          refine jj_iload_n (pc := 77) 1 dX7_run_77 rfl rfl ?_
          refine jj_rget (pc := 78) (r := 17) (by decide) dX7_run_78 gX7_run_X4_get (by decide) (Nat.le_of_ble_eq_true rfl) ⟨Nat.zero_le _, Nat.zero_le _⟩ ?_
          refine jj_callVv (pc := 81) _ (c_X5_push l D cA ob ro ar _ _ _) dX7_run_81 gX7_run_X5_push jm_X5_push rfl (by decide) 5 jq_5 rfl rfl rfl (Nat.le_of_ble_eq_true rfl) ⟨Nat.zero_le _, Nat.zero_le _⟩ ?_
          refine jj_iload_n (pc := 84) 2 dX7_run_84 rfl rfl ?_
          refine jjx_iret (pc := 85) dX7_run_85 (Nat.zero_le _) (Nat.zero_le _) ?_
          have e4 := bI_1 h4
          have e22 := bI_1 h22
          have e30 := bI_0 h30
          exact ⟨by simp [gRun, e4, e22, e30, h41], rfl, rfl⟩
        · refine jjx_throw (pc := 44) "no image, nothing to run, a gate that holds, or 4 runs" hl0 jxc_ISE fx_X7_run_ISE (by decide +kernel) dX7_run_44 dX7_run_47 dX7_run_48 dX7_run_50 dX7_run_53 (by decide) (Nat.le_of_ble_eq_true rfl) ?_
          have e4 := bI_1 h4
          have e22 := bI_1 h22
          have e30 := bI_0 h30
          exact ⟨by simp [gRun, e4, e22, e30, h41], rfl⟩
  · refine jjx_throw (pc := 7) "no such symbol" hl0 jxc_IOB fx_X7_run_IOB (by decide +kernel) dX7_run_7 dX7_run_10 dX7_run_11 dX7_run_13 dX7_run_16 (by decide) (Nat.le_of_ble_eq_true rfl) ?_
    have e4 := bI_0 h4
    exact ⟨by simp [gRun, e4], rfl⟩
def gCall (S : jS) (r k : Int32) : Option String := if mThere S r = true ∧ mWithin k (jg S 6 (mTop S r)) = true then (if 8 ≤ mH S r ∨ mHeld S (mTarget S (mTop S r) k) = true then some "java/lang/IllegalStateException" else none) else some "java/lang/IndexOutOfBoundsException"
def jCall (S : jS) (r k : Int32) : jS := jPush S r (mStand S 1 (mTarget S (mTop S r) k))
theorem fx_X7_call_ISE : jXwd RX7 wsX7_call 63 67 "java/lang/IllegalStateException" := ⟨by decide +kernel, by decide +kernel, by decide +kernel⟩
theorem fx_X7_call_IOB : jXwd RX7 wsX7_call 82 86 "java/lang/IndexOutOfBoundsException" := ⟨by decide +kernel, by decide +kernel, by decide +kernel⟩
set_option maxHeartbeats 4000000 in
theorem c_X7_call (l : Launch) (hl0 : l.stackTraces = false) (D : va_G) (cA : ClassId) (ob ro ar : Nat → Nat) (S : jS) (r k : Int32) : jjConX l yX7_call wsX7_call 6 D cA [.ref (ob 0), .int r, .int k] (jW cA ob ro ar S) 1 6 (fun r0 w0 => gCall S r k = none ∧ r0 = some (.int (mTop (jCall S r k) r)) ∧ w0 = jW cA ob ro ar (jCall S r k)) (fun E w0 => gCall S r k = some E ∧ w0 = jW cA ob ro ar S) := by
  refine jjConX_of (own := RX7) (cc := cX7_call) (nL := 4) (rt := (some .int)) [some (.ref (ob 0)), some (.int r), some (.int k), none] jm_X7_call (by decide +kernel) rfl (Nat.le_of_ble_eq_true rfl) rfl ?_
  refine jj_aload_n (pc := 0) 0 dX7_call_0 rfl rfl ?_
  refine jj_g_0_4 (pc := 1) dX7_call_1 fd_X7_call_36 ?_
  refine jj_iload_n (pc := 4) 1 dX7_call_4 rfl rfl ?_
  refine jj_callVr (pc := 5) _ (c_X5_isThere l D cA ob ro ar _ _) dX7_call_5 gX7_call_X5_isThere jm_X5_isThere rfl (by decide) 5 jq_5 rfl rfl rfl (Nat.le_of_ble_eq_true rfl) ⟨Nat.zero_le _, Nat.zero_le _⟩ ?_
  refine jj_if_eq (pc := 8) 36 dX7_call_8 (by decide) (fun h8 => ?_) (fun h8 => ?_)
  · refine jjx_throw (pc := 36) "no such run, or reference" hl0 jxc_IOB fx_X7_call_IOB (by decide +kernel) dX7_call_36 dX7_call_39 dX7_call_40 dX7_call_42 dX7_call_45 (by decide) (Nat.le_of_ble_eq_true rfl) ?_
    have e8 := bI_0 h8
    exact ⟨by simp [gCall, e8, mH], rfl⟩
  · refine jj_iload_n (pc := 11) 2 dX7_call_11 rfl rfl ?_
    refine jj_aload_n (pc := 12) 0 dX7_call_12 rfl rfl ?_
    refine jj_g_0_0 (pc := 13) dX7_call_13 fd_X7_call_12 ?_
    refine jj_g_1_6 (pc := 16) dX7_call_16 fd_X7_call_106 ?_
    refine jj_aload_n (pc := 19) 0 dX7_call_19 rfl rfl ?_
    refine jj_g_0_4 (pc := 20) dX7_call_20 fd_X7_call_36 ?_
    refine jj_iload_n (pc := 23) 1 dX7_call_23 rfl rfl ?_
    refine jj_callVr (pc := 24) _ (c_X5_top l D cA ob ro ar _ _) dX7_call_24 gX7_call_X5_top jm_X5_top rfl (by decide) 5 jq_5 rfl rfl rfl (Nat.le_of_ble_eq_true rfl) ⟨Nat.zero_le _, Nat.zero_le _⟩ ?_
    refine jj_rget (pc := 27) (r := 6) (by decide) dX7_call_27 gX7_call_X4_get (by decide) (Nat.le_of_ble_eq_true rfl) ⟨Nat.zero_le _, Nat.zero_le _⟩ ?_
    refine jj_callSr (pc := 30) _ (c_X7_isWithin l D cA ob ro ar _ _ _) dX7_call_30 gX7_call_X7_isWithin jm_X7_isWithin (by decide) rfl rfl (Nat.le_of_ble_eq_true rfl) ⟨Nat.zero_le _, Nat.zero_le _⟩ ?_
    refine jj_if_ne (pc := 33) 46 dX7_call_33 (by decide) (fun h33 => ?_) (fun h33 => ?_)
    · refine jj_aload_n (pc := 46) 0 dX7_call_46 rfl rfl ?_
      refine jj_g_0_0 (pc := 47) dX7_call_47 fd_X7_call_12 ?_
      refine jj_aload_n (pc := 50) 0 dX7_call_50 rfl rfl ?_
      refine jj_g_0_4 (pc := 51) dX7_call_51 fd_X7_call_36 ?_
      refine jj_iload_n (pc := 54) 1 dX7_call_54 rfl rfl ?_
      refine jj_callVr (pc := 55) _ (c_X5_top l D cA ob ro ar _ _) dX7_call_55 gX7_call_X5_top jm_X5_top rfl (by decide) 5 jq_5 rfl rfl rfl (Nat.le_of_ble_eq_true rfl) ⟨Nat.zero_le _, Nat.zero_le _⟩ ?_
      refine jj_iload_n (pc := 58) 2 dX7_call_58 rfl rfl ?_
      refine jj_callVr (pc := 59) _ (c_X6_target l D cA ob ro ar _ _ _) dX7_call_59 gX7_call_X6_target jm_X6_target rfl (by decide) 1 jq_1 rfl rfl rfl (Nat.le_of_ble_eq_true rfl) ⟨Nat.zero_le _, Nat.zero_le _⟩ ?_
      refine jj_istore_n_3 (pc := 62) dX7_call_62 rfl rfl (by decide) ?_
      refine jj_aload_n (pc := 63) 0 dX7_call_63 rfl rfl ?_
      refine jj_g_0_4 (pc := 64) dX7_call_64 fd_X7_call_36 ?_
      refine jj_g_5_0 (pc := 67) dX7_call_67 fd_X7_call_222 ?_
      refine jj_iload_n (pc := 70) 1 dX7_call_70 rfl rfl ?_
      refine jj_rget (pc := 71) (r := 29) (by decide) dX7_call_71 gX7_call_X4_get (by decide) (Nat.le_of_ble_eq_true rfl) ⟨Nat.zero_le _, Nat.zero_le _⟩ ?_
      refine jj_bipush (pc := 74) (v := 8) dX7_call_74 rfl ?_
      refine jj_icmp_ge (pc := 76) 87 dX7_call_76 (by decide) (fun h76 => ?_) (fun h76 => ?_)
      · refine jjx_throw (pc := 87) "the stack has 8, or a gate holds" hl0 jxc_ISE fx_X7_call_ISE (by decide +kernel) dX7_call_87 dX7_call_90 dX7_call_91 dX7_call_93 dX7_call_96 (by decide) (Nat.le_of_ble_eq_true rfl) ?_
        have e8 := bI_1 h8
        have e33 := bI_1 h33
        exact ⟨by simp [gCall, e8, e33, h76, mH], rfl⟩
      · refine jj_aload_n (pc := 79) 0 dX7_call_79 rfl rfl ?_
        refine jj_iload_n (pc := 80) 3 dX7_call_80 rfl rfl ?_
        refine jj_callVr (pc := 81) _ (c_X7_isHeld l D cA ob ro ar _ _) dX7_call_81 gX7_call_X7_isHeld jm_X7_isHeld rfl (by decide) 0 jq_0 rfl rfl rfl (Nat.le_of_ble_eq_true rfl) ⟨Nat.zero_le _, Nat.zero_le _⟩ ?_
        refine jj_if_eq (pc := 84) 97 dX7_call_84 (by decide) (fun h84 => ?_) (fun h84 => ?_)
        · refine jj_aload_n (pc := 97) 0 dX7_call_97 rfl rfl ?_
          refine jj_g_0_4 (pc := 98) dX7_call_98 fd_X7_call_36 ?_
          refine jj_iload_n (pc := 101) 1 dX7_call_101 rfl rfl ?_
          refine jj_aload_n (pc := 102) 0 dX7_call_102 rfl rfl ?_
          refine jj_g_0_2 (pc := 103) dX7_call_103 fd_X7_call_26 ?_
          refine jj_g_3_1 (pc := 106) dX7_call_106 fd_X7_call_116 ?_
          refine jj_g_8_3 (pc := 109) dX7_call_109 fd_X7_call_205 ?_
          refine jj_iload_n (pc := 112) 3 dX7_call_112 rfl rfl ?_
          refine jj_rget (pc := 113) (r := 17) (by decide) dX7_call_113 gX7_call_X4_get (by decide) (Nat.le_of_ble_eq_true rfl) ⟨Nat.zero_le _, Nat.zero_le _⟩ ?_
          refine jj_callVv (pc := 116) _ (c_X5_push l D cA ob ro ar _ _ _) dX7_call_116 gX7_call_X5_push jm_X5_push rfl (by decide) 5 jq_5 rfl rfl rfl (Nat.le_of_ble_eq_true rfl) ⟨Nat.zero_le _, Nat.zero_le _⟩ ?_
          refine jj_aload_n (pc := 119) 0 dX7_call_119 rfl rfl ?_
          refine jj_g_0_4 (pc := 120) dX7_call_120 fd_X7_call_36 ?_
          refine jj_iload_n (pc := 123) 1 dX7_call_123 rfl rfl ?_
          refine jj_callVr (pc := 124) _ (c_X5_top l D cA ob ro ar _ _) dX7_call_124 gX7_call_X5_top jm_X5_top rfl (by decide) 5 jq_5 rfl rfl rfl (Nat.le_of_ble_eq_true rfl) ⟨Nat.zero_le _, Nat.zero_le _⟩ ?_
          refine jjx_iret (pc := 127) dX7_call_127 (Nat.zero_le _) (Nat.zero_le _) ?_
          have e8 := bI_1 h8
          have e33 := bI_1 h33
          have e84 := bI_0 h84
          exact ⟨by simp [gCall, e8, e33, h76, e84, mH], rfl, rfl⟩
        · refine jjx_throw (pc := 87) "the stack has 8, or a gate holds" hl0 jxc_ISE fx_X7_call_ISE (by decide +kernel) dX7_call_87 dX7_call_90 dX7_call_91 dX7_call_93 dX7_call_96 (by decide) (Nat.le_of_ble_eq_true rfl) ?_
          have e8 := bI_1 h8
          have e33 := bI_1 h33
          have e84 := bI_1 h84
          exact ⟨by simp [gCall, e8, e33, h76, e84, mH], rfl⟩
    · refine jjx_throw (pc := 36) "no such run, or reference" hl0 jxc_IOB fx_X7_call_IOB (by decide +kernel) dX7_call_36 dX7_call_39 dX7_call_40 dX7_call_42 dX7_call_45 (by decide) (Nat.le_of_ble_eq_true rfl) ?_
      have e8 := bI_1 h8
      have e33 := bI_0 h33
      exact ⟨by simp [gCall, e8, e33, mH], rfl⟩
def gBack (S : jS) (r : Int32) : Option String := if mThere S r = true then none else some "java/lang/IndexOutOfBoundsException"
def jBack (S : jS) (r : Int32) : jS := jCarryAll (jPop S r)
theorem fx_X7_back_IOB : jXwd RX7 wsX7_back 82 86 "java/lang/IndexOutOfBoundsException" := ⟨by decide +kernel, by decide +kernel, by decide +kernel⟩
set_option maxHeartbeats 4000000 in
theorem c_X7_back (l : Launch) (hl0 : l.stackTraces = false) (D : va_G) (cA : ClassId) (ob ro ar : Nat → Nat) (S : jS) (r : Int32) : jjConX l yX7_back wsX7_back 6 D cA [.ref (ob 0), .int r] (jW cA ob ro ar S) 1 6 (fun r0 w0 => gBack S r = none ∧ r0 = some (.int (mTop (jBack S r) r)) ∧ w0 = jW cA ob ro ar (jBack S r)) (fun E w0 => gBack S r = some E ∧ w0 = jW cA ob ro ar S) := by
  refine jjConX_of (own := RX7) (cc := cX7_back) (nL := 2) (rt := (some .int)) [some (.ref (ob 0)), some (.int r)] jm_X7_back (by decide +kernel) rfl (Nat.le_of_ble_eq_true rfl) rfl ?_
  refine jj_aload_n (pc := 0) 0 dX7_back_0 rfl rfl ?_
  refine jj_g_0_4 (pc := 1) dX7_back_1 fd_X7_back_36 ?_
  refine jj_iload_n (pc := 4) 1 dX7_back_4 rfl rfl ?_
  refine jj_callVr (pc := 5) _ (c_X5_isThere l D cA ob ro ar _ _) dX7_back_5 gX7_back_X5_isThere jm_X5_isThere rfl (by decide) 5 jq_5 rfl rfl rfl (Nat.le_of_ble_eq_true rfl) ⟨Nat.zero_le _, Nat.zero_le _⟩ ?_
  refine jj_if_ne (pc := 8) 21 dX7_back_8 (by decide) (fun h8 => ?_) (fun h8 => ?_)
  · refine jj_aload_n (pc := 21) 0 dX7_back_21 rfl rfl ?_
    refine jj_g_0_4 (pc := 22) dX7_back_22 fd_X7_back_36 ?_
    refine jj_iload_n (pc := 25) 1 dX7_back_25 rfl rfl ?_
    refine jj_callVv (pc := 26) _ (c_X5_pop l D cA ob ro ar _ _) dX7_back_26 gX7_back_X5_pop jm_X5_pop rfl (by decide) 5 jq_5 rfl rfl rfl (Nat.le_of_ble_eq_true rfl) ⟨Nat.zero_le _, Nat.zero_le _⟩ ?_
    refine jj_aload_n (pc := 29) 0 dX7_back_29 rfl rfl ?_
    refine jj_callVv (pc := 30) _ (c_X7_carryOutPatches l D cA ob ro ar _) dX7_back_30 gX7_back_X7_carryOutPatches jm_X7_carryOutPatches rfl (by decide) 0 jq_0 rfl rfl rfl (Nat.le_of_ble_eq_true rfl) ⟨Nat.zero_le _, Nat.zero_le _⟩ ?_
    refine jj_aload_n (pc := 33) 0 dX7_back_33 rfl rfl ?_
    refine jj_g_0_4 (pc := 34) dX7_back_34 fd_X7_back_36 ?_
    refine jj_iload_n (pc := 37) 1 dX7_back_37 rfl rfl ?_
    refine jj_callVr (pc := 38) _ (c_X5_top l D cA ob ro ar _ _) dX7_back_38 gX7_back_X5_top jm_X5_top rfl (by decide) 5 jq_5 rfl rfl rfl (Nat.le_of_ble_eq_true rfl) ⟨Nat.zero_le _, Nat.zero_le _⟩ ?_
    refine jjx_iret (pc := 41) dX7_back_41 (Nat.zero_le _) (Nat.zero_le _) ?_
    have e8 := bI_1 h8
    exact ⟨by simp [gBack, e8], rfl, rfl⟩
  · refine jjx_throw (pc := 11) "no such run" hl0 jxc_IOB fx_X7_back_IOB (by decide +kernel) dX7_back_11 dX7_back_14 dX7_back_15 dX7_back_17 dX7_back_20 (by decide) (Nat.le_of_ble_eq_true rfl) ?_
    have e8 := bI_0 h8
    exact ⟨by simp [gBack, e8], rfl⟩
def gStack (S : jS) (r k : Int32) : Option String := if mThere S r = true ∧ mWithin k (mH S r) = true then none else some "java/lang/IndexOutOfBoundsException"
theorem fx_X7_stack_IOB : jXwd RX7 wsX7_stack 82 86 "java/lang/IndexOutOfBoundsException" := ⟨by decide +kernel, by decide +kernel, by decide +kernel⟩
set_option maxHeartbeats 4000000 in
theorem c_X7_stack (l : Launch) (hl0 : l.stackTraces = false) (D : va_G) (cA : ClassId) (ob ro ar : Nat → Nat) (S : jS) (r k : Int32) : jjConX l yX7_stack wsX7_stack 6 D cA [.ref (ob 0), .int r, .int k] (jW cA ob ro ar S) 1 6 (fun r0 w0 => gStack S r k = none ∧ r0 = some (.int (mEnt S r k)) ∧ w0 = jW cA ob ro ar S) (fun E w0 => gStack S r k = some E ∧ w0 = jW cA ob ro ar S) := by
  refine jjConX_of (own := RX7) (cc := cX7_stack) (nL := 3) (rt := (some .int)) [some (.ref (ob 0)), some (.int r), some (.int k)] jm_X7_stack (by decide +kernel) rfl (Nat.le_of_ble_eq_true rfl) rfl ?_
  refine jj_aload_n (pc := 0) 0 dX7_stack_0 rfl rfl ?_
  refine jj_g_0_4 (pc := 1) dX7_stack_1 fd_X7_stack_36 ?_
  refine jj_iload_n (pc := 4) 1 dX7_stack_4 rfl rfl ?_
  refine jj_callVr (pc := 5) _ (c_X5_isThere l D cA ob ro ar _ _) dX7_stack_5 gX7_stack_X5_isThere jm_X5_isThere rfl (by decide) 5 jq_5 rfl rfl rfl (Nat.le_of_ble_eq_true rfl) ⟨Nat.zero_le _, Nat.zero_le _⟩ ?_
  refine jj_if_eq (pc := 8) 29 dX7_stack_8 (by decide) (fun h8 => ?_) (fun h8 => ?_)
  · refine jjx_throw (pc := 29) "no such run, or place" hl0 jxc_IOB fx_X7_stack_IOB (by decide +kernel) dX7_stack_29 dX7_stack_32 dX7_stack_33 dX7_stack_35 dX7_stack_38 (by decide) (Nat.le_of_ble_eq_true rfl) ?_
    have e8 := bI_0 h8
    exact ⟨by simp [gStack, e8, mH], rfl⟩
  · refine jj_iload_n (pc := 11) 2 dX7_stack_11 rfl rfl ?_
    refine jj_aload_n (pc := 12) 0 dX7_stack_12 rfl rfl ?_
    refine jj_g_0_4 (pc := 13) dX7_stack_13 fd_X7_stack_36 ?_
    refine jj_g_5_0 (pc := 16) dX7_stack_16 fd_X7_stack_222 ?_
    refine jj_iload_n (pc := 19) 1 dX7_stack_19 rfl rfl ?_
    refine jj_rget (pc := 20) (r := 29) (by decide) dX7_stack_20 gX7_stack_X4_get (by decide) (Nat.le_of_ble_eq_true rfl) ⟨Nat.zero_le _, Nat.zero_le _⟩ ?_
    refine jj_callSr (pc := 23) _ (c_X7_isWithin l D cA ob ro ar _ _ _) dX7_stack_23 gX7_stack_X7_isWithin jm_X7_isWithin (by decide) rfl rfl (Nat.le_of_ble_eq_true rfl) ⟨Nat.zero_le _, Nat.zero_le _⟩ ?_
    refine jj_if_ne (pc := 26) 39 dX7_stack_26 (by decide) (fun h26 => ?_) (fun h26 => ?_)
    · refine jj_aload_n (pc := 39) 0 dX7_stack_39 rfl rfl ?_
      refine jj_g_0_4 (pc := 40) dX7_stack_40 fd_X7_stack_36 ?_
      refine jj_iload_n (pc := 43) 1 dX7_stack_43 rfl rfl ?_
      refine jj_iload_n (pc := 44) 2 dX7_stack_44 rfl rfl ?_
      refine jj_callVr (pc := 45) _ (c_X5_entry l D cA ob ro ar _ _ _) dX7_stack_45 gX7_stack_X5_entry jm_X5_entry rfl (by decide) 5 jq_5 rfl rfl rfl (Nat.le_of_ble_eq_true rfl) ⟨Nat.zero_le _, Nat.zero_le _⟩ ?_
      refine jjx_iret (pc := 48) dX7_stack_48 (Nat.zero_le _) (Nat.zero_le _) ?_
      have e8 := bI_1 h8
      have e26 := bI_1 h26
      exact ⟨by simp [gStack, e8, e26, mH], rfl, rfl⟩
    · refine jjx_throw (pc := 29) "no such run, or place" hl0 jxc_IOB fx_X7_stack_IOB (by decide +kernel) dX7_stack_29 dX7_stack_32 dX7_stack_33 dX7_stack_35 dX7_stack_38 (by decide) (Nat.le_of_ble_eq_true rfl) ?_
      have e8 := bI_1 h8
      have e26 := bI_0 h26
      exact ⟨by simp [gStack, e8, e26, mH], rfl⟩
def gPatch (S : jS) (y z g t : Int32) : Option String := if mSym y = true ∧ (t = -1 ∨ mSym t = true) then (if mSize z = true ∧ ¬ g < 0 ∧ g ≤ 3 then (if mStd S y = true ∧ (t = -1 ∨ mStd S t = true) ∧ ¬ 8 ≤ S.1 18 ∧ S.1 2 < 40 then none else some "java/lang/IllegalStateException") else some "java/lang/IllegalArgumentException") else some "java/lang/IndexOutOfBoundsException"
def pt1 (S : jS) (y z : Int32) : jS := addPc S (-1) y z 1
def pt2 (S : jS) (y z t : Int32) : jS := if t = -1 then pt1 S y z else addRef (pt1 S y z) (S.1 2 + 1 - 1) t 0
def jPat (S : jS) (y z g t : Int32) : jS := jCarryAll (jPAdd (pt2 S y z t) (S.1 2 + 1 - 1) g)
theorem fx_X7_patch_ISE : jXwd RX7 wsX7_patch 63 67 "java/lang/IllegalStateException" := ⟨by decide +kernel, by decide +kernel, by decide +kernel⟩
theorem fx_X7_patch_IOB : jXwd RX7 wsX7_patch 82 86 "java/lang/IndexOutOfBoundsException" := ⟨by decide +kernel, by decide +kernel, by decide +kernel⟩
theorem fx_X7_patch_IAE : jXwd RX7 wsX7_patch 90 94 "java/lang/IllegalArgumentException" := ⟨by decide +kernel, by decide +kernel, by decide +kernel⟩
set_option maxHeartbeats 4000000 in
theorem c_X7_patch (l : Launch) (hl0 : l.stackTraces = false) (D : va_G) (cA : ClassId) (ob ro ar : Nat → Nat) (S : jS) (y z g t : Int32) : jjConX l yX7_patch wsX7_patch 6 D cA [.ref (ob 0), .int y, .int z, .int g, .int t] (jW cA ob ro ar S) 1 6 (fun r0 w0 => gPatch S y z g t = none ∧ r0 = some (.int ((pt2 S y z t).1 18 + 1 - 1)) ∧ w0 = jW cA ob ro ar (jPat S y z g t)) (fun E w0 => gPatch S y z g t = some E ∧ w0 = jW cA ob ro ar S) := by
  refine jjConX_of (own := RX7) (cc := cX7_patch) (nL := 7) (rt := (some .int)) [some (.ref (ob 0)), some (.int y), some (.int z), some (.int g), some (.int t), none, none] jm_X7_patch (by decide +kernel) rfl (Nat.le_of_ble_eq_true rfl) rfl ?_
  refine jj_iload_n (pc := 0) 1 dX7_patch_0 rfl rfl ?_
  refine jj_callSr (pc := 1) _ (c_X7_isSymbol l D cA ob ro ar _ _) dX7_patch_1 gX7_patch_X7_isSymbol jm_X7_isSymbol (by decide) rfl rfl (Nat.le_of_ble_eq_true rfl) ⟨Nat.zero_le _, Nat.zero_le _⟩ ?_
  refine jj_if_eq (pc := 4) 21 dX7_patch_4 (by decide) (fun h4 => ?_) (fun h4 => ?_)
  · refine jjx_throw (pc := 21) "no such symbol" hl0 jxc_IOB fx_X7_patch_IOB (by decide +kernel) dX7_patch_21 dX7_patch_24 dX7_patch_25 dX7_patch_27 dX7_patch_30 (by decide) (Nat.le_of_ble_eq_true rfl) ?_
    have e4 := bI_0 h4
    first
      | exact absurd h10 h68
      | exact absurd h68 h10
      | exact ⟨by simp [gPatch, e4], rfl⟩
  · refine jj_iload (pc := 7) dX7_patch_7 rfl ?_
    refine jj_iconst (pc := 9) (v := (-1)) dX7_patch_9 rfl ?_
    refine jj_icmp_eq (pc := 10) 31 dX7_patch_10 (by decide) (fun h10 => ?_) (fun h10 => ?_)
    · refine jj_iload_n (pc := 31) 2 dX7_patch_31 rfl rfl ?_
      refine jj_callSr (pc := 32) _ (c_X7_isPieceSize l D cA ob ro ar _ _) dX7_patch_32 gX7_patch_X7_isPieceSize jm_X7_isPieceSize (by decide) rfl rfl (Nat.le_of_ble_eq_true rfl) ⟨Nat.zero_le _, Nat.zero_le _⟩ ?_
      refine jj_if_eq (pc := 35) 47 dX7_patch_35 (by decide) (fun h35 => ?_) (fun h35 => ?_)
      · refine jjx_throw (pc := 47) "size is not 1 to 20, or group is not 0 to 3" hl0 jxc_IAE fx_X7_patch_IAE (by decide +kernel) dX7_patch_47 dX7_patch_50 dX7_patch_51 dX7_patch_53 dX7_patch_56 (by decide) (Nat.le_of_ble_eq_true rfl) ?_
        have e4 := bI_1 h4
        have e35 := bI_0 h35
        first
          | exact absurd h10 h68
          | exact absurd h68 h10
          | exact ⟨by simp [gPatch, e4, h10, e35], rfl⟩
      · refine jj_iload_n (pc := 38) 3 dX7_patch_38 rfl rfl ?_
        refine jj_if_lt (pc := 39) 47 dX7_patch_39 (by decide) (fun h39 => ?_) (fun h39 => ?_)
        · refine jjx_throw (pc := 47) "size is not 1 to 20, or group is not 0 to 3" hl0 jxc_IAE fx_X7_patch_IAE (by decide +kernel) dX7_patch_47 dX7_patch_50 dX7_patch_51 dX7_patch_53 dX7_patch_56 (by decide) (Nat.le_of_ble_eq_true rfl) ?_
          have e4 := bI_1 h4
          have e35 := bI_1 h35
          first
            | exact absurd h10 h68
            | exact absurd h68 h10
            | exact ⟨by simp [gPatch, e4, h10, e35, h39], rfl⟩
        · refine jj_iload_n (pc := 42) 3 dX7_patch_42 rfl rfl ?_
          refine jj_iconst (pc := 43) (v := 3) dX7_patch_43 rfl ?_
          refine jj_icmp_le (pc := 44) 57 dX7_patch_44 (by decide) (fun h44 => ?_) (fun h44 => ?_)
          · refine jj_aload_n (pc := 57) 0 dX7_patch_57 rfl rfl ?_
            refine jj_iload_n (pc := 58) 1 dX7_patch_58 rfl rfl ?_
            refine jj_callVr (pc := 59) _ (c_X7_isStanding l D cA ob ro ar _ _) dX7_patch_59 gX7_patch_X7_isStanding jm_X7_isStanding rfl (by decide) 0 jq_0 rfl rfl rfl (Nat.le_of_ble_eq_true rfl) ⟨Nat.zero_le _, Nat.zero_le _⟩ ?_
            refine jj_if_eq (pc := 62) 104 dX7_patch_62 (by decide) (fun h62 => ?_) (fun h62 => ?_)
            · refine jjx_throw (pc := 104) "no image, a symbol that stands for nothing, 8 patches, or 40 pieces" hl0 jxc_ISE fx_X7_patch_ISE (by decide +kernel) dX7_patch_104 dX7_patch_107 dX7_patch_108 dX7_patch_110 dX7_patch_113 (by decide) (Nat.le_of_ble_eq_true rfl) ?_
              have e4 := bI_1 h4
              have e35 := bI_1 h35
              have e62 := bI_0 h62
              first
                | exact absurd h10 h68
                | exact absurd h68 h10
                | exact ⟨by simp [gPatch, e4, h10, e35, h39, h44, e62], rfl⟩
            · refine jj_iload (pc := 65) dX7_patch_65 rfl ?_
              refine jj_iconst (pc := 67) (v := (-1)) dX7_patch_67 rfl ?_
              refine jj_icmp_eq (pc := 68) 80 dX7_patch_68 (by decide) (fun h68 => ?_) (fun h68 => ?_)
              · refine jj_aload_n (pc := 80) 0 dX7_patch_80 rfl rfl ?_
                refine jj_g_0_5 (pc := 81) dX7_patch_81 fd_X7_patch_43 ?_
                refine jj_g_6_3 (pc := 84) dX7_patch_84 fd_X7_patch_246 ?_
                refine jj_bipush (pc := 87) (v := 8) dX7_patch_87 rfl ?_
                refine jj_icmp_ge (pc := 89) 104 dX7_patch_89 (by decide) (fun h89 => ?_) (fun h89 => ?_)
                · refine jjx_throw (pc := 104) "no image, a symbol that stands for nothing, 8 patches, or 40 pieces" hl0 jxc_ISE fx_X7_patch_ISE (by decide +kernel) dX7_patch_104 dX7_patch_107 dX7_patch_108 dX7_patch_110 dX7_patch_113 (by decide) (Nat.le_of_ble_eq_true rfl) ?_
                  have e4 := bI_1 h4
                  have e35 := bI_1 h35
                  have e62 := bI_1 h62
                  first
                    | exact absurd h10 h68
                    | exact absurd h68 h10
                    | exact ⟨by simp [gPatch, e4, h10, e35, h39, h44, e62, h68, h89], rfl⟩
                · refine jj_aload_n (pc := 92) 0 dX7_patch_92 rfl rfl ?_
                  refine jj_g_0_0 (pc := 93) dX7_patch_93 fd_X7_patch_12 ?_
                  refine jj_g_1_9 (pc := 96) dX7_patch_96 fd_X7_patch_95 ?_
                  refine jj_bipush (pc := 99) (v := 40) dX7_patch_99 rfl ?_
                  refine jj_icmp_lt (pc := 101) 114 dX7_patch_101 (by decide) (fun h101 => ?_) (fun h101 => ?_)
                  · refine jj_aload_n (pc := 114) 0 dX7_patch_114 rfl rfl ?_
                    refine jj_g_0_0 (pc := 115) dX7_patch_115 fd_X7_patch_12 ?_
                    refine jj_iconst (pc := 118) (v := (-1)) dX7_patch_118 rfl ?_
                    refine jj_iload_n (pc := 119) 1 dX7_patch_119 rfl rfl ?_
                    refine jj_iload_n (pc := 120) 2 dX7_patch_120 rfl rfl ?_
                    refine jj_iconst (pc := 121) (v := 1) dX7_patch_121 rfl ?_
                    refine jj_callVr (pc := 122) _ (c_X6_addPiece l D cA ob ro ar _ _ _ _ _) dX7_patch_122 gX7_patch_X6_addPiece jm_X6_addPiece rfl (by decide) 1 jq_1 rfl rfl rfl (Nat.le_of_ble_eq_true rfl) ⟨Nat.zero_le _, Nat.zero_le _⟩ ?_
                    refine jj_istore_5 (pc := 125) dX7_patch_125 rfl (by decide) ?_
                    refine jj_iload (pc := 127) dX7_patch_127 rfl ?_
                    refine jj_iconst (pc := 129) (v := (-1)) dX7_patch_129 rfl ?_
                    refine jj_icmp_eq (pc := 130) 146 dX7_patch_130 (by decide) (fun h130 => ?_) (fun h130 => ?_)
                    · refine jj_aload_n (pc := 146) 0 dX7_patch_146 rfl rfl ?_
                      refine jj_g_0_5 (pc := 147) dX7_patch_147 fd_X7_patch_43 ?_
                      refine jj_iload (pc := 150) dX7_patch_150 rfl ?_
                      refine jj_iload_n (pc := 152) 3 dX7_patch_152 rfl rfl ?_
                      refine jj_callVr (pc := 153) _ (c_X3_add l D cA ob ro ar _ _ _) dX7_patch_153 gX7_patch_X3_add jm_X3_add rfl (by decide) 6 jq_6 rfl rfl rfl (Nat.le_of_ble_eq_true rfl) ⟨Nat.zero_le _, Nat.zero_le _⟩ ?_
                      refine jj_istore_6 (pc := 156) dX7_patch_156 rfl (by decide) ?_
                      refine jj_aload_n (pc := 158) 0 dX7_patch_158 rfl rfl ?_
                      refine jj_callVv (pc := 159) _ (c_X7_carryOutPatches l D cA ob ro ar _) dX7_patch_159 gX7_patch_X7_carryOutPatches jm_X7_carryOutPatches rfl (by decide) 0 jq_0 rfl rfl rfl (Nat.le_of_ble_eq_true rfl) ⟨Nat.zero_le _, Nat.zero_le _⟩ ?_
                      refine jj_iload (pc := 162) dX7_patch_162 rfl ?_
                      refine jjx_iret (pc := 164) dX7_patch_164 (Nat.zero_le _) (Nat.zero_le _) ?_
                      have e4 := bI_1 h4
                      have e35 := bI_1 h35
                      have e62 := bI_1 h62
                      have e2 : pt2 S y z t = pt1 S y z := if_pos h130
                      exact ⟨by simp [gPatch, e4, h10, e35, h39, h44, e62, h68, h89, h101, h130], by rw [e2]; rfl, by rw [jPat, e2]; rfl⟩
                    · refine jj_aload_n (pc := 133) 0 dX7_patch_133 rfl rfl ?_
                      refine jj_g_0_0 (pc := 134) dX7_patch_134 fd_X7_patch_12 ?_
                      refine jj_iload (pc := 137) dX7_patch_137 rfl ?_
                      refine jj_iload (pc := 139) dX7_patch_139 rfl ?_
                      refine jj_iconst (pc := 141) (v := 0) dX7_patch_141 rfl ?_
                      refine jj_callVr (pc := 142) _ (c_X6_addReference l D cA ob ro ar _ _ _ _) dX7_patch_142 gX7_patch_X6_addReference jm_X6_addReference rfl (by decide) 1 jq_1 rfl rfl rfl (Nat.le_of_ble_eq_true rfl) ⟨Nat.zero_le _, Nat.zero_le _⟩ ?_
                      refine jj_pop (pc := 145) dX7_patch_145 rfl ?_
                      refine jj_aload_n (pc := 146) 0 dX7_patch_146 rfl rfl ?_
                      refine jj_g_0_5 (pc := 147) dX7_patch_147 fd_X7_patch_43 ?_
                      refine jj_iload (pc := 150) dX7_patch_150 rfl ?_
                      refine jj_iload_n (pc := 152) 3 dX7_patch_152 rfl rfl ?_
                      refine jj_callVr (pc := 153) _ (c_X3_add l D cA ob ro ar _ _ _) dX7_patch_153 gX7_patch_X3_add jm_X3_add rfl (by decide) 6 jq_6 rfl rfl rfl (Nat.le_of_ble_eq_true rfl) ⟨Nat.zero_le _, Nat.zero_le _⟩ ?_
                      refine jj_istore_6 (pc := 156) dX7_patch_156 rfl (by decide) ?_
                      refine jj_aload_n (pc := 158) 0 dX7_patch_158 rfl rfl ?_
                      refine jj_callVv (pc := 159) _ (c_X7_carryOutPatches l D cA ob ro ar _) dX7_patch_159 gX7_patch_X7_carryOutPatches jm_X7_carryOutPatches rfl (by decide) 0 jq_0 rfl rfl rfl (Nat.le_of_ble_eq_true rfl) ⟨Nat.zero_le _, Nat.zero_le _⟩ ?_
                      refine jj_iload (pc := 162) dX7_patch_162 rfl ?_
                      refine jjx_iret (pc := 164) dX7_patch_164 (Nat.zero_le _) (Nat.zero_le _) ?_
                      have e4 := bI_1 h4
                      have e35 := bI_1 h35
                      have e62 := bI_1 h62
                      have e2 : pt2 S y z t = addRef (pt1 S y z) (S.1 2 + 1 - 1) t 0 := if_neg h130
                      exact ⟨by simp [gPatch, e4, h10, e35, h39, h44, e62, h68, h89, h101, h130], by rw [e2]; rfl, by rw [jPat, e2]; rfl⟩
                  · refine jjx_throw (pc := 104) "no image, a symbol that stands for nothing, 8 patches, or 40 pieces" hl0 jxc_ISE fx_X7_patch_ISE (by decide +kernel) dX7_patch_104 dX7_patch_107 dX7_patch_108 dX7_patch_110 dX7_patch_113 (by decide) (Nat.le_of_ble_eq_true rfl) ?_
                    have e4 := bI_1 h4
                    have e35 := bI_1 h35
                    have e62 := bI_1 h62
                    first
                      | exact absurd h10 h68
                      | exact absurd h68 h10
                      | exact ⟨by simp [gPatch, e4, h10, e35, h39, h44, e62, h68, h89, h101], rfl⟩
              · refine jj_aload_n (pc := 71) 0 dX7_patch_71 rfl rfl ?_
                refine jj_iload (pc := 72) dX7_patch_72 rfl ?_
                refine jj_callVr (pc := 74) _ (c_X7_isStanding l D cA ob ro ar _ _) dX7_patch_74 gX7_patch_X7_isStanding jm_X7_isStanding rfl (by decide) 0 jq_0 rfl rfl rfl (Nat.le_of_ble_eq_true rfl) ⟨Nat.zero_le _, Nat.zero_le _⟩ ?_
                refine jj_if_eq (pc := 77) 104 dX7_patch_77 (by decide) (fun h77 => ?_) (fun h77 => ?_)
                · refine jjx_throw (pc := 104) "no image, a symbol that stands for nothing, 8 patches, or 40 pieces" hl0 jxc_ISE fx_X7_patch_ISE (by decide +kernel) dX7_patch_104 dX7_patch_107 dX7_patch_108 dX7_patch_110 dX7_patch_113 (by decide) (Nat.le_of_ble_eq_true rfl) ?_
                  have e4 := bI_1 h4
                  have e35 := bI_1 h35
                  have e62 := bI_1 h62
                  have e77 := bI_0 h77
                  first
                    | exact absurd h10 h68
                    | exact absurd h68 h10
                    | exact ⟨by simp [gPatch, e4, h10, e35, h39, h44, e62, h68, e77], rfl⟩
                · refine jj_aload_n (pc := 80) 0 dX7_patch_80 rfl rfl ?_
                  refine jj_g_0_5 (pc := 81) dX7_patch_81 fd_X7_patch_43 ?_
                  refine jj_g_6_3 (pc := 84) dX7_patch_84 fd_X7_patch_246 ?_
                  refine jj_bipush (pc := 87) (v := 8) dX7_patch_87 rfl ?_
                  refine jj_icmp_ge (pc := 89) 104 dX7_patch_89 (by decide) (fun h89 => ?_) (fun h89 => ?_)
                  · refine jjx_throw (pc := 104) "no image, a symbol that stands for nothing, 8 patches, or 40 pieces" hl0 jxc_ISE fx_X7_patch_ISE (by decide +kernel) dX7_patch_104 dX7_patch_107 dX7_patch_108 dX7_patch_110 dX7_patch_113 (by decide) (Nat.le_of_ble_eq_true rfl) ?_
                    have e4 := bI_1 h4
                    have e35 := bI_1 h35
                    have e62 := bI_1 h62
                    have e77 := bI_1 h77
                    first
                      | exact absurd h10 h68
                      | exact absurd h68 h10
                      | exact ⟨by simp [gPatch, e4, h10, e35, h39, h44, e62, h68, e77, h89], rfl⟩
                  · refine jj_aload_n (pc := 92) 0 dX7_patch_92 rfl rfl ?_
                    refine jj_g_0_0 (pc := 93) dX7_patch_93 fd_X7_patch_12 ?_
                    refine jj_g_1_9 (pc := 96) dX7_patch_96 fd_X7_patch_95 ?_
                    refine jj_bipush (pc := 99) (v := 40) dX7_patch_99 rfl ?_
                    refine jj_icmp_lt (pc := 101) 114 dX7_patch_101 (by decide) (fun h101 => ?_) (fun h101 => ?_)
                    · refine jj_aload_n (pc := 114) 0 dX7_patch_114 rfl rfl ?_
                      refine jj_g_0_0 (pc := 115) dX7_patch_115 fd_X7_patch_12 ?_
                      refine jj_iconst (pc := 118) (v := (-1)) dX7_patch_118 rfl ?_
                      refine jj_iload_n (pc := 119) 1 dX7_patch_119 rfl rfl ?_
                      refine jj_iload_n (pc := 120) 2 dX7_patch_120 rfl rfl ?_
                      refine jj_iconst (pc := 121) (v := 1) dX7_patch_121 rfl ?_
                      refine jj_callVr (pc := 122) _ (c_X6_addPiece l D cA ob ro ar _ _ _ _ _) dX7_patch_122 gX7_patch_X6_addPiece jm_X6_addPiece rfl (by decide) 1 jq_1 rfl rfl rfl (Nat.le_of_ble_eq_true rfl) ⟨Nat.zero_le _, Nat.zero_le _⟩ ?_
                      refine jj_istore_5 (pc := 125) dX7_patch_125 rfl (by decide) ?_
                      refine jj_iload (pc := 127) dX7_patch_127 rfl ?_
                      refine jj_iconst (pc := 129) (v := (-1)) dX7_patch_129 rfl ?_
                      refine jj_icmp_eq (pc := 130) 146 dX7_patch_130 (by decide) (fun h130 => ?_) (fun h130 => ?_)
                      · refine jj_aload_n (pc := 146) 0 dX7_patch_146 rfl rfl ?_
                        refine jj_g_0_5 (pc := 147) dX7_patch_147 fd_X7_patch_43 ?_
                        refine jj_iload (pc := 150) dX7_patch_150 rfl ?_
                        refine jj_iload_n (pc := 152) 3 dX7_patch_152 rfl rfl ?_
                        refine jj_callVr (pc := 153) _ (c_X3_add l D cA ob ro ar _ _ _) dX7_patch_153 gX7_patch_X3_add jm_X3_add rfl (by decide) 6 jq_6 rfl rfl rfl (Nat.le_of_ble_eq_true rfl) ⟨Nat.zero_le _, Nat.zero_le _⟩ ?_
                        refine jj_istore_6 (pc := 156) dX7_patch_156 rfl (by decide) ?_
                        refine jj_aload_n (pc := 158) 0 dX7_patch_158 rfl rfl ?_
                        refine jj_callVv (pc := 159) _ (c_X7_carryOutPatches l D cA ob ro ar _) dX7_patch_159 gX7_patch_X7_carryOutPatches jm_X7_carryOutPatches rfl (by decide) 0 jq_0 rfl rfl rfl (Nat.le_of_ble_eq_true rfl) ⟨Nat.zero_le _, Nat.zero_le _⟩ ?_
                        refine jj_iload (pc := 162) dX7_patch_162 rfl ?_
                        refine jjx_iret (pc := 164) dX7_patch_164 (Nat.zero_le _) (Nat.zero_le _) ?_
                        have e4 := bI_1 h4
                        have e35 := bI_1 h35
                        have e62 := bI_1 h62
                        have e77 := bI_1 h77
                        have e2 : pt2 S y z t = pt1 S y z := if_pos h130
                        exact ⟨by simp [gPatch, e4, h10, e35, h39, h44, e62, h68, e77, h89, h101, h130], by rw [e2]; rfl, by rw [jPat, e2]; rfl⟩
                      · refine jj_aload_n (pc := 133) 0 dX7_patch_133 rfl rfl ?_
                        refine jj_g_0_0 (pc := 134) dX7_patch_134 fd_X7_patch_12 ?_
                        refine jj_iload (pc := 137) dX7_patch_137 rfl ?_
                        refine jj_iload (pc := 139) dX7_patch_139 rfl ?_
                        refine jj_iconst (pc := 141) (v := 0) dX7_patch_141 rfl ?_
                        refine jj_callVr (pc := 142) _ (c_X6_addReference l D cA ob ro ar _ _ _ _) dX7_patch_142 gX7_patch_X6_addReference jm_X6_addReference rfl (by decide) 1 jq_1 rfl rfl rfl (Nat.le_of_ble_eq_true rfl) ⟨Nat.zero_le _, Nat.zero_le _⟩ ?_
                        refine jj_pop (pc := 145) dX7_patch_145 rfl ?_
                        refine jj_aload_n (pc := 146) 0 dX7_patch_146 rfl rfl ?_
                        refine jj_g_0_5 (pc := 147) dX7_patch_147 fd_X7_patch_43 ?_
                        refine jj_iload (pc := 150) dX7_patch_150 rfl ?_
                        refine jj_iload_n (pc := 152) 3 dX7_patch_152 rfl rfl ?_
                        refine jj_callVr (pc := 153) _ (c_X3_add l D cA ob ro ar _ _ _) dX7_patch_153 gX7_patch_X3_add jm_X3_add rfl (by decide) 6 jq_6 rfl rfl rfl (Nat.le_of_ble_eq_true rfl) ⟨Nat.zero_le _, Nat.zero_le _⟩ ?_
                        refine jj_istore_6 (pc := 156) dX7_patch_156 rfl (by decide) ?_
                        refine jj_aload_n (pc := 158) 0 dX7_patch_158 rfl rfl ?_
                        refine jj_callVv (pc := 159) _ (c_X7_carryOutPatches l D cA ob ro ar _) dX7_patch_159 gX7_patch_X7_carryOutPatches jm_X7_carryOutPatches rfl (by decide) 0 jq_0 rfl rfl rfl (Nat.le_of_ble_eq_true rfl) ⟨Nat.zero_le _, Nat.zero_le _⟩ ?_
                        refine jj_iload (pc := 162) dX7_patch_162 rfl ?_
                        refine jjx_iret (pc := 164) dX7_patch_164 (Nat.zero_le _) (Nat.zero_le _) ?_
                        have e4 := bI_1 h4
                        have e35 := bI_1 h35
                        have e62 := bI_1 h62
                        have e77 := bI_1 h77
                        have e2 : pt2 S y z t = addRef (pt1 S y z) (S.1 2 + 1 - 1) t 0 := if_neg h130
                        exact ⟨by simp [gPatch, e4, h10, e35, h39, h44, e62, h68, e77, h89, h101, h130], by rw [e2]; rfl, by rw [jPat, e2]; rfl⟩
                    · refine jjx_throw (pc := 104) "no image, a symbol that stands for nothing, 8 patches, or 40 pieces" hl0 jxc_ISE fx_X7_patch_ISE (by decide +kernel) dX7_patch_104 dX7_patch_107 dX7_patch_108 dX7_patch_110 dX7_patch_113 (by decide) (Nat.le_of_ble_eq_true rfl) ?_
                      have e4 := bI_1 h4
                      have e35 := bI_1 h35
                      have e62 := bI_1 h62
                      have e77 := bI_1 h77
                      first
                        | exact absurd h10 h68
                        | exact absurd h68 h10
                        | exact ⟨by simp [gPatch, e4, h10, e35, h39, h44, e62, h68, e77, h89, h101], rfl⟩
          · refine jjx_throw (pc := 47) "size is not 1 to 20, or group is not 0 to 3" hl0 jxc_IAE fx_X7_patch_IAE (by decide +kernel) dX7_patch_47 dX7_patch_50 dX7_patch_51 dX7_patch_53 dX7_patch_56 (by decide) (Nat.le_of_ble_eq_true rfl) ?_
            have e4 := bI_1 h4
            have e35 := bI_1 h35
            first
              | exact absurd h10 h68
              | exact absurd h68 h10
              | exact ⟨by simp [gPatch, e4, h10, e35, h39, h44], rfl⟩
    · refine jj_iload (pc := 13) dX7_patch_13 rfl ?_
      refine jj_callSr (pc := 15) _ (c_X7_isSymbol l D cA ob ro ar _ _) dX7_patch_15 gX7_patch_X7_isSymbol jm_X7_isSymbol (by decide) rfl rfl (Nat.le_of_ble_eq_true rfl) ⟨Nat.zero_le _, Nat.zero_le _⟩ ?_
      refine jj_if_ne (pc := 18) 31 dX7_patch_18 (by decide) (fun h18 => ?_) (fun h18 => ?_)
      · refine jj_iload_n (pc := 31) 2 dX7_patch_31 rfl rfl ?_
        refine jj_callSr (pc := 32) _ (c_X7_isPieceSize l D cA ob ro ar _ _) dX7_patch_32 gX7_patch_X7_isPieceSize jm_X7_isPieceSize (by decide) rfl rfl (Nat.le_of_ble_eq_true rfl) ⟨Nat.zero_le _, Nat.zero_le _⟩ ?_
        refine jj_if_eq (pc := 35) 47 dX7_patch_35 (by decide) (fun h35 => ?_) (fun h35 => ?_)
        · refine jjx_throw (pc := 47) "size is not 1 to 20, or group is not 0 to 3" hl0 jxc_IAE fx_X7_patch_IAE (by decide +kernel) dX7_patch_47 dX7_patch_50 dX7_patch_51 dX7_patch_53 dX7_patch_56 (by decide) (Nat.le_of_ble_eq_true rfl) ?_
          have e4 := bI_1 h4
          have e18 := bI_1 h18
          have e35 := bI_0 h35
          first
            | exact absurd h10 h68
            | exact absurd h68 h10
            | exact ⟨by simp [gPatch, e4, h10, e18, e35], rfl⟩
        · refine jj_iload_n (pc := 38) 3 dX7_patch_38 rfl rfl ?_
          refine jj_if_lt (pc := 39) 47 dX7_patch_39 (by decide) (fun h39 => ?_) (fun h39 => ?_)
          · refine jjx_throw (pc := 47) "size is not 1 to 20, or group is not 0 to 3" hl0 jxc_IAE fx_X7_patch_IAE (by decide +kernel) dX7_patch_47 dX7_patch_50 dX7_patch_51 dX7_patch_53 dX7_patch_56 (by decide) (Nat.le_of_ble_eq_true rfl) ?_
            have e4 := bI_1 h4
            have e18 := bI_1 h18
            have e35 := bI_1 h35
            first
              | exact absurd h10 h68
              | exact absurd h68 h10
              | exact ⟨by simp [gPatch, e4, h10, e18, e35, h39], rfl⟩
          · refine jj_iload_n (pc := 42) 3 dX7_patch_42 rfl rfl ?_
            refine jj_iconst (pc := 43) (v := 3) dX7_patch_43 rfl ?_
            refine jj_icmp_le (pc := 44) 57 dX7_patch_44 (by decide) (fun h44 => ?_) (fun h44 => ?_)
            · refine jj_aload_n (pc := 57) 0 dX7_patch_57 rfl rfl ?_
              refine jj_iload_n (pc := 58) 1 dX7_patch_58 rfl rfl ?_
              refine jj_callVr (pc := 59) _ (c_X7_isStanding l D cA ob ro ar _ _) dX7_patch_59 gX7_patch_X7_isStanding jm_X7_isStanding rfl (by decide) 0 jq_0 rfl rfl rfl (Nat.le_of_ble_eq_true rfl) ⟨Nat.zero_le _, Nat.zero_le _⟩ ?_
              refine jj_if_eq (pc := 62) 104 dX7_patch_62 (by decide) (fun h62 => ?_) (fun h62 => ?_)
              · refine jjx_throw (pc := 104) "no image, a symbol that stands for nothing, 8 patches, or 40 pieces" hl0 jxc_ISE fx_X7_patch_ISE (by decide +kernel) dX7_patch_104 dX7_patch_107 dX7_patch_108 dX7_patch_110 dX7_patch_113 (by decide) (Nat.le_of_ble_eq_true rfl) ?_
                have e4 := bI_1 h4
                have e18 := bI_1 h18
                have e35 := bI_1 h35
                have e62 := bI_0 h62
                first
                  | exact absurd h10 h68
                  | exact absurd h68 h10
                  | exact ⟨by simp [gPatch, e4, h10, e18, e35, h39, h44, e62], rfl⟩
              · refine jj_iload (pc := 65) dX7_patch_65 rfl ?_
                refine jj_iconst (pc := 67) (v := (-1)) dX7_patch_67 rfl ?_
                refine jj_icmp_eq (pc := 68) 80 dX7_patch_68 (by decide) (fun h68 => ?_) (fun h68 => ?_)
                · refine jj_aload_n (pc := 80) 0 dX7_patch_80 rfl rfl ?_
                  refine jj_g_0_5 (pc := 81) dX7_patch_81 fd_X7_patch_43 ?_
                  refine jj_g_6_3 (pc := 84) dX7_patch_84 fd_X7_patch_246 ?_
                  refine jj_bipush (pc := 87) (v := 8) dX7_patch_87 rfl ?_
                  refine jj_icmp_ge (pc := 89) 104 dX7_patch_89 (by decide) (fun h89 => ?_) (fun h89 => ?_)
                  · refine jjx_throw (pc := 104) "no image, a symbol that stands for nothing, 8 patches, or 40 pieces" hl0 jxc_ISE fx_X7_patch_ISE (by decide +kernel) dX7_patch_104 dX7_patch_107 dX7_patch_108 dX7_patch_110 dX7_patch_113 (by decide) (Nat.le_of_ble_eq_true rfl) ?_
                    have e4 := bI_1 h4
                    have e18 := bI_1 h18
                    have e35 := bI_1 h35
                    have e62 := bI_1 h62
                    first
                      | exact absurd h10 h68
                      | exact absurd h68 h10
                      | exact ⟨by simp [gPatch, e4, h10, e18, e35, h39, h44, e62, h68, h89], rfl⟩
                  · refine jj_aload_n (pc := 92) 0 dX7_patch_92 rfl rfl ?_
                    refine jj_g_0_0 (pc := 93) dX7_patch_93 fd_X7_patch_12 ?_
                    refine jj_g_1_9 (pc := 96) dX7_patch_96 fd_X7_patch_95 ?_
                    refine jj_bipush (pc := 99) (v := 40) dX7_patch_99 rfl ?_
                    refine jj_icmp_lt (pc := 101) 114 dX7_patch_101 (by decide) (fun h101 => ?_) (fun h101 => ?_)
                    · refine jj_aload_n (pc := 114) 0 dX7_patch_114 rfl rfl ?_
                      refine jj_g_0_0 (pc := 115) dX7_patch_115 fd_X7_patch_12 ?_
                      refine jj_iconst (pc := 118) (v := (-1)) dX7_patch_118 rfl ?_
                      refine jj_iload_n (pc := 119) 1 dX7_patch_119 rfl rfl ?_
                      refine jj_iload_n (pc := 120) 2 dX7_patch_120 rfl rfl ?_
                      refine jj_iconst (pc := 121) (v := 1) dX7_patch_121 rfl ?_
                      refine jj_callVr (pc := 122) _ (c_X6_addPiece l D cA ob ro ar _ _ _ _ _) dX7_patch_122 gX7_patch_X6_addPiece jm_X6_addPiece rfl (by decide) 1 jq_1 rfl rfl rfl (Nat.le_of_ble_eq_true rfl) ⟨Nat.zero_le _, Nat.zero_le _⟩ ?_
                      refine jj_istore_5 (pc := 125) dX7_patch_125 rfl (by decide) ?_
                      refine jj_iload (pc := 127) dX7_patch_127 rfl ?_
                      refine jj_iconst (pc := 129) (v := (-1)) dX7_patch_129 rfl ?_
                      refine jj_icmp_eq (pc := 130) 146 dX7_patch_130 (by decide) (fun h130 => ?_) (fun h130 => ?_)
                      · refine jj_aload_n (pc := 146) 0 dX7_patch_146 rfl rfl ?_
                        refine jj_g_0_5 (pc := 147) dX7_patch_147 fd_X7_patch_43 ?_
                        refine jj_iload (pc := 150) dX7_patch_150 rfl ?_
                        refine jj_iload_n (pc := 152) 3 dX7_patch_152 rfl rfl ?_
                        refine jj_callVr (pc := 153) _ (c_X3_add l D cA ob ro ar _ _ _) dX7_patch_153 gX7_patch_X3_add jm_X3_add rfl (by decide) 6 jq_6 rfl rfl rfl (Nat.le_of_ble_eq_true rfl) ⟨Nat.zero_le _, Nat.zero_le _⟩ ?_
                        refine jj_istore_6 (pc := 156) dX7_patch_156 rfl (by decide) ?_
                        refine jj_aload_n (pc := 158) 0 dX7_patch_158 rfl rfl ?_
                        refine jj_callVv (pc := 159) _ (c_X7_carryOutPatches l D cA ob ro ar _) dX7_patch_159 gX7_patch_X7_carryOutPatches jm_X7_carryOutPatches rfl (by decide) 0 jq_0 rfl rfl rfl (Nat.le_of_ble_eq_true rfl) ⟨Nat.zero_le _, Nat.zero_le _⟩ ?_
                        refine jj_iload (pc := 162) dX7_patch_162 rfl ?_
                        refine jjx_iret (pc := 164) dX7_patch_164 (Nat.zero_le _) (Nat.zero_le _) ?_
                        have e4 := bI_1 h4
                        have e18 := bI_1 h18
                        have e35 := bI_1 h35
                        have e62 := bI_1 h62
                        have e2 : pt2 S y z t = pt1 S y z := if_pos h130
                        exact ⟨by simp [gPatch, e4, h10, e18, e35, h39, h44, e62, h68, h89, h101, h130], by rw [e2]; rfl, by rw [jPat, e2]; rfl⟩
                      · refine jj_aload_n (pc := 133) 0 dX7_patch_133 rfl rfl ?_
                        refine jj_g_0_0 (pc := 134) dX7_patch_134 fd_X7_patch_12 ?_
                        refine jj_iload (pc := 137) dX7_patch_137 rfl ?_
                        refine jj_iload (pc := 139) dX7_patch_139 rfl ?_
                        refine jj_iconst (pc := 141) (v := 0) dX7_patch_141 rfl ?_
                        refine jj_callVr (pc := 142) _ (c_X6_addReference l D cA ob ro ar _ _ _ _) dX7_patch_142 gX7_patch_X6_addReference jm_X6_addReference rfl (by decide) 1 jq_1 rfl rfl rfl (Nat.le_of_ble_eq_true rfl) ⟨Nat.zero_le _, Nat.zero_le _⟩ ?_
                        refine jj_pop (pc := 145) dX7_patch_145 rfl ?_
                        refine jj_aload_n (pc := 146) 0 dX7_patch_146 rfl rfl ?_
                        refine jj_g_0_5 (pc := 147) dX7_patch_147 fd_X7_patch_43 ?_
                        refine jj_iload (pc := 150) dX7_patch_150 rfl ?_
                        refine jj_iload_n (pc := 152) 3 dX7_patch_152 rfl rfl ?_
                        refine jj_callVr (pc := 153) _ (c_X3_add l D cA ob ro ar _ _ _) dX7_patch_153 gX7_patch_X3_add jm_X3_add rfl (by decide) 6 jq_6 rfl rfl rfl (Nat.le_of_ble_eq_true rfl) ⟨Nat.zero_le _, Nat.zero_le _⟩ ?_
                        refine jj_istore_6 (pc := 156) dX7_patch_156 rfl (by decide) ?_
                        refine jj_aload_n (pc := 158) 0 dX7_patch_158 rfl rfl ?_
                        refine jj_callVv (pc := 159) _ (c_X7_carryOutPatches l D cA ob ro ar _) dX7_patch_159 gX7_patch_X7_carryOutPatches jm_X7_carryOutPatches rfl (by decide) 0 jq_0 rfl rfl rfl (Nat.le_of_ble_eq_true rfl) ⟨Nat.zero_le _, Nat.zero_le _⟩ ?_
                        refine jj_iload (pc := 162) dX7_patch_162 rfl ?_
                        refine jjx_iret (pc := 164) dX7_patch_164 (Nat.zero_le _) (Nat.zero_le _) ?_
                        have e4 := bI_1 h4
                        have e18 := bI_1 h18
                        have e35 := bI_1 h35
                        have e62 := bI_1 h62
                        have e2 : pt2 S y z t = addRef (pt1 S y z) (S.1 2 + 1 - 1) t 0 := if_neg h130
                        exact ⟨by simp [gPatch, e4, h10, e18, e35, h39, h44, e62, h68, h89, h101, h130], by rw [e2]; rfl, by rw [jPat, e2]; rfl⟩
                    · refine jjx_throw (pc := 104) "no image, a symbol that stands for nothing, 8 patches, or 40 pieces" hl0 jxc_ISE fx_X7_patch_ISE (by decide +kernel) dX7_patch_104 dX7_patch_107 dX7_patch_108 dX7_patch_110 dX7_patch_113 (by decide) (Nat.le_of_ble_eq_true rfl) ?_
                      have e4 := bI_1 h4
                      have e18 := bI_1 h18
                      have e35 := bI_1 h35
                      have e62 := bI_1 h62
                      first
                        | exact absurd h10 h68
                        | exact absurd h68 h10
                        | exact ⟨by simp [gPatch, e4, h10, e18, e35, h39, h44, e62, h68, h89, h101], rfl⟩
                · refine jj_aload_n (pc := 71) 0 dX7_patch_71 rfl rfl ?_
                  refine jj_iload (pc := 72) dX7_patch_72 rfl ?_
                  refine jj_callVr (pc := 74) _ (c_X7_isStanding l D cA ob ro ar _ _) dX7_patch_74 gX7_patch_X7_isStanding jm_X7_isStanding rfl (by decide) 0 jq_0 rfl rfl rfl (Nat.le_of_ble_eq_true rfl) ⟨Nat.zero_le _, Nat.zero_le _⟩ ?_
                  refine jj_if_eq (pc := 77) 104 dX7_patch_77 (by decide) (fun h77 => ?_) (fun h77 => ?_)
                  · refine jjx_throw (pc := 104) "no image, a symbol that stands for nothing, 8 patches, or 40 pieces" hl0 jxc_ISE fx_X7_patch_ISE (by decide +kernel) dX7_patch_104 dX7_patch_107 dX7_patch_108 dX7_patch_110 dX7_patch_113 (by decide) (Nat.le_of_ble_eq_true rfl) ?_
                    have e4 := bI_1 h4
                    have e18 := bI_1 h18
                    have e35 := bI_1 h35
                    have e62 := bI_1 h62
                    have e77 := bI_0 h77
                    first
                      | exact absurd h10 h68
                      | exact absurd h68 h10
                      | exact ⟨by simp [gPatch, e4, h10, e18, e35, h39, h44, e62, h68, e77], rfl⟩
                  · refine jj_aload_n (pc := 80) 0 dX7_patch_80 rfl rfl ?_
                    refine jj_g_0_5 (pc := 81) dX7_patch_81 fd_X7_patch_43 ?_
                    refine jj_g_6_3 (pc := 84) dX7_patch_84 fd_X7_patch_246 ?_
                    refine jj_bipush (pc := 87) (v := 8) dX7_patch_87 rfl ?_
                    refine jj_icmp_ge (pc := 89) 104 dX7_patch_89 (by decide) (fun h89 => ?_) (fun h89 => ?_)
                    · refine jjx_throw (pc := 104) "no image, a symbol that stands for nothing, 8 patches, or 40 pieces" hl0 jxc_ISE fx_X7_patch_ISE (by decide +kernel) dX7_patch_104 dX7_patch_107 dX7_patch_108 dX7_patch_110 dX7_patch_113 (by decide) (Nat.le_of_ble_eq_true rfl) ?_
                      have e4 := bI_1 h4
                      have e18 := bI_1 h18
                      have e35 := bI_1 h35
                      have e62 := bI_1 h62
                      have e77 := bI_1 h77
                      first
                        | exact absurd h10 h68
                        | exact absurd h68 h10
                        | exact ⟨by simp [gPatch, e4, h10, e18, e35, h39, h44, e62, h68, e77, h89], rfl⟩
                    · refine jj_aload_n (pc := 92) 0 dX7_patch_92 rfl rfl ?_
                      refine jj_g_0_0 (pc := 93) dX7_patch_93 fd_X7_patch_12 ?_
                      refine jj_g_1_9 (pc := 96) dX7_patch_96 fd_X7_patch_95 ?_
                      refine jj_bipush (pc := 99) (v := 40) dX7_patch_99 rfl ?_
                      refine jj_icmp_lt (pc := 101) 114 dX7_patch_101 (by decide) (fun h101 => ?_) (fun h101 => ?_)
                      · refine jj_aload_n (pc := 114) 0 dX7_patch_114 rfl rfl ?_
                        refine jj_g_0_0 (pc := 115) dX7_patch_115 fd_X7_patch_12 ?_
                        refine jj_iconst (pc := 118) (v := (-1)) dX7_patch_118 rfl ?_
                        refine jj_iload_n (pc := 119) 1 dX7_patch_119 rfl rfl ?_
                        refine jj_iload_n (pc := 120) 2 dX7_patch_120 rfl rfl ?_
                        refine jj_iconst (pc := 121) (v := 1) dX7_patch_121 rfl ?_
                        refine jj_callVr (pc := 122) _ (c_X6_addPiece l D cA ob ro ar _ _ _ _ _) dX7_patch_122 gX7_patch_X6_addPiece jm_X6_addPiece rfl (by decide) 1 jq_1 rfl rfl rfl (Nat.le_of_ble_eq_true rfl) ⟨Nat.zero_le _, Nat.zero_le _⟩ ?_
                        refine jj_istore_5 (pc := 125) dX7_patch_125 rfl (by decide) ?_
                        refine jj_iload (pc := 127) dX7_patch_127 rfl ?_
                        refine jj_iconst (pc := 129) (v := (-1)) dX7_patch_129 rfl ?_
                        refine jj_icmp_eq (pc := 130) 146 dX7_patch_130 (by decide) (fun h130 => ?_) (fun h130 => ?_)
                        · refine jj_aload_n (pc := 146) 0 dX7_patch_146 rfl rfl ?_
                          refine jj_g_0_5 (pc := 147) dX7_patch_147 fd_X7_patch_43 ?_
                          refine jj_iload (pc := 150) dX7_patch_150 rfl ?_
                          refine jj_iload_n (pc := 152) 3 dX7_patch_152 rfl rfl ?_
                          refine jj_callVr (pc := 153) _ (c_X3_add l D cA ob ro ar _ _ _) dX7_patch_153 gX7_patch_X3_add jm_X3_add rfl (by decide) 6 jq_6 rfl rfl rfl (Nat.le_of_ble_eq_true rfl) ⟨Nat.zero_le _, Nat.zero_le _⟩ ?_
                          refine jj_istore_6 (pc := 156) dX7_patch_156 rfl (by decide) ?_
                          refine jj_aload_n (pc := 158) 0 dX7_patch_158 rfl rfl ?_
                          refine jj_callVv (pc := 159) _ (c_X7_carryOutPatches l D cA ob ro ar _) dX7_patch_159 gX7_patch_X7_carryOutPatches jm_X7_carryOutPatches rfl (by decide) 0 jq_0 rfl rfl rfl (Nat.le_of_ble_eq_true rfl) ⟨Nat.zero_le _, Nat.zero_le _⟩ ?_
                          refine jj_iload (pc := 162) dX7_patch_162 rfl ?_
                          refine jjx_iret (pc := 164) dX7_patch_164 (Nat.zero_le _) (Nat.zero_le _) ?_
                          have e4 := bI_1 h4
                          have e18 := bI_1 h18
                          have e35 := bI_1 h35
                          have e62 := bI_1 h62
                          have e77 := bI_1 h77
                          have e2 : pt2 S y z t = pt1 S y z := if_pos h130
                          exact ⟨by simp [gPatch, e4, h10, e18, e35, h39, h44, e62, h68, e77, h89, h101, h130], by rw [e2]; rfl, by rw [jPat, e2]; rfl⟩
                        · refine jj_aload_n (pc := 133) 0 dX7_patch_133 rfl rfl ?_
                          refine jj_g_0_0 (pc := 134) dX7_patch_134 fd_X7_patch_12 ?_
                          refine jj_iload (pc := 137) dX7_patch_137 rfl ?_
                          refine jj_iload (pc := 139) dX7_patch_139 rfl ?_
                          refine jj_iconst (pc := 141) (v := 0) dX7_patch_141 rfl ?_
                          refine jj_callVr (pc := 142) _ (c_X6_addReference l D cA ob ro ar _ _ _ _) dX7_patch_142 gX7_patch_X6_addReference jm_X6_addReference rfl (by decide) 1 jq_1 rfl rfl rfl (Nat.le_of_ble_eq_true rfl) ⟨Nat.zero_le _, Nat.zero_le _⟩ ?_
                          refine jj_pop (pc := 145) dX7_patch_145 rfl ?_
                          refine jj_aload_n (pc := 146) 0 dX7_patch_146 rfl rfl ?_
                          refine jj_g_0_5 (pc := 147) dX7_patch_147 fd_X7_patch_43 ?_
                          refine jj_iload (pc := 150) dX7_patch_150 rfl ?_
                          refine jj_iload_n (pc := 152) 3 dX7_patch_152 rfl rfl ?_
                          refine jj_callVr (pc := 153) _ (c_X3_add l D cA ob ro ar _ _ _) dX7_patch_153 gX7_patch_X3_add jm_X3_add rfl (by decide) 6 jq_6 rfl rfl rfl (Nat.le_of_ble_eq_true rfl) ⟨Nat.zero_le _, Nat.zero_le _⟩ ?_
                          refine jj_istore_6 (pc := 156) dX7_patch_156 rfl (by decide) ?_
                          refine jj_aload_n (pc := 158) 0 dX7_patch_158 rfl rfl ?_
                          refine jj_callVv (pc := 159) _ (c_X7_carryOutPatches l D cA ob ro ar _) dX7_patch_159 gX7_patch_X7_carryOutPatches jm_X7_carryOutPatches rfl (by decide) 0 jq_0 rfl rfl rfl (Nat.le_of_ble_eq_true rfl) ⟨Nat.zero_le _, Nat.zero_le _⟩ ?_
                          refine jj_iload (pc := 162) dX7_patch_162 rfl ?_
                          refine jjx_iret (pc := 164) dX7_patch_164 (Nat.zero_le _) (Nat.zero_le _) ?_
                          have e4 := bI_1 h4
                          have e18 := bI_1 h18
                          have e35 := bI_1 h35
                          have e62 := bI_1 h62
                          have e77 := bI_1 h77
                          have e2 : pt2 S y z t = addRef (pt1 S y z) (S.1 2 + 1 - 1) t 0 := if_neg h130
                          exact ⟨by simp [gPatch, e4, h10, e18, e35, h39, h44, e62, h68, e77, h89, h101, h130], by rw [e2]; rfl, by rw [jPat, e2]; rfl⟩
                      · refine jjx_throw (pc := 104) "no image, a symbol that stands for nothing, 8 patches, or 40 pieces" hl0 jxc_ISE fx_X7_patch_ISE (by decide +kernel) dX7_patch_104 dX7_patch_107 dX7_patch_108 dX7_patch_110 dX7_patch_113 (by decide) (Nat.le_of_ble_eq_true rfl) ?_
                        have e4 := bI_1 h4
                        have e18 := bI_1 h18
                        have e35 := bI_1 h35
                        have e62 := bI_1 h62
                        have e77 := bI_1 h77
                        first
                          | exact absurd h10 h68
                          | exact absurd h68 h10
                          | exact ⟨by simp [gPatch, e4, h10, e18, e35, h39, h44, e62, h68, e77, h89, h101], rfl⟩
            · refine jjx_throw (pc := 47) "size is not 1 to 20, or group is not 0 to 3" hl0 jxc_IAE fx_X7_patch_IAE (by decide +kernel) dX7_patch_47 dX7_patch_50 dX7_patch_51 dX7_patch_53 dX7_patch_56 (by decide) (Nat.le_of_ble_eq_true rfl) ?_
              have e4 := bI_1 h4
              have e18 := bI_1 h18
              have e35 := bI_1 h35
              first
                | exact absurd h10 h68
                | exact absurd h68 h10
                | exact ⟨by simp [gPatch, e4, h10, e18, e35, h39, h44], rfl⟩
      · refine jjx_throw (pc := 21) "no such symbol" hl0 jxc_IOB fx_X7_patch_IOB (by decide +kernel) dX7_patch_21 dX7_patch_24 dX7_patch_25 dX7_patch_27 dX7_patch_30 (by decide) (Nat.le_of_ble_eq_true rfl) ?_
        have e4 := bI_1 h4
        have e18 := bI_0 h18
        first
          | exact absurd h10 h68
          | exact absurd h68 h10
          | exact ⟨by simp [gPatch, e4, h10, e18], rfl⟩
def gGate (_ : jS) (y _ : Int32) : Option String := if mSym y = true then none else some "java/lang/IndexOutOfBoundsException"
theorem fx_X7_gate_IOB : jXwd RX7 wsX7_gate 82 86 "java/lang/IndexOutOfBoundsException" := ⟨by decide +kernel, by decide +kernel, by decide +kernel⟩
set_option maxHeartbeats 4000000 in
theorem c_X7_gate (l : Launch) (hl0 : l.stackTraces = false) (D : va_G) (cA : ClassId) (ob ro ar : Nat → Nat) (S : jS) (y b : Int32) : jjConX l yX7_gate wsX7_gate 6 D cA [.ref (ob 0), .int y, .int b] (jW cA ob ro ar S) 1 6 (fun r0 w0 => gGate S y b = none ∧ r0 = some (.int (bI (decide (jg S 0 y = 1)))) ∧ w0 = jW cA ob ro ar (jset S 0 y (bz b))) (fun E w0 => gGate S y b = some E ∧ w0 = jW cA ob ro ar S) := by
  refine jjConX_of (own := RX7) (cc := cX7_gate) (nL := 4) (rt := (some .boolean)) [some (.ref (ob 0)), some (.int y), some (.int b), none] jm_X7_gate (by decide +kernel) rfl (Nat.le_of_ble_eq_true rfl) rfl ?_
  refine jj_iload_n (pc := 0) 1 dX7_gate_0 rfl rfl ?_
  refine jj_callSr (pc := 1) _ (c_X7_isSymbol l D cA ob ro ar _ _) dX7_gate_1 gX7_gate_X7_isSymbol jm_X7_isSymbol (by decide) rfl rfl (Nat.le_of_ble_eq_true rfl) ⟨Nat.zero_le _, Nat.zero_le _⟩ ?_
  refine jj_if_ne (pc := 4) 17 dX7_gate_4 (by decide) (fun h4 => ?_) (fun h4 => ?_)
  · refine jj_aload_n (pc := 17) 0 dX7_gate_17 rfl rfl ?_
    refine jj_g_0_6 (pc := 18) dX7_gate_18 fd_X7_gate_52 ?_
    refine jj_iload_n (pc := 21) 1 dX7_gate_21 rfl rfl ?_
    refine jj_rget (pc := 22) (r := 0) (by decide) dX7_gate_22 gX7_gate_X4_get (by decide) (Nat.le_of_ble_eq_true rfl) ⟨Nat.zero_le _, Nat.zero_le _⟩ ?_
    refine jj_iconst (pc := 25) (v := 1) dX7_gate_25 rfl ?_
    refine jj_icmp_ne (pc := 26) 33 dX7_gate_26 (by decide) (fun h26 => ?_) (fun h26 => ?_)
    · refine jj_iconst (pc := 33) (v := 0) dX7_gate_33 rfl ?_
      refine jj_istore_n_3 (pc := 34) dX7_gate_34 rfl rfl (by decide) ?_
      refine jj_aload_n (pc := 35) 0 dX7_gate_35 rfl rfl ?_
      refine jj_g_0_6 (pc := 36) dX7_gate_36 fd_X7_gate_52 ?_
      refine jj_iload_n (pc := 39) 1 dX7_gate_39 rfl rfl ?_
      refine jj_iload_n (pc := 40) 2 dX7_gate_40 rfl rfl ?_
      refine jj_if_eq (pc := 41) 48 dX7_gate_41 (by decide) (fun h41 => ?_) (fun h41 => ?_)
      · refine jj_iconst (pc := 48) (v := 0) dX7_gate_48 rfl ?_
        refine jj_rset (pc := 49) (r := 0) (by decide) dX7_gate_49 gX7_gate_X4_set (by decide) (Nat.le_of_ble_eq_true rfl) ⟨Nat.zero_le _, Nat.zero_le _⟩ ?_
        refine jj_iload_n (pc := 52) 3 dX7_gate_52 rfl rfl ?_
        refine jjx_zret (pc := 53) rfl dX7_gate_53 (Nat.zero_le _) (Nat.zero_le _) ?_
        have e4 := bI_1 h4
        exact ⟨by simp [gGate, e4, h26, h41], by rw [decide_eq_false h26]; rfl, by rw [bz, if_pos h41]⟩
      · refine jj_iconst (pc := 44) (v := 1) dX7_gate_44 rfl ?_
        refine jj_goto (pc := 45) 49 dX7_gate_45 (by decide) ?_
        refine jj_rset (pc := 49) (r := 0) (by decide) dX7_gate_49 gX7_gate_X4_set (by decide) (Nat.le_of_ble_eq_true rfl) ⟨Nat.zero_le _, Nat.zero_le _⟩ ?_
        refine jj_iload_n (pc := 52) 3 dX7_gate_52 rfl rfl ?_
        refine jjx_zret (pc := 53) rfl dX7_gate_53 (Nat.zero_le _) (Nat.zero_le _) ?_
        have e4 := bI_1 h4
        exact ⟨by simp [gGate, e4, h26, h41], by rw [decide_eq_false h26]; rfl, by rw [bz, if_neg h41]⟩
    · refine jj_iconst (pc := 29) (v := 1) dX7_gate_29 rfl ?_
      refine jj_goto (pc := 30) 34 dX7_gate_30 (by decide) ?_
      refine jj_istore_n_3 (pc := 34) dX7_gate_34 rfl rfl (by decide) ?_
      refine jj_aload_n (pc := 35) 0 dX7_gate_35 rfl rfl ?_
      refine jj_g_0_6 (pc := 36) dX7_gate_36 fd_X7_gate_52 ?_
      refine jj_iload_n (pc := 39) 1 dX7_gate_39 rfl rfl ?_
      refine jj_iload_n (pc := 40) 2 dX7_gate_40 rfl rfl ?_
      refine jj_if_eq (pc := 41) 48 dX7_gate_41 (by decide) (fun h41 => ?_) (fun h41 => ?_)
      · refine jj_iconst (pc := 48) (v := 0) dX7_gate_48 rfl ?_
        refine jj_rset (pc := 49) (r := 0) (by decide) dX7_gate_49 gX7_gate_X4_set (by decide) (Nat.le_of_ble_eq_true rfl) ⟨Nat.zero_le _, Nat.zero_le _⟩ ?_
        refine jj_iload_n (pc := 52) 3 dX7_gate_52 rfl rfl ?_
        refine jjx_zret (pc := 53) rfl dX7_gate_53 (Nat.zero_le _) (Nat.zero_le _) ?_
        have e4 := bI_1 h4
        exact ⟨by simp [gGate, e4, h26, h41], by rw [decide_eq_true h26]; rfl, by rw [bz, if_pos h41]⟩
      · refine jj_iconst (pc := 44) (v := 1) dX7_gate_44 rfl ?_
        refine jj_goto (pc := 45) 49 dX7_gate_45 (by decide) ?_
        refine jj_rset (pc := 49) (r := 0) (by decide) dX7_gate_49 gX7_gate_X4_set (by decide) (Nat.le_of_ble_eq_true rfl) ⟨Nat.zero_le _, Nat.zero_le _⟩ ?_
        refine jj_iload_n (pc := 52) 3 dX7_gate_52 rfl rfl ?_
        refine jjx_zret (pc := 53) rfl dX7_gate_53 (Nat.zero_le _) (Nat.zero_le _) ?_
        have e4 := bI_1 h4
        exact ⟨by simp [gGate, e4, h26, h41], by rw [decide_eq_true h26]; rfl, by rw [bz, if_neg h41]⟩
  · refine jjx_throw (pc := 7) "no such symbol" hl0 jxc_IOB fx_X7_gate_IOB (by decide +kernel) dX7_gate_7 dX7_gate_10 dX7_gate_11 dX7_gate_13 dX7_gate_16 (by decide) (Nat.le_of_ble_eq_true rfl) ?_
    have e4 := bI_0 h4
    exact ⟨by simp [gGate, e4], rfl⟩
def gOfPatch (S : jS) (k w : Int32) : Option String := if mWithin k (S.1 18) = true then (if mWithin w 4 = true then none else some "java/lang/IllegalArgumentException") else some "java/lang/IndexOutOfBoundsException"
theorem fx_X7_ofPatch_IOB : jXwd RX7 wsX7_ofPatch 82 86 "java/lang/IndexOutOfBoundsException" := ⟨by decide +kernel, by decide +kernel, by decide +kernel⟩
theorem fx_X7_ofPatch_IAE : jXwd RX7 wsX7_ofPatch 90 94 "java/lang/IllegalArgumentException" := ⟨by decide +kernel, by decide +kernel, by decide +kernel⟩
set_option maxHeartbeats 4000000 in
theorem c_X7_ofPatch (l : Launch) (hl0 : l.stackTraces = false) (D : va_G) (cA : ClassId) (ob ro ar : Nat → Nat) (S : jS) (k w : Int32) : jjConX l yX7_ofPatch wsX7_ofPatch 6 D cA [.ref (ob 0), .int k, .int w] (jW cA ob ro ar S) 1 6 (fun r0 w0 => gOfPatch S k w = none ∧ r0 = some (.int (tPatch S k w)) ∧ w0 = jW cA ob ro ar S) (fun E w0 => gOfPatch S k w = some E ∧ w0 = jW cA ob ro ar S) := by
  refine jjConX_of (own := RX7) (cc := cX7_ofPatch) (nL := 3) (rt := (some .int)) [some (.ref (ob 0)), some (.int k), some (.int w)] jm_X7_ofPatch (by decide +kernel) rfl (Nat.le_of_ble_eq_true rfl) rfl ?_
  refine jj_iload_n (pc := 0) 1 dX7_ofPatch_0 rfl rfl ?_
  refine jj_aload_n (pc := 1) 0 dX7_ofPatch_1 rfl rfl ?_
  refine jj_g_0_5 (pc := 2) dX7_ofPatch_2 fd_X7_ofPatch_43 ?_
  refine jj_g_6_3 (pc := 5) dX7_ofPatch_5 fd_X7_ofPatch_246 ?_
  refine jj_callSr (pc := 8) _ (c_X7_isWithin l D cA ob ro ar _ _ _) dX7_ofPatch_8 gX7_ofPatch_X7_isWithin jm_X7_isWithin (by decide) rfl rfl (Nat.le_of_ble_eq_true rfl) ⟨Nat.zero_le _, Nat.zero_le _⟩ ?_
  refine jj_if_ne (pc := 11) 25 dX7_ofPatch_11 (by decide) (fun h11 => ?_) (fun h11 => ?_)
  · refine jj_iload_n (pc := 25) 2 dX7_ofPatch_25 rfl rfl ?_
    refine jj_iconst (pc := 26) (v := 4) dX7_ofPatch_26 rfl ?_
    refine jj_callSr (pc := 27) _ (c_X7_isWithin l D cA ob ro ar _ _ _) dX7_ofPatch_27 gX7_ofPatch_X7_isWithin jm_X7_isWithin (by decide) rfl rfl (Nat.le_of_ble_eq_true rfl) ⟨Nat.zero_le _, Nat.zero_le _⟩ ?_
    refine jj_if_ne (pc := 30) 43 dX7_ofPatch_30 (by decide) (fun h30 => ?_) (fun h30 => ?_)
    · refine jj_aload_n (pc := 43) 0 dX7_ofPatch_43 rfl rfl ?_
      refine jj_iload_n (pc := 44) 1 dX7_ofPatch_44 rfl rfl ?_
      refine jj_iload_n (pc := 45) 2 dX7_ofPatch_45 rfl rfl ?_
      refine jj_callVr (pc := 46) _ (c_X7_tellPatch l D cA ob ro ar _ _ _) dX7_ofPatch_46 gX7_ofPatch_X7_tellPatch jm_X7_tellPatch rfl (by decide) 0 jq_0 rfl rfl rfl (Nat.le_of_ble_eq_true rfl) ⟨Nat.zero_le _, Nat.zero_le _⟩ ?_
      refine jjx_iret (pc := 49) dX7_ofPatch_49 (Nat.zero_le _) (Nat.zero_le _) ?_
      have e11 := bI_1 h11
      have e30 := bI_1 h30
      exact ⟨by simp [gOfPatch, e11, e30], rfl, rfl⟩
    · refine jjx_throw (pc := 33) "what is not 0 to 3" hl0 jxc_IAE fx_X7_ofPatch_IAE (by decide +kernel) dX7_ofPatch_33 dX7_ofPatch_36 dX7_ofPatch_37 dX7_ofPatch_39 dX7_ofPatch_42 (by decide) (Nat.le_of_ble_eq_true rfl) ?_
      have e11 := bI_1 h11
      have e30 := bI_0 h30
      exact ⟨by simp [gOfPatch, e11, e30], rfl⟩
  · refine jjx_throwW (pc := 14) "no such patch" hl0 jxc_IOB fx_X7_ofPatch_IOB (by decide +kernel) dX7_ofPatch_14 dX7_ofPatch_17 dX7_ofPatch_18 dX7_ofPatch_21 dX7_ofPatch_24 (by decide) (Nat.le_of_ble_eq_true rfl) ?_
    have e11 := bI_0 h11
    exact ⟨by simp [gOfPatch, e11], rfl⟩
def gBacksFor (S : jS) (k : Int32) : Option String := if mWait S k = true then none else some "java/lang/IndexOutOfBoundsException"
theorem fx_X7_backsFor_IOB : jXwd RX7 wsX7_backsFor 82 86 "java/lang/IndexOutOfBoundsException" := ⟨by decide +kernel, by decide +kernel, by decide +kernel⟩
set_option maxHeartbeats 4000000 in
theorem c_X7_backsFor (l : Launch) (hl0 : l.stackTraces = false) (D : va_G) (cA : ClassId) (ob ro ar : Nat → Nat) (S : jS) (k : Int32) : jjConX l yX7_backsFor wsX7_backsFor 6 D cA [.ref (ob 0), .int k] (jW cA ob ro ar S) 1 6 (fun r0 w0 => gBacksFor S k = none ∧ r0 = some (.int (mBackT S (mStand S 1 (mPSym S k)) 4)) ∧ w0 = jW cA ob ro ar S) (fun E w0 => gBacksFor S k = some E ∧ w0 = jW cA ob ro ar S) := by
  refine jjConX_of (own := RX7) (cc := cX7_backsFor) (nL := 3) (rt := (some .int)) [some (.ref (ob 0)), some (.int k), none] jm_X7_backsFor (by decide +kernel) rfl (Nat.le_of_ble_eq_true rfl) rfl ?_
  refine jj_aload_n (pc := 0) 0 dX7_backsFor_0 rfl rfl ?_
  refine jj_g_0_5 (pc := 1) dX7_backsFor_1 fd_X7_backsFor_43 ?_
  refine jj_iload_n (pc := 4) 1 dX7_backsFor_4 rfl rfl ?_
  refine jj_callVr (pc := 5) _ (c_X3_isWaiting l D cA ob ro ar _ _) dX7_backsFor_5 gX7_backsFor_X3_isWaiting jm_X3_isWaiting rfl (by decide) 6 jq_6 rfl rfl rfl (Nat.le_of_ble_eq_true rfl) ⟨Nat.zero_le _, Nat.zero_le _⟩ ?_
  refine jj_if_ne (pc := 8) 22 dX7_backsFor_8 (by decide) (fun h8 => ?_) (fun h8 => ?_)
  · refine jj_aload_n (pc := 22) 0 dX7_backsFor_22 rfl rfl ?_
    refine jj_g_0_0 (pc := 23) dX7_backsFor_23 fd_X7_backsFor_12 ?_
    refine jj_g_1_3 (pc := 26) dX7_backsFor_26 fd_X7_backsFor_266 ?_
    refine jj_aload_n (pc := 29) 0 dX7_backsFor_29 rfl rfl ?_
    refine jj_g_0_5 (pc := 30) dX7_backsFor_30 fd_X7_backsFor_43 ?_
    refine jj_g_6_0 (pc := 33) dX7_backsFor_33 fd_X7_backsFor_269 ?_
    refine jj_iload_n (pc := 36) 1 dX7_backsFor_36 rfl rfl ?_
    refine jj_rget (pc := 37) (r := 31) (by decide) dX7_backsFor_37 gX7_backsFor_X4_get (by decide) (Nat.le_of_ble_eq_true rfl) ⟨Nat.zero_le _, Nat.zero_le _⟩ ?_
    refine jj_rget (pc := 40) (r := 3) (by decide) dX7_backsFor_40 gX7_backsFor_X4_get (by decide) (Nat.le_of_ble_eq_true rfl) ⟨Nat.zero_le _, Nat.zero_le _⟩ ?_
    refine jj_istore_n_2 (pc := 43) dX7_backsFor_43 rfl rfl (by decide) ?_
    refine jj_aload_n (pc := 44) 0 dX7_backsFor_44 rfl rfl ?_
    refine jj_g_0_4 (pc := 45) dX7_backsFor_45 fd_X7_backsFor_36 ?_
    refine jj_aload_n (pc := 48) 0 dX7_backsFor_48 rfl rfl ?_
    refine jj_g_0_2 (pc := 49) dX7_backsFor_49 fd_X7_backsFor_26 ?_
    refine jj_g_3_1 (pc := 52) dX7_backsFor_52 fd_X7_backsFor_116 ?_
    refine jj_g_8_3 (pc := 55) dX7_backsFor_55 fd_X7_backsFor_205 ?_
    refine jj_iload_n (pc := 58) 2 dX7_backsFor_58 rfl rfl ?_
    refine jj_rget (pc := 59) (r := 17) (by decide) dX7_backsFor_59 gX7_backsFor_X4_get (by decide) (Nat.le_of_ble_eq_true rfl) ⟨Nat.zero_le _, Nat.zero_le _⟩ ?_
    refine jj_callVr (pc := 62) _ (c_X5_backsTillWithout l D cA ob ro ar _ _) dX7_backsFor_62 gX7_backsFor_X5_backsTillWithout jm_X5_backsTillWithout rfl (by decide) 5 jq_5 rfl rfl rfl (Nat.le_of_ble_eq_true rfl) ⟨Nat.zero_le _, Nat.zero_le _⟩ ?_
    refine jjx_iret (pc := 65) dX7_backsFor_65 (Nat.zero_le _) (Nat.zero_le _) ?_
    have e8 := bI_1 h8
    exact ⟨by simp [gBacksFor, e8], rfl, rfl⟩
  · refine jjx_throwW (pc := 11) "no such patch that waits" hl0 jxc_IOB fx_X7_backsFor_IOB (by decide +kernel) dX7_backsFor_11 dX7_backsFor_14 dX7_backsFor_15 dX7_backsFor_18 dX7_backsFor_21 (by decide) (Nat.le_of_ble_eq_true rfl) ?_
    have e8 := bI_0 h8
    exact ⟨by simp [gBacksFor, e8], rfl⟩
def gIsl (_ : jS) (r : Int32) : Option String := if mRch r = true then none else some "java/lang/IllegalArgumentException"
theorem fx_X7_islandsWith_IAE : jXwd RX7 wsX7_islandsWith 90 94 "java/lang/IllegalArgumentException" := ⟨by decide +kernel, by decide +kernel, by decide +kernel⟩
set_option maxHeartbeats 4000000 in
theorem c_X7_islandsWith (l : Launch) (hl0 : l.stackTraces = false) (D : va_G) (cA : ClassId) (ob ro ar : Nat → Nat) (S : jS) (r : Int32) : jjConX l yX7_islandsWith wsX7_islandsWith 6 D cA [.ref (ob 0), .int r] (jW cA ob ro ar S) 1 6 (fun r0 w0 => gIsl S r = none ∧ r0 = some (.int ((lkTry S r (-1)).1 9)) ∧ w0 = jW cA ob ro ar (lkTry S r (-1))) (fun E w0 => gIsl S r = some E ∧ w0 = jW cA ob ro ar S) := by
  refine jjConX_of (own := RX7) (cc := cX7_islandsWith) (nL := 2) (rt := (some .int)) [some (.ref (ob 0)), some (.int r)] jm_X7_islandsWith (by decide +kernel) rfl (Nat.le_of_ble_eq_true rfl) rfl ?_
  refine jj_iload_n (pc := 0) 1 dX7_islandsWith_0 rfl rfl ?_
  refine jj_callSr (pc := 1) _ (c_X7_isReach l D cA ob ro ar _ _) dX7_islandsWith_1 gX7_islandsWith_X7_isReach jm_X7_isReach (by decide) rfl rfl (Nat.le_of_ble_eq_true rfl) ⟨Nat.zero_le _, Nat.zero_le _⟩ ?_
  refine jj_if_ne (pc := 4) 17 dX7_islandsWith_4 (by decide) (fun h4 => ?_) (fun h4 => ?_)
  · refine jj_aload_n (pc := 17) 0 dX7_islandsWith_17 rfl rfl ?_
    refine jj_g_0_1 (pc := 18) dX7_islandsWith_18 fd_X7_islandsWith_19 ?_
    refine jj_aload_n (pc := 21) 0 dX7_islandsWith_21 rfl rfl ?_
    refine jj_g_0_0 (pc := 22) dX7_islandsWith_22 fd_X7_islandsWith_12 ?_
    refine jj_iload_n (pc := 25) 1 dX7_islandsWith_25 rfl rfl ?_
    refine jj_iconst (pc := 26) (v := (-1)) dX7_islandsWith_26 rfl ?_
    refine jj_callVv (pc := 27) _ (c_X2_attempt l D cA ob ro ar _ _ _) dX7_islandsWith_27 gX7_islandsWith_X2_attempt jm_X2_attempt rfl (by decide) 2 jq_2 rfl rfl rfl (Nat.le_of_ble_eq_true rfl) ⟨Nat.zero_le _, Nat.zero_le _⟩ ?_
    refine jj_aload_n (pc := 30) 0 dX7_islandsWith_30 rfl rfl ?_
    refine jj_g_0_1 (pc := 31) dX7_islandsWith_31 fd_X7_islandsWith_19 ?_
    refine jj_g_2_0 (pc := 34) dX7_islandsWith_34 fd_X7_islandsWith_149 ?_
    refine jj_g_7_2 (pc := 37) dX7_islandsWith_37 fd_X7_islandsWith_275 ?_
    refine jjx_iret (pc := 40) dX7_islandsWith_40 (Nat.zero_le _) (Nat.zero_le _) ?_
    have e4 := bI_1 h4
    exact ⟨by simp [gIsl, e4], rfl, rfl⟩
  · refine jjx_throw (pc := 7) "reach is not 5 to 100" hl0 jxc_IAE fx_X7_islandsWith_IAE (by decide +kernel) dX7_islandsWith_7 dX7_islandsWith_10 dX7_islandsWith_11 dX7_islandsWith_13 dX7_islandsWith_16 (by decide) (Nat.le_of_ble_eq_true rfl) ?_
    have e4 := bI_0 h4
    exact ⟨by simp [gIsl, e4], rfl⟩
def gFw (S : jS) (b : Int32) : Option String := if mWithin b (S.1 1) = true then none else some "java/lang/IndexOutOfBoundsException"
theorem fx_X7_faultsWithout_IOB : jXwd RX7 wsX7_faultsWithout 82 86 "java/lang/IndexOutOfBoundsException" := ⟨by decide +kernel, by decide +kernel, by decide +kernel⟩
set_option maxHeartbeats 4000000 in
theorem c_X7_faultsWithout (l : Launch) (hl0 : l.stackTraces = false) (D : va_G) (cA : ClassId) (ob ro ar : Nat → Nat) (S : jS) (b : Int32) : jjConX l yX7_faultsWithout wsX7_faultsWithout 6 D cA [.ref (ob 0), .int b] (jW cA ob ro ar S) 1 6 (fun r0 w0 => gFw S b = none ∧ r0 = some (.int ((lkTry S (S.1 0) b).1 3)) ∧ w0 = jW cA ob ro ar (lkTry S (S.1 0) b)) (fun E w0 => gFw S b = some E ∧ w0 = jW cA ob ro ar S) := by
  refine jjConX_of (own := RX7) (cc := cX7_faultsWithout) (nL := 2) (rt := (some .int)) [some (.ref (ob 0)), some (.int b)] jm_X7_faultsWithout (by decide +kernel) rfl (Nat.le_of_ble_eq_true rfl) rfl ?_
  refine jj_iload_n (pc := 0) 1 dX7_faultsWithout_0 rfl rfl ?_
  refine jj_aload_n (pc := 1) 0 dX7_faultsWithout_1 rfl rfl ?_
  refine jj_g_0_0 (pc := 2) dX7_faultsWithout_2 fd_X7_faultsWithout_12 ?_
  refine jj_g_1_1 (pc := 5) dX7_faultsWithout_5 fd_X7_faultsWithout_60 ?_
  refine jj_callSr (pc := 8) _ (c_X7_isWithin l D cA ob ro ar _ _ _) dX7_faultsWithout_8 gX7_faultsWithout_X7_isWithin jm_X7_isWithin (by decide) rfl rfl (Nat.le_of_ble_eq_true rfl) ⟨Nat.zero_le _, Nat.zero_le _⟩ ?_
  refine jj_if_ne (pc := 11) 25 dX7_faultsWithout_11 (by decide) (fun h11 => ?_) (fun h11 => ?_)
  · refine jj_aload_n (pc := 25) 0 dX7_faultsWithout_25 rfl rfl ?_
    refine jj_g_0_1 (pc := 26) dX7_faultsWithout_26 fd_X7_faultsWithout_19 ?_
    refine jj_aload_n (pc := 29) 0 dX7_faultsWithout_29 rfl rfl ?_
    refine jj_g_0_0 (pc := 30) dX7_faultsWithout_30 fd_X7_faultsWithout_12 ?_
    refine jj_aload_n (pc := 33) 0 dX7_faultsWithout_33 rfl rfl ?_
    refine jj_g_0_7 (pc := 34) dX7_faultsWithout_34 fd_X7_faultsWithout_56 ?_
    refine jj_iload_n (pc := 37) 1 dX7_faultsWithout_37 rfl rfl ?_
    refine jj_callVv (pc := 38) _ (c_X2_attempt l D cA ob ro ar _ _ _) dX7_faultsWithout_38 gX7_faultsWithout_X2_attempt jm_X2_attempt rfl (by decide) 2 jq_2 rfl rfl rfl (Nat.le_of_ble_eq_true rfl) ⟨Nat.zero_le _, Nat.zero_le _⟩ ?_
    refine jj_aload_n (pc := 41) 0 dX7_faultsWithout_41 rfl rfl ?_
    refine jj_g_0_1 (pc := 42) dX7_faultsWithout_42 fd_X7_faultsWithout_19 ?_
    refine jj_g_2_3 (pc := 45) dX7_faultsWithout_45 fd_X7_faultsWithout_146 ?_
    refine jjx_iret (pc := 48) dX7_faultsWithout_48 (Nat.zero_le _) (Nat.zero_le _) ?_
    have e11 := bI_1 h11
    exact ⟨by simp [gFw, e11], rfl, rfl⟩
  · refine jjx_throwW (pc := 14) "no such object" hl0 jxc_IOB fx_X7_faultsWithout_IOB (by decide +kernel) dX7_faultsWithout_14 dX7_faultsWithout_17 dX7_faultsWithout_18 dX7_faultsWithout_21 dX7_faultsWithout_24 (by decide) (Nat.le_of_ble_eq_true rfl) ?_
    have e11 := bI_0 h11
    exact ⟨by simp [gFw, e11], rfl⟩
def gPlace (_ : jS) (z : Int32) : Option String := if ¬ z < 1 ∧ z ≤ 200 then none else some "java/lang/IllegalArgumentException"
theorem fx_X7_place_IAE : jXwd RX7 wsX7_place 90 94 "java/lang/IllegalArgumentException" := ⟨by decide +kernel, by decide +kernel, by decide +kernel⟩
set_option maxHeartbeats 4000000 in
theorem c_X7_place (l : Launch) (hl0 : l.stackTraces = false) (D : va_G) (cA : ClassId) (ob ro ar : Nat → Nat) (S : jS) (z : Int32) : jjConX l yX7_place wsX7_place 6 D cA [.ref (ob 0), .int z] (jW cA ob ro ar S) 1 6 (fun r0 w0 => gPlace S z = none ∧ r0 = some (.int (mRoom S 23 z)) ∧ w0 = jW cA ob ro ar S) (fun E w0 => gPlace S z = some E ∧ w0 = jW cA ob ro ar S) := by
  refine jjConX_of (own := RX7) (cc := cX7_place) (nL := 2) (rt := (some .int)) [some (.ref (ob 0)), some (.int z)] jm_X7_place (by decide +kernel) rfl (Nat.le_of_ble_eq_true rfl) rfl ?_
  refine jj_iload_n (pc := 0) 1 dX7_place_0 rfl rfl ?_
  refine jj_iconst (pc := 1) (v := 1) dX7_place_1 rfl ?_
  refine jj_icmp_lt (pc := 2) 12 dX7_place_2 (by decide) (fun h2 => ?_) (fun h2 => ?_)
  · refine jjx_throwW (pc := 12) "size is not 1 to 200" hl0 jxc_IAE fx_X7_place_IAE (by decide +kernel) dX7_place_12 dX7_place_15 dX7_place_16 dX7_place_19 dX7_place_22 (by decide) (Nat.le_of_ble_eq_true rfl) ?_
    exact ⟨by simp [gPlace, h2], rfl⟩
  · refine jj_iload_n (pc := 5) 1 dX7_place_5 rfl rfl ?_
    refine jj_sipush (pc := 6) (v := 200) dX7_place_6 rfl ?_
    refine jj_icmp_le (pc := 9) 23 dX7_place_9 (by decide) (fun h9 => ?_) (fun h9 => ?_)
    · refine jj_aload_n (pc := 23) 0 dX7_place_23 rfl rfl ?_
      refine jj_g_0_2 (pc := 24) dX7_place_24 fd_X7_place_26 ?_
      refine jj_iload_n (pc := 27) 1 dX7_place_27 rfl rfl ?_
      refine jj_callVr (pc := 28) _ (c_X0_room_0 l D cA ob ro ar _ _) dX7_place_28 gX7_place_X0_room jm_X0_room rfl (by decide) 3 jq_3 rfl rfl rfl (Nat.le_of_ble_eq_true rfl) ⟨Nat.zero_le _, Nat.zero_le _⟩ ?_
      refine jjx_iret (pc := 31) dX7_place_31 (Nat.zero_le _) (Nat.zero_le _) ?_
      exact ⟨by simp [gPlace, h2, h9], rfl, rfl⟩
    · refine jjx_throwW (pc := 12) "size is not 1 to 200" hl0 jxc_IAE fx_X7_place_IAE (by decide +kernel) dX7_place_12 dX7_place_15 dX7_place_16 dX7_place_19 dX7_place_22 (by decide) (Nat.le_of_ble_eq_true rfl) ?_
      exact ⟨by simp [gPlace, h2, h9], rfl⟩
