/-! The class Linker (ob 2, its layout 0): one linking that is tried. -/
def mPc (S : jS) : Nat := (S.1 2).toNatClampNeg
def mOb (S : jS) : Nat := (S.1 1).toNatClampNeg
def lkFault (S : jS) (c y : Int32) : jS := js (jset (jset S 9 (S.1 3) c) 10 (S.1 3) y) 3 (S.1 3 + 1)
def lkBegin (S : jS) (r : Int32) : jS := js (js (js (js (jfill (jClear S 0 r) 12 0) 4 0) 5 0) 6 0) 3 0
def tk1 (S : jS) (b : Int32) : jS := js (jset S 11 (S.1 8) b) 8 (S.1 8 + 1)
def tk2 (S : jS) (b : Int32) : jS := js (tk1 S b) 4 ((tk1 S b).1 4 ||| mSymB (tk1 S b) b ((tk1 S b).1 2).toNatClampNeg)
def lkTake (S : jS) (b : Int32) : jS := js (tk2 S b) 5 ((tk2 S b).1 5 ||| mTgB (tk2 S b) b ((tk2 S b).1 2).toNatClampNeg)
theorem lkTake_1 (S : jS) (b : Int32) {k : Nat} (h5 : k ≠ 5) (h4 : k ≠ 4) (h8 : k ≠ 8) : (lkTake S b).1 k = S.1 k := by
  rw [lkTake, js_n _ _ h5, tk2, js_n _ _ h4, tk1, js_n _ _ h8]; rfl
def pl1 (wo : Int32) (i : Nat) (T : jS) : jS := if nI i ≠ wo ∧ jg T 1 (nI i) = 0 then lkTake T (nI i) else T
def lkPlain (S : jS) (wo : Int32) : jS := jfo (pl1 wo) S (mOb S)
def mNeedQ (S : jS) (wo : Int32) (i : Nat) : Bool := decide (nI i ≠ wo ∧ jg S 1 (nI i) = 1) && decide (mSymB S (nI i) (S.1 2).toNatClampNeg &&& S.1 5 &&& (S.1 4 ^^^ (-1)) ≠ 0)
def mNeed (S : jS) (wo : Int32) : Int32 := jfI (mNeedQ S wo) (mOb S)
def nd1 (wo : Int32) (_ : Nat) (T : jS) : jS := if mNeed T wo = -1 then T else lkTake T (mNeed T wo)
def lkNeeded (S : jS) (wo : Int32) : jS := jfo (nd1 wo) S 8
def cnFirst (S : jS) (p : Int32) : Bool := decide (jg S 5 p = 1) && decide (jg S 12 (jg S 3 p) = 0)
def cn1 (S : jS) (p : Int32) : jS := if cnFirst S p = true ∨ jg S 14 (jg S 3 p) = -1 then jset S 14 (jg S 3 p) p else S
def lkCons (S : jS) (p : Int32) : jS := if jg S 5 p = 1 then jadd (cn1 S p) 12 (jg S 3 p) 1 else cn1 S p
theorem lkCons_1 (S : jS) (p : Int32) : (lkCons S p).1 = S.1 := by
  have h : (cn1 S p).1 = S.1 := by unfold cn1; split <;> rfl
  unfold lkCons; split
  · exact h
  · exact h
def ch2 (i : Nat) (p : Nat) (T : jS) : jS := if jg T 2 (nI p) = jg T 11 (nI i) then lkCons T (nI p) else T
theorem ch2_1 (i p : Nat) (T : jS) : (ch2 i p T).1 = T.1 := by unfold ch2; split <;> first | rfl | exact lkCons_1 _ _
def ch1 (i : Nat) (T : jS) : jS := jfo (ch2 i) T (mPc T)
theorem ch1_1 (i : Nat) (T : jS) : (ch1 i T).1 = T.1 := funext fun k => jfo_1 (b := k) (fun q U => by rw [ch2_1]) T _
def lkChoose (S : jS) : jS := jfo ch1 S (S.1 8).toNatClampNeg
def db1 (i : Nat) (T : jS) : jS := if jg T 12 (nI i) < 2 then T else lkFault T 1 (nI i)
def lkDouble (S : jS) : jS := jfo db1 S 16
def ms1 (i : Nat) (T : jS) : jS := if T.1 5 >>> (nI i &&& 31) &&& 1 = 1 ∧ jg T 14 (nI i) = -1 then lkFault T 2 (nI i) else T
def lkMissing (S : jS) : jS := jfo ms1 S 16
def lkp1 (b : Int32) (p : Nat) (T : jS) : jS := if jg T 2 (nI p) = b then js (jset T 15 (nI p) (T.1 6)) 6 (T.1 6 + jg T 4 (nI p)) else T
theorem lkp1_1 {b : Int32} {k : Nat} (hk : k ≠ 6) (p : Nat) (T : jS) : (lkp1 b p T).1 k = T.1 k := by unfold lkp1; split <;> first | rfl | exact js_n _ _ hk
def lkPieces (S : jS) (b : Int32) : jS := jfo (lkp1 b) S (mPc S)
def li1 (b : Int32) (i : Nat) (T : jS) : jS := if jg T 13 (nI i) / 16 = b then js (jset T 16 (jg T 13 (nI i)) (T.1 6)) 6 (T.1 6 + 1) else T
theorem li1_1 {b : Int32} {k : Nat} (hk : k ≠ 6) (p : Nat) (T : jS) : (li1 b p T).1 k = T.1 k := by unfold li1; split <;> first | rfl | exact js_n _ _ hk
def lkIslands (S : jS) (b : Int32) : jS := jfo (li1 b) S (S.1 9).toNatClampNeg
def la1 (i : Nat) (T : jS) : jS := lkIslands (lkPieces T (jg T 11 (nI i))) (jg (lkPieces T (jg T 11 (nI i))) 11 (nI i))
theorem la1_1 {k : Nat} (hk : k ≠ 6) (i : Nat) (T : jS) : (la1 i T).1 k = T.1 k := by
  unfold la1 lkIslands lkPieces
  rw [jfo_1 (fun q U => li1_1 hk q U), jfo_1 (fun q U => lkp1_1 hk q U)]
def lkAll (S : jS) : jS := jfo la1 (js S 6 0) ((js S 6 0).1 8).toNatClampNeg
def mKey (S : jS) (p : Int32) (k : Nat) : Int32 := jg S 2 p * 16 + mTarget S p (nI k)
def mMisQ (S : jS) (p : Int32) (k : Nat) : Bool := mNear S p (nI k) && !mReSy S 0 p (mTarget S p (nI k)) && decide (mIsl S 0 (mKey S p k) = -1)
def mMis (S : jS) (p : Int32) : Int32 := match jfind (mMisQ S p) (jg S 6 p).toNatClampNeg with
  | some k => mKey S p k
  | none => -1
def jfv (f : Nat → Int32) : Nat → Int32
  | 0 => -1
  | i + 1 => if jfv f i = -1 then f i else jfv f i
theorem jfv_hit {f : Nat → Int32} : ∀ {N i : Nat}, jfv f i = -1 → f i ≠ -1 → i < N → jfv f N = f i
  | 0, i, _, _, h => absurd h (Nat.not_lt_zero i)
  | N + 1, i, h1, h2, h3 => by
    rw [jfv]
    rcases Nat.lt_or_ge i N with z | z
    · rw [jfv_hit h1 h2 z, if_neg h2]
    · rw [show N = i by omega, h1, if_pos rfl]
def mFm2 (S : jS) (i : Nat) (p : Nat) : Int32 := if jg S 2 (nI p) = jg S 11 (nI i) then mMis S (nI p) else -1
def mFm1 (S : jS) (i : Nat) : Int32 := jfv (mFm2 S i) (mPc S)
def mFm (S : jS) : Int32 := jfv (mFm1 S) (S.1 8).toNatClampNeg
def il1 (S : jS) : jS := js (jset S 13 (S.1 9) (mFm S)) 9 (S.1 9 + 1)
def il2 (_ : Nat) (T : jS) : jS := if mFm T = -1 then T else lkAll (il1 T)
def lkLay (S : jS) : jS := jfo il2 (lkAll S) 128
def or1 (i : Nat) (T : jS) : jS := if mLoses T 0 (nI i) = true then lkFault T 3 (nI i) else T
def lkReach (S : jS) : jS := jfo or1 S 16
def at1 (S : jS) (r wo : Int32) : jS := lkMissing (lkDouble (lkChoose (lkNeeded (lkPlain (lkBegin S r) wo) wo)))
def at2 (S : jS) : jS := lkReach (lkLay S)
def at3 (S : jS) : jS := if S.1 6 ≤ 200 then S else lkFault S 4 (-1)
def lkTry (S : jS) (r wo : Int32) : jS := if (at1 S r wo).1 3 ≤ 0 then at3 (at2 (at1 S r wo)) else at1 S r wo
set_option maxHeartbeats 4000000 in
theorem c_X2_addFault (l : Launch) (D : va_G) (cA : ClassId) (ob ro ar : Nat → Nat) (S : jS) (c y : Int32) : jjFn l yX2_addFault wsX2_addFault 1 D cA [.ref (ob 2), .int c, .int y] (jW cA ob ro ar S) none (jW cA ob ro ar (lkFault S c y)) := by
  refine jjCon_of (own := RX2) (cc := cX2_addFault) (nL := 3) (rt := none) (I := jI0) [some (.ref (ob 2)), some (.int c), some (.int y)] jm_X2_addFault (by decide +kernel) rfl (fun _ _ _ _ _ => trivial) (Nat.le_of_ble_eq_true rfl) rfl ?_
  refine jj_aload_n (pc := 0) 0 dX2_addFault_0 rfl rfl ?_
  refine jj_g_2_1 (pc := 1) dX2_addFault_1 fd_X2_addFault_23 ?_
  refine jj_aload_n (pc := 4) 0 dX2_addFault_4 rfl rfl ?_
  refine jj_g_2_3 (pc := 5) dX2_addFault_5 fd_X2_addFault_30 ?_
  refine jj_iload_n (pc := 8) 1 dX2_addFault_8 rfl rfl ?_
  refine jj_rset (pc := 9) (r := 9) (by decide) dX2_addFault_9 gX2_addFault_X4_set (by decide) (Nat.le_of_ble_eq_true rfl) jz ?_
  refine jj_aload_n (pc := 12) 0 dX2_addFault_12 rfl rfl ?_
  refine jj_g_2_2 (pc := 13) dX2_addFault_13 fd_X2_addFault_27 ?_
  refine jj_aload_n (pc := 16) 0 dX2_addFault_16 rfl rfl ?_
  refine jj_g_2_3 (pc := 17) dX2_addFault_17 fd_X2_addFault_30 ?_
  refine jj_iload_n (pc := 20) 2 dX2_addFault_20 rfl rfl ?_
  refine jj_rset (pc := 21) (r := 10) (by decide) dX2_addFault_21 gX2_addFault_X4_set (by decide) (Nat.le_of_ble_eq_true rfl) jz ?_
  refine jj_aload_n (pc := 24) 0 dX2_addFault_24 rfl rfl ?_
  refine jj_dup (pc := 25) dX2_addFault_25 rfl ?_
  refine jj_g_2_3 (pc := 26) dX2_addFault_26 fd_X2_addFault_30 ?_
  refine jj_iconst (pc := 29) (v := 1) dX2_addFault_29 rfl ?_
  refine jj_iadd (pc := 30) dX2_addFault_30 ?_
  refine jj_p_2_3 (pc := 31) dX2_addFault_31 fd_X2_addFault_30 ?_
  refine jj_vret (pc := 34) dX2_addFault_34 ?_
  exact ⟨rfl, rfl⟩
set_option maxHeartbeats 4000000 in
theorem c_X2_begin (l : Launch) (D : va_G) (cA : ClassId) (ob ro ar : Nat → Nat) (S : jS) (r : Int32) : jjFn l yX2_begin wsX2_begin 2 D cA [.ref (ob 2), .int r] (jW cA ob ro ar S) none (jW cA ob ro ar (lkBegin S r)) := by
  refine jjCon_of (own := RX2) (cc := cX2_begin) (nL := 2) (rt := none) (I := jI0) [some (.ref (ob 2)), some (.int r)] jm_X2_begin (by decide +kernel) rfl (fun _ _ _ _ _ => trivial) (Nat.le_of_ble_eq_true rfl) rfl ?_
  refine jj_aload_n (pc := 0) 0 dX2_begin_0 rfl rfl ?_
  refine jj_g_2_0 (pc := 1) dX2_begin_1 fd_X2_begin_12 ?_
  refine jj_iload_n (pc := 4) 1 dX2_begin_4 rfl rfl ?_
  refine jj_callVv (pc := 5) _ (c_X1_clear l D cA ob ro ar _ (j := 0) (by decide) _) dX2_begin_5 gX2_begin_X1_clear jm_X1_clear rfl (by decide) 7 jq_7 rfl rfl rfl (Nat.le_of_ble_eq_true rfl) jz ?_
  refine jj_aload_n (pc := 8) 0 dX2_begin_8 rfl rfl ?_
  refine jj_g_2_5 (pc := 9) dX2_begin_9 fd_X2_begin_37 ?_
  refine jj_iconst (pc := 12) (v := 0) dX2_begin_12 rfl ?_
  refine jj_rfill (pc := 13) (r := 12) (by decide) dX2_begin_13 gX2_begin_X4_fill (by decide) (Nat.le_of_ble_eq_true rfl) jz ?_
  refine jj_aload_n (pc := 16) 0 dX2_begin_16 rfl rfl ?_
  refine jj_iconst (pc := 17) (v := 0) dX2_begin_17 rfl ?_
  refine jj_p_2_7 (pc := 18) dX2_begin_18 fd_X2_begin_43 ?_
  refine jj_aload_n (pc := 21) 0 dX2_begin_21 rfl rfl ?_
  refine jj_iconst (pc := 22) (v := 0) dX2_begin_22 rfl ?_
  refine jj_p_2_8 (pc := 23) dX2_begin_23 fd_X2_begin_46 ?_
  refine jj_aload_n (pc := 26) 0 dX2_begin_26 rfl rfl ?_
  refine jj_iconst (pc := 27) (v := 0) dX2_begin_27 rfl ?_
  refine jj_p_2_9 (pc := 28) dX2_begin_28 fd_X2_begin_49 ?_
  refine jj_aload_n (pc := 31) 0 dX2_begin_31 rfl rfl ?_
  refine jj_iconst (pc := 32) (v := 0) dX2_begin_32 rfl ?_
  refine jj_p_2_3 (pc := 33) dX2_begin_33 fd_X2_begin_30 ?_
  refine jj_vret (pc := 36) dX2_begin_36 ?_
  exact ⟨rfl, rfl⟩
set_option maxHeartbeats 4000000 in
theorem c_X2_takeIn (l : Launch) (D : va_G) (cA : ClassId) (ob ro ar : Nat → Nat) (S : jS) (b : Int32) : jjFn l yX2_takeIn wsX2_takeIn 3 D cA [.ref (ob 2), .ref (ob 1), .int b] (jW cA ob ro ar S) none (jW cA ob ro ar (lkTake S b)) := by
  refine jjCon_of (own := RX2) (cc := cX2_takeIn) (nL := 3) (rt := none) (I := jI0) [some (.ref (ob 2)), some (.ref (ob 1)), some (.int b)] jm_X2_takeIn (by decide +kernel) rfl (fun _ _ _ _ _ => trivial) (Nat.le_of_ble_eq_true rfl) rfl ?_
  refine jj_aload_n (pc := 0) 0 dX2_takeIn_0 rfl rfl ?_
  refine jj_g_2_4 (pc := 1) dX2_takeIn_1 fd_X2_takeIn_34 ?_
  refine jj_aload_n (pc := 4) 0 dX2_takeIn_4 rfl rfl ?_
  refine jj_g_2_0 (pc := 5) dX2_takeIn_5 fd_X2_takeIn_12 ?_
  refine jj_g_7_1 (pc := 8) dX2_takeIn_8 fd_X2_takeIn_107 ?_
  refine jj_iload_n (pc := 11) 2 dX2_takeIn_11 rfl rfl ?_
  refine jj_rset (pc := 12) (r := 11) (by decide) dX2_takeIn_12 gX2_takeIn_X4_set (by decide) (Nat.le_of_ble_eq_true rfl) jz ?_
  refine jj_aload_n (pc := 15) 0 dX2_takeIn_15 rfl rfl ?_
  refine jj_g_2_0 (pc := 16) dX2_takeIn_16 fd_X2_takeIn_12 ?_
  refine jj_dup (pc := 19) dX2_takeIn_19 rfl ?_
  refine jj_g_7_1 (pc := 20) dX2_takeIn_20 fd_X2_takeIn_107 ?_
  refine jj_iconst (pc := 23) (v := 1) dX2_takeIn_23 rfl ?_
  refine jj_iadd (pc := 24) dX2_takeIn_24 ?_
  refine jj_p_7_1 (pc := 25) dX2_takeIn_25 fd_X2_takeIn_107 ?_
  refine jj_aload_n (pc := 28) 0 dX2_takeIn_28 rfl rfl ?_
  refine jj_dup (pc := 29) dX2_takeIn_29 rfl ?_
  refine jj_g_2_7 (pc := 30) dX2_takeIn_30 fd_X2_takeIn_43 ?_
  refine jj_aload_n (pc := 33) 1 dX2_takeIn_33 rfl rfl ?_
  refine jj_iload_n (pc := 34) 2 dX2_takeIn_34 rfl rfl ?_
  refine jj_callVr (pc := 35) _ (c_X6_symbolBits l D cA ob ro ar _ _) dX2_takeIn_35 gX2_takeIn_X6_symbolBits jm_X6_symbolBits rfl (by decide) 1 jq_1 rfl rfl rfl (Nat.le_of_ble_eq_true rfl) jz ?_
  refine jj_ior (pc := 38) dX2_takeIn_38 ?_
  refine jj_p_2_7 (pc := 39) dX2_takeIn_39 fd_X2_takeIn_43 ?_
  refine jj_aload_n (pc := 42) 0 dX2_takeIn_42 rfl rfl ?_
  refine jj_dup (pc := 43) dX2_takeIn_43 rfl ?_
  refine jj_g_2_8 (pc := 44) dX2_takeIn_44 fd_X2_takeIn_46 ?_
  refine jj_aload_n (pc := 47) 1 dX2_takeIn_47 rfl rfl ?_
  refine jj_iload_n (pc := 48) 2 dX2_takeIn_48 rfl rfl ?_
  refine jj_callVr (pc := 49) _ (c_X6_targetBits l D cA ob ro ar _ _) dX2_takeIn_49 gX2_takeIn_X6_targetBits jm_X6_targetBits rfl (by decide) 1 jq_1 rfl rfl rfl (Nat.le_of_ble_eq_true rfl) jz ?_
  refine jj_ior (pc := 52) dX2_takeIn_52 ?_
  refine jj_p_2_8 (pc := 53) dX2_takeIn_53 fd_X2_takeIn_46 ?_
  refine jj_vret (pc := 56) dX2_takeIn_56 ?_
  exact ⟨rfl, rfl⟩
set_option maxHeartbeats 4000000 in
theorem c_X2_takePlainObjects (l : Launch) (D : va_G) (cA : ClassId) (ob ro ar : Nat → Nat) (S : jS) (wo : Int32) : jjFn l yX2_takePlainObjects wsX2_takePlainObjects 4 D cA [.ref (ob 2), .ref (ob 1), .int wo] (jW cA ob ro ar S) none (jW cA ob ro ar (lkPlain S wo)) := by
  refine jjCon_of (own := RX2) (cc := cX2_takePlainObjects) (nL := 4) (rt := none) (I := jI0) [some (.ref (ob 2)), some (.ref (ob 1)), some (.int wo), none] jm_X2_takePlainObjects (by decide +kernel) rfl (fun _ _ _ _ _ => trivial) (Nat.le_of_ble_eq_true rfl) rfl ?_
  have K : ∀ i, i ≤ mOb S → jjV l RX2 cX2_takePlainObjects 4 none jI0 wsX2_takePlainObjects (jjRm 4 0 0) D cA (jjEnd D (fun r0 w0 => r0 = none ∧ w0 = jW cA ob ro ar (lkPlain S wo)) 0 0) 0 0 (jW cA ob ro ar (jfo (pl1 wo) S i)) 2 [some (.ref (ob 2)), some (.ref (ob 1)), some (.int wo), some (.int (nI i))] [] := by
    refine jdown _ ?_ (fun i hi ih => ?_)
    · refine jj_iload_n (pc := 2) 3 dX2_takePlainObjects_2 rfl rfl ?_
      refine jj_aload_n (pc := 3) 1 dX2_takePlainObjects_3 rfl rfl ?_
      refine jj_g_1_1 (pc := 4) dX2_takePlainObjects_4 fd_X2_takePlainObjects_88 ?_
      refine jj_icmp_ge (pc := 7) 38 dX2_takePlainObjects_7 (by decide) (fun h7 => ?_) (fun h7 => ?_)
      · refine jj_vret (pc := 38) dX2_takePlainObjects_38 ?_
        exact ⟨rfl, rfl⟩
      · exact absurd (by rw [(jfo_1 (fun q U => by unfold pl1; split <;> first | rfl | exact lkTake_1 _ _ (by decide) (by decide) (by decide)) S _)]; exact jb_ge rfl) h7
    · refine jj_iload_n (pc := 2) 3 dX2_takePlainObjects_2 rfl rfl ?_
      refine jj_aload_n (pc := 3) 1 dX2_takePlainObjects_3 rfl rfl ?_
      refine jj_g_1_1 (pc := 4) dX2_takePlainObjects_4 fd_X2_takePlainObjects_88 ?_
      refine jj_icmp_ge (pc := 7) 38 dX2_takePlainObjects_7 (by decide) (fun h7 => ?_) (fun h7 => ?_)
      · exact absurd (by rw [(jfo_1 (fun q U => by unfold pl1; split <;> first | rfl | exact lkTake_1 _ _ (by decide) (by decide) (by decide)) S _)] at h7; exact h7) (jb_lt rfl hi)
      · refine jj_iload_n (pc := 10) 3 dX2_takePlainObjects_10 rfl rfl ?_
        refine jj_iload_n (pc := 11) 2 dX2_takePlainObjects_11 rfl rfl ?_
        refine jj_icmp_eq (pc := 12) 32 dX2_takePlainObjects_12 (by decide) (fun h12 => ?_) (fun h12 => ?_)
        · refine jj_iinc_3 (pc := 32) (z := 1) dX2_takePlainObjects_32 rfl rfl (by decide) ?_
          refine jj_goto (pc := 35) 2 dX2_takePlainObjects_35 (by decide) ?_
          rw [nI_succ, jfo, pl1, if_neg (fun z => z.1 h12)] at ih
          exact ih
        · refine jj_aload_n (pc := 15) 1 dX2_takePlainObjects_15 rfl rfl ?_
          refine jj_g_1_0 (pc := 16) dX2_takePlainObjects_16 fd_X2_takePlainObjects_93 ?_
          refine jj_iload_n (pc := 19) 3 dX2_takePlainObjects_19 rfl rfl ?_
          refine jj_rget (pc := 20) (r := 1) (by decide) dX2_takePlainObjects_20 gX2_takePlainObjects_X4_get (by decide) (Nat.le_of_ble_eq_true rfl) jz ?_
          refine jj_if_ne (pc := 23) 32 dX2_takePlainObjects_23 (by decide) (fun h23 => ?_) (fun h23 => ?_)
          · refine jj_iinc_3 (pc := 32) (z := 1) dX2_takePlainObjects_32 rfl rfl (by decide) ?_
            refine jj_goto (pc := 35) 2 dX2_takePlainObjects_35 (by decide) ?_
            rw [nI_succ, jfo, pl1, if_neg (fun z => h23 z.2)] at ih
            exact ih
          · refine jj_aload_n (pc := 26) 0 dX2_takePlainObjects_26 rfl rfl ?_
            refine jj_aload_n (pc := 27) 1 dX2_takePlainObjects_27 rfl rfl ?_
            refine jj_iload_n (pc := 28) 3 dX2_takePlainObjects_28 rfl rfl ?_
            refine jj_callVv (pc := 29) _ (c_X2_takeIn l D cA ob ro ar _ _) dX2_takePlainObjects_29 gX2_takePlainObjects_X2_takeIn jm_X2_takeIn rfl (by decide) 2 jq_2 rfl rfl rfl (Nat.le_of_ble_eq_true rfl) jz ?_
            refine jj_iinc_3 (pc := 32) (z := 1) dX2_takePlainObjects_32 rfl rfl (by decide) ?_
            refine jj_goto (pc := 35) 2 dX2_takePlainObjects_35 (by decide) ?_
            rw [nI_succ, jfo, pl1, if_pos ⟨h12, h23⟩] at ih
            exact ih
  refine jj_iconst (pc := 0) (v := 0) dX2_takePlainObjects_0 rfl ?_
  refine jj_istore_n_3 (pc := 1) dX2_takePlainObjects_1 rfl rfl (by decide) ?_
  exact K 0 (Nat.zero_le _)
set_option maxHeartbeats 4000000 in
theorem c_X2_firstNeededArchive (l : Launch) (D : va_G) (cA : ClassId) (ob ro ar : Nat → Nat) (S : jS) (wo : Int32) : jjFn l yX2_firstNeededArchive wsX2_firstNeededArchive 2 D cA [.ref (ob 2), .ref (ob 1), .int wo] (jW cA ob ro ar S) (some (.int (mNeed S wo))) (jW cA ob ro ar S) := by
  refine jjCon_of (own := RX2) (cc := cX2_firstNeededArchive) (nL := 5) (rt := (some .int)) (I := jI0) [some (.ref (ob 2)), some (.ref (ob 1)), some (.int wo), none, none] jm_X2_firstNeededArchive (by decide +kernel) rfl (fun _ _ _ _ _ => trivial) (Nat.le_of_ble_eq_true rfl) rfl ?_
  have K : ∀ i, i ≤ mOb S → jfind (mNeedQ S wo) i = none → jjV l RX2 cX2_firstNeededArchive 5 (some .int) jI0 wsX2_firstNeededArchive (jjRm 2 0 0) D cA (jjEnd D (fun r0 w0 => r0 = some (.int (mNeed S wo)) ∧ w0 = jW cA ob ro ar S) 0 0) 0 0 (jW cA ob ro ar S) 2 [some (.ref (ob 2)), some (.ref (ob 1)), some (.int wo), some (.int (nI i)), none] [] := by
    refine jdown _ (fun hn => ?_) (fun i hi ih hn => ?_)
    · refine jj_iload_n (pc := 2) 3 dX2_firstNeededArchive_2 rfl rfl ?_
      refine jj_aload_n (pc := 3) 1 dX2_firstNeededArchive_3 rfl rfl ?_
      refine jj_g_1_1 (pc := 4) dX2_firstNeededArchive_4 fd_X2_firstNeededArchive_88 ?_
      refine jj_icmp_ge (pc := 7) 67 dX2_firstNeededArchive_7 (by decide) (fun h7 => ?_) (fun h7 => ?_)
      · refine jj_iconst (pc := 67) (v := (-1)) dX2_firstNeededArchive_67 rfl ?_
        refine jj_iret (pc := 68) dX2_firstNeededArchive_68 ?_
        exact ⟨by rw [mNeed, jfI_none hn], rfl⟩
      · exact absurd (jb_ge rfl) h7
    · refine jj_iload_n (pc := 2) 3 dX2_firstNeededArchive_2 rfl rfl ?_
      refine jj_aload_n (pc := 3) 1 dX2_firstNeededArchive_3 rfl rfl ?_
      refine jj_g_1_1 (pc := 4) dX2_firstNeededArchive_4 fd_X2_firstNeededArchive_88 ?_
      refine jj_icmp_ge (pc := 7) 67 dX2_firstNeededArchive_7 (by decide) (fun h7 => ?_) (fun h7 => ?_)
      · exact absurd h7 (jb_lt rfl hi)
      · refine jj_iload_n (pc := 10) 3 dX2_firstNeededArchive_10 rfl rfl ?_
        refine jj_iload_n (pc := 11) 2 dX2_firstNeededArchive_11 rfl rfl ?_
        refine jj_icmp_eq (pc := 12) 31 dX2_firstNeededArchive_12 (by decide) (fun h12 => ?_) (fun h12 => ?_)
        · refine jj_iconst (pc := 31) (v := 0) dX2_firstNeededArchive_31 rfl ?_
          refine jj_istore_4 (pc := 32) dX2_firstNeededArchive_32 rfl (by decide) ?_
          refine jj_iload (pc := 34) dX2_firstNeededArchive_34 rfl ?_
          refine jj_if_eq (pc := 36) 61 dX2_firstNeededArchive_36 (by decide) (fun h36 => ?_) (fun h36 => ?_)
          · refine jj_iinc_3 (pc := 61) (z := 1) dX2_firstNeededArchive_61 rfl rfl (by decide) ?_
            refine jj_goto (pc := 64) 2 dX2_firstNeededArchive_64 (by decide) ?_
            have h3 := ih (jfind_next hn (by rw [mNeedQ, decide_eq_false (fun z => z.1 h12), Bool.false_and]))
            rw [nI_succ] at h3
            refine jj_sub ?_ h3
            exact jjLe_some (jjLe_some (jjLe_some (jjLe_some (jjLe_none jjLe_nil))))
          · refine jj_aload_n (pc := 39) 1 dX2_firstNeededArchive_39 rfl rfl ?_
            refine jj_iload_n (pc := 40) 3 dX2_firstNeededArchive_40 rfl rfl ?_
            refine jj_callVr (pc := 41) _ (c_X6_symbolBits l D cA ob ro ar _ _) dX2_firstNeededArchive_41 gX2_firstNeededArchive_X6_symbolBits jm_X6_symbolBits rfl (by decide) 1 jq_1 rfl rfl rfl (Nat.le_of_ble_eq_true rfl) jz ?_
            refine jj_aload_n (pc := 44) 0 dX2_firstNeededArchive_44 rfl rfl ?_
            refine jj_g_2_8 (pc := 45) dX2_firstNeededArchive_45 fd_X2_firstNeededArchive_46 ?_
            refine jj_iand (pc := 48) dX2_firstNeededArchive_48 ?_
            refine jj_aload_n (pc := 49) 0 dX2_firstNeededArchive_49 rfl rfl ?_
            refine jj_g_2_7 (pc := 50) dX2_firstNeededArchive_50 fd_X2_firstNeededArchive_43 ?_
            refine jj_iconst (pc := 53) (v := (-1)) dX2_firstNeededArchive_53 rfl ?_
            refine jj_ixor (pc := 54) dX2_firstNeededArchive_54 ?_
            refine jj_iand (pc := 55) dX2_firstNeededArchive_55 ?_
            refine jj_if_eq (pc := 56) 61 dX2_firstNeededArchive_56 (by decide) (fun h56 => ?_) (fun h56 => ?_)
            · refine jj_iinc_3 (pc := 61) (z := 1) dX2_firstNeededArchive_61 rfl rfl (by decide) ?_
              refine jj_goto (pc := 64) 2 dX2_firstNeededArchive_64 (by decide) ?_
              exact absurd rfl h36
            · refine jj_iload_n (pc := 59) 3 dX2_firstNeededArchive_59 rfl rfl ?_
              refine jj_iret (pc := 60) dX2_firstNeededArchive_60 ?_
              exact absurd rfl h36
        · refine jj_aload_n (pc := 15) 1 dX2_firstNeededArchive_15 rfl rfl ?_
          refine jj_g_1_0 (pc := 16) dX2_firstNeededArchive_16 fd_X2_firstNeededArchive_93 ?_
          refine jj_iload_n (pc := 19) 3 dX2_firstNeededArchive_19 rfl rfl ?_
          refine jj_rget (pc := 20) (r := 1) (by decide) dX2_firstNeededArchive_20 gX2_firstNeededArchive_X4_get (by decide) (Nat.le_of_ble_eq_true rfl) jz ?_
          refine jj_iconst (pc := 23) (v := 1) dX2_firstNeededArchive_23 rfl ?_
          refine jj_icmp_ne (pc := 24) 31 dX2_firstNeededArchive_24 (by decide) (fun h24 => ?_) (fun h24 => ?_)
          · refine jj_iconst (pc := 31) (v := 0) dX2_firstNeededArchive_31 rfl ?_
            refine jj_istore_4 (pc := 32) dX2_firstNeededArchive_32 rfl (by decide) ?_
            refine jj_iload (pc := 34) dX2_firstNeededArchive_34 rfl ?_
            refine jj_if_eq (pc := 36) 61 dX2_firstNeededArchive_36 (by decide) (fun h36 => ?_) (fun h36 => ?_)
            · refine jj_iinc_3 (pc := 61) (z := 1) dX2_firstNeededArchive_61 rfl rfl (by decide) ?_
              refine jj_goto (pc := 64) 2 dX2_firstNeededArchive_64 (by decide) ?_
              have h3 := ih (jfind_next hn (by rw [mNeedQ, decide_eq_false (fun z => h24 z.2), Bool.false_and]))
              rw [nI_succ] at h3
              refine jj_sub ?_ h3
              exact jjLe_some (jjLe_some (jjLe_some (jjLe_some (jjLe_none jjLe_nil))))
            · refine jj_aload_n (pc := 39) 1 dX2_firstNeededArchive_39 rfl rfl ?_
              refine jj_iload_n (pc := 40) 3 dX2_firstNeededArchive_40 rfl rfl ?_
              refine jj_callVr (pc := 41) _ (c_X6_symbolBits l D cA ob ro ar _ _) dX2_firstNeededArchive_41 gX2_firstNeededArchive_X6_symbolBits jm_X6_symbolBits rfl (by decide) 1 jq_1 rfl rfl rfl (Nat.le_of_ble_eq_true rfl) jz ?_
              refine jj_aload_n (pc := 44) 0 dX2_firstNeededArchive_44 rfl rfl ?_
              refine jj_g_2_8 (pc := 45) dX2_firstNeededArchive_45 fd_X2_firstNeededArchive_46 ?_
              refine jj_iand (pc := 48) dX2_firstNeededArchive_48 ?_
              refine jj_aload_n (pc := 49) 0 dX2_firstNeededArchive_49 rfl rfl ?_
              refine jj_g_2_7 (pc := 50) dX2_firstNeededArchive_50 fd_X2_firstNeededArchive_43 ?_
              refine jj_iconst (pc := 53) (v := (-1)) dX2_firstNeededArchive_53 rfl ?_
              refine jj_ixor (pc := 54) dX2_firstNeededArchive_54 ?_
              refine jj_iand (pc := 55) dX2_firstNeededArchive_55 ?_
              refine jj_if_eq (pc := 56) 61 dX2_firstNeededArchive_56 (by decide) (fun h56 => ?_) (fun h56 => ?_)
              · refine jj_iinc_3 (pc := 61) (z := 1) dX2_firstNeededArchive_61 rfl rfl (by decide) ?_
                refine jj_goto (pc := 64) 2 dX2_firstNeededArchive_64 (by decide) ?_
                exact absurd rfl h36
              · refine jj_iload_n (pc := 59) 3 dX2_firstNeededArchive_59 rfl rfl ?_
                refine jj_iret (pc := 60) dX2_firstNeededArchive_60 ?_
                exact absurd rfl h36
          · refine jj_iconst (pc := 27) (v := 1) dX2_firstNeededArchive_27 rfl ?_
            refine jj_goto (pc := 28) 32 dX2_firstNeededArchive_28 (by decide) ?_
            refine jj_istore_4 (pc := 32) dX2_firstNeededArchive_32 rfl (by decide) ?_
            refine jj_iload (pc := 34) dX2_firstNeededArchive_34 rfl ?_
            refine jj_if_eq (pc := 36) 61 dX2_firstNeededArchive_36 (by decide) (fun h36 => ?_) (fun h36 => ?_)
            · refine jj_iinc_3 (pc := 61) (z := 1) dX2_firstNeededArchive_61 rfl rfl (by decide) ?_
              refine jj_goto (pc := 64) 2 dX2_firstNeededArchive_64 (by decide) ?_
              exact absurd h36 (by decide)
            · refine jj_aload_n (pc := 39) 1 dX2_firstNeededArchive_39 rfl rfl ?_
              refine jj_iload_n (pc := 40) 3 dX2_firstNeededArchive_40 rfl rfl ?_
              refine jj_callVr (pc := 41) _ (c_X6_symbolBits l D cA ob ro ar _ _) dX2_firstNeededArchive_41 gX2_firstNeededArchive_X6_symbolBits jm_X6_symbolBits rfl (by decide) 1 jq_1 rfl rfl rfl (Nat.le_of_ble_eq_true rfl) jz ?_
              refine jj_aload_n (pc := 44) 0 dX2_firstNeededArchive_44 rfl rfl ?_
              refine jj_g_2_8 (pc := 45) dX2_firstNeededArchive_45 fd_X2_firstNeededArchive_46 ?_
              refine jj_iand (pc := 48) dX2_firstNeededArchive_48 ?_
              refine jj_aload_n (pc := 49) 0 dX2_firstNeededArchive_49 rfl rfl ?_
              refine jj_g_2_7 (pc := 50) dX2_firstNeededArchive_50 fd_X2_firstNeededArchive_43 ?_
              refine jj_iconst (pc := 53) (v := (-1)) dX2_firstNeededArchive_53 rfl ?_
              refine jj_ixor (pc := 54) dX2_firstNeededArchive_54 ?_
              refine jj_iand (pc := 55) dX2_firstNeededArchive_55 ?_
              refine jj_if_eq (pc := 56) 61 dX2_firstNeededArchive_56 (by decide) (fun h56 => ?_) (fun h56 => ?_)
              · refine jj_iinc_3 (pc := 61) (z := 1) dX2_firstNeededArchive_61 rfl rfl (by decide) ?_
                refine jj_goto (pc := 64) 2 dX2_firstNeededArchive_64 (by decide) ?_
                have h3 := ih (jfind_next hn (by rw [mNeedQ, decide_eq_true (show nI i ≠ wo ∧ jg S 1 (nI i) = 1 from ⟨h12, h24⟩), decide_eq_false (fun z => z h56)]; rfl))
                rw [nI_succ] at h3
                refine jj_sub ?_ h3
                exact jjLe_some (jjLe_some (jjLe_some (jjLe_some (jjLe_none jjLe_nil))))
              · refine jj_iload_n (pc := 59) 3 dX2_firstNeededArchive_59 rfl rfl ?_
                refine jj_iret (pc := 60) dX2_firstNeededArchive_60 ?_
                exact ⟨by rw [mNeed, jfI_some (jfind_some hn (by rw [mNeedQ, decide_eq_true ⟨h12, h24⟩, decide_eq_true h56]; rfl) hi)], rfl⟩
  refine jj_iconst (pc := 0) (v := 0) dX2_firstNeededArchive_0 rfl ?_
  refine jj_istore_n_3 (pc := 1) dX2_firstNeededArchive_1 rfl rfl (by decide) ?_
  exact K 0 (Nat.zero_le _) rfl
set_option maxHeartbeats 4000000 in
theorem c_X2_takeNeededArchives (l : Launch) (D : va_G) (cA : ClassId) (ob ro ar : Nat → Nat) (S : jS) (wo : Int32) : jjFn l yX2_takeNeededArchives wsX2_takeNeededArchives 4 D cA [.ref (ob 2), .ref (ob 1), .int wo] (jW cA ob ro ar S) none (jW cA ob ro ar (lkNeeded S wo)) := by
  refine jjCon_of (own := RX2) (cc := cX2_takeNeededArchives) (nL := 5) (rt := none) (I := jI0) [some (.ref (ob 2)), some (.ref (ob 1)), some (.int wo), none, none] jm_X2_takeNeededArchives (by decide +kernel) rfl (fun _ _ _ _ _ => trivial) (Nat.le_of_ble_eq_true rfl) rfl ?_
  have K : ∀ i, i ≤ 8 → jjV l RX2 cX2_takeNeededArchives 5 none jI0 wsX2_takeNeededArchives (jjRm 4 0 0) D cA (jjEnd D (fun r0 w0 => r0 = none ∧ w0 = jW cA ob ro ar (lkNeeded S wo)) 0 0) 0 0 (jW cA ob ro ar (jfo (nd1 wo) S i)) 2 [some (.ref (ob 2)), some (.ref (ob 1)), some (.int wo), some (.int (nI i)), none] [] := by
    refine jdown 8 ?_ (fun i hi ih => ?_)
    · refine jj_iload_n (pc := 2) 3 dX2_takeNeededArchives_2 rfl rfl ?_
      refine jj_bipush (pc := 3) (v := 8) dX2_takeNeededArchives_3 rfl ?_
      refine jj_icmp_ge (pc := 5) 36 dX2_takeNeededArchives_5 (by decide) (fun h5 => ?_) (fun h5 => ?_)
      · refine jj_vret (pc := 36) dX2_takeNeededArchives_36 ?_
        exact ⟨rfl, rfl⟩
      · exact absurd (jb_ge (by decide)) h5
    · refine jj_iload_n (pc := 2) 3 dX2_takeNeededArchives_2 rfl rfl ?_
      refine jj_bipush (pc := 3) (v := 8) dX2_takeNeededArchives_3 rfl ?_
      refine jj_icmp_ge (pc := 5) 36 dX2_takeNeededArchives_5 (by decide) (fun h5 => ?_) (fun h5 => ?_)
      · exact absurd h5 (jb_lt (by decide) hi)
      · refine jj_aload_n (pc := 8) 0 dX2_takeNeededArchives_8 rfl rfl ?_
        refine jj_aload_n (pc := 9) 1 dX2_takeNeededArchives_9 rfl rfl ?_
        refine jj_iload_n (pc := 10) 2 dX2_takeNeededArchives_10 rfl rfl ?_
        refine jj_callVr (pc := 11) _ (c_X2_firstNeededArchive l D cA ob ro ar _ _) dX2_takeNeededArchives_11 gX2_takeNeededArchives_X2_firstNeededArchive jm_X2_firstNeededArchive rfl (by decide) 2 jq_2 rfl rfl rfl (Nat.le_of_ble_eq_true rfl) jz ?_
        refine jj_istore_4 (pc := 14) dX2_takeNeededArchives_14 rfl (by decide) ?_
        refine jj_iload (pc := 16) dX2_takeNeededArchives_16 rfl ?_
        refine jj_iconst (pc := 18) (v := (-1)) dX2_takeNeededArchives_18 rfl ?_
        refine jj_icmp_ne (pc := 19) 23 dX2_takeNeededArchives_19 (by decide) (fun h19 => ?_) (fun h19 => ?_)
        · refine jj_aload_n (pc := 23) 0 dX2_takeNeededArchives_23 rfl rfl ?_
          refine jj_aload_n (pc := 24) 1 dX2_takeNeededArchives_24 rfl rfl ?_
          refine jj_iload (pc := 25) dX2_takeNeededArchives_25 rfl ?_
          refine jj_callVv (pc := 27) _ (c_X2_takeIn l D cA ob ro ar _ _) dX2_takeNeededArchives_27 gX2_takeNeededArchives_X2_takeIn jm_X2_takeIn rfl (by decide) 2 jq_2 rfl rfl rfl (Nat.le_of_ble_eq_true rfl) jz ?_
          refine jj_iinc_3 (pc := 30) (z := 1) dX2_takeNeededArchives_30 rfl rfl (by decide) ?_
          refine jj_goto (pc := 33) 2 dX2_takeNeededArchives_33 (by decide) ?_
          rw [nI_succ, jfo, nd1, if_neg h19] at ih
          refine jj_sub ?_ ih
          exact jjLe_some (jjLe_some (jjLe_some (jjLe_some (jjLe_none jjLe_nil))))
        · refine jj_vret (pc := 22) dX2_takeNeededArchives_22 ?_
          exact ⟨rfl, by rw [lkNeeded, jfo_stop' (Nat.le_of_lt hi) (fun k => by rw [nd1, if_pos h19])]⟩
  refine jj_iconst (pc := 0) (v := 0) dX2_takeNeededArchives_0 rfl ?_
  refine jj_istore_n_3 (pc := 1) dX2_takeNeededArchives_1 rfl rfl (by decide) ?_
  exact K 0 (Nat.zero_le _)
set_option maxHeartbeats 4000000 in
theorem c_X2_considerForSymbol (l : Launch) (D : va_G) (cA : ClassId) (ob ro ar : Nat → Nat) (S : jS) (p : Int32) : jjFn l yX2_considerForSymbol wsX2_considerForSymbol 2 D cA [.ref (ob 2), .ref (ob 1), .int p] (jW cA ob ro ar S) none (jW cA ob ro ar (lkCons S p)) := by
  refine jjCon_of (own := RX2) (cc := cX2_considerForSymbol) (nL := 6) (rt := none) (I := jI0) [some (.ref (ob 2)), some (.ref (ob 1)), some (.int p), none, none, none] jm_X2_considerForSymbol (by decide +kernel) rfl (fun _ _ _ _ _ => trivial) (Nat.le_of_ble_eq_true rfl) rfl ?_
  refine jj_aload_n (pc := 0) 1 dX2_considerForSymbol_0 rfl rfl ?_
  refine jj_g_1_3 (pc := 1) dX2_considerForSymbol_1 fd_X2_considerForSymbol_128 ?_
  refine jj_iload_n (pc := 4) 2 dX2_considerForSymbol_4 rfl rfl ?_
  refine jj_rget (pc := 5) (r := 3) (by decide) dX2_considerForSymbol_5 gX2_considerForSymbol_X4_get (by decide) (Nat.le_of_ble_eq_true rfl) jz ?_
  refine jj_istore_n_3 (pc := 8) dX2_considerForSymbol_8 rfl rfl (by decide) ?_
  refine jj_aload_n (pc := 9) 1 dX2_considerForSymbol_9 rfl rfl ?_
  refine jj_g_1_5 (pc := 10) dX2_considerForSymbol_10 fd_X2_considerForSymbol_131 ?_
  refine jj_iload_n (pc := 13) 2 dX2_considerForSymbol_13 rfl rfl ?_
  refine jj_rget (pc := 14) (r := 5) (by decide) dX2_considerForSymbol_14 gX2_considerForSymbol_X4_get (by decide) (Nat.le_of_ble_eq_true rfl) jz ?_
  refine jj_iconst (pc := 17) (v := 1) dX2_considerForSymbol_17 rfl ?_
  refine jj_icmp_ne (pc := 18) 25 dX2_considerForSymbol_18 (by decide) (fun h18 => ?_) (fun h18 => ?_)
  · refine jj_iconst (pc := 25) (v := 0) dX2_considerForSymbol_25 rfl ?_
    refine jj_istore_4 (pc := 26) dX2_considerForSymbol_26 rfl (by decide) ?_
    refine jj_iload (pc := 28) dX2_considerForSymbol_28 rfl ?_
    refine jj_if_eq (pc := 30) 48 dX2_considerForSymbol_30 (by decide) (fun h30 => ?_) (fun h30 => ?_)
    · refine jj_iconst (pc := 48) (v := 0) dX2_considerForSymbol_48 rfl ?_
      refine jj_istore_5 (pc := 49) dX2_considerForSymbol_49 rfl (by decide) ?_
      refine jj_iload (pc := 51) dX2_considerForSymbol_51 rfl ?_
      refine jj_if_ne (pc := 53) 71 dX2_considerForSymbol_53 (by decide) (fun h53 => ?_) (fun h53 => ?_)
      · refine jj_aload_n (pc := 71) 0 dX2_considerForSymbol_71 rfl rfl ?_
        refine jj_g_2_0 (pc := 72) dX2_considerForSymbol_72 fd_X2_considerForSymbol_12 ?_
        refine jj_g_7_3 (pc := 75) dX2_considerForSymbol_75 fd_X2_considerForSymbol_134 ?_
        refine jj_iload_n (pc := 78) 3 dX2_considerForSymbol_78 rfl rfl ?_
        refine jj_iload_n (pc := 79) 2 dX2_considerForSymbol_79 rfl rfl ?_
        refine jj_rset (pc := 80) (r := 14) (by decide) dX2_considerForSymbol_80 gX2_considerForSymbol_X4_set (by decide) (Nat.le_of_ble_eq_true rfl) jz ?_
        refine jj_iload (pc := 83) dX2_considerForSymbol_83 rfl ?_
        refine jj_if_eq (pc := 85) 97 dX2_considerForSymbol_85 (by decide) (fun h85 => ?_) (fun h85 => ?_)
        · refine jj_vret (pc := 97) dX2_considerForSymbol_97 ?_
          exact absurd h53 (by decide)
        · refine jj_aload_n (pc := 88) 0 dX2_considerForSymbol_88 rfl rfl ?_
          refine jj_g_2_5 (pc := 89) dX2_considerForSymbol_89 fd_X2_considerForSymbol_37 ?_
          refine jj_iload_n (pc := 92) 3 dX2_considerForSymbol_92 rfl rfl ?_
          refine jj_iconst (pc := 93) (v := 1) dX2_considerForSymbol_93 rfl ?_
          refine jj_radd (pc := 94) (r := 12) (by decide) dX2_considerForSymbol_94 gX2_considerForSymbol_X4_add (by decide) (Nat.le_of_ble_eq_true rfl) jz ?_
          refine jj_vret (pc := 97) dX2_considerForSymbol_97 ?_
          exact absurd h53 (by decide)
      · refine jj_aload_n (pc := 56) 0 dX2_considerForSymbol_56 rfl rfl ?_
        refine jj_g_2_0 (pc := 57) dX2_considerForSymbol_57 fd_X2_considerForSymbol_12 ?_
        refine jj_g_7_3 (pc := 60) dX2_considerForSymbol_60 fd_X2_considerForSymbol_134 ?_
        refine jj_iload_n (pc := 63) 3 dX2_considerForSymbol_63 rfl rfl ?_
        refine jj_rget (pc := 64) (r := 14) (by decide) dX2_considerForSymbol_64 gX2_considerForSymbol_X4_get (by decide) (Nat.le_of_ble_eq_true rfl) jz ?_
        refine jj_iconst (pc := 67) (v := (-1)) dX2_considerForSymbol_67 rfl ?_
        refine jj_icmp_ne (pc := 68) 83 dX2_considerForSymbol_68 (by decide) (fun h68 => ?_) (fun h68 => ?_)
        · refine jj_iload (pc := 83) dX2_considerForSymbol_83 rfl ?_
          refine jj_if_eq (pc := 85) 97 dX2_considerForSymbol_85 (by decide) (fun h85 => ?_) (fun h85 => ?_)
          · refine jj_vret (pc := 97) dX2_considerForSymbol_97 ?_
            have hf : cnFirst S p = false := by rw [cnFirst, decide_eq_false h18]; rfl
            exact ⟨rfl, by rw [lkCons, if_neg h18, cn1, if_neg (fun z => z.elim (fun z => by rw [hf] at z; cases z) h68)] <;> rfl⟩
          · refine jj_aload_n (pc := 88) 0 dX2_considerForSymbol_88 rfl rfl ?_
            refine jj_g_2_5 (pc := 89) dX2_considerForSymbol_89 fd_X2_considerForSymbol_37 ?_
            refine jj_iload_n (pc := 92) 3 dX2_considerForSymbol_92 rfl rfl ?_
            refine jj_iconst (pc := 93) (v := 1) dX2_considerForSymbol_93 rfl ?_
            refine jj_radd (pc := 94) (r := 12) (by decide) dX2_considerForSymbol_94 gX2_considerForSymbol_X4_add (by decide) (Nat.le_of_ble_eq_true rfl) jz ?_
            refine jj_vret (pc := 97) dX2_considerForSymbol_97 ?_
            exact absurd rfl h85
        · refine jj_aload_n (pc := 71) 0 dX2_considerForSymbol_71 rfl rfl ?_
          refine jj_g_2_0 (pc := 72) dX2_considerForSymbol_72 fd_X2_considerForSymbol_12 ?_
          refine jj_g_7_3 (pc := 75) dX2_considerForSymbol_75 fd_X2_considerForSymbol_134 ?_
          refine jj_iload_n (pc := 78) 3 dX2_considerForSymbol_78 rfl rfl ?_
          refine jj_iload_n (pc := 79) 2 dX2_considerForSymbol_79 rfl rfl ?_
          refine jj_rset (pc := 80) (r := 14) (by decide) dX2_considerForSymbol_80 gX2_considerForSymbol_X4_set (by decide) (Nat.le_of_ble_eq_true rfl) jz ?_
          refine jj_iload (pc := 83) dX2_considerForSymbol_83 rfl ?_
          refine jj_if_eq (pc := 85) 97 dX2_considerForSymbol_85 (by decide) (fun h85 => ?_) (fun h85 => ?_)
          · refine jj_vret (pc := 97) dX2_considerForSymbol_97 ?_
            have hf : cnFirst S p = false := by rw [cnFirst, decide_eq_false h18]; rfl
            exact ⟨rfl, by rw [lkCons, if_neg h18, cn1, if_pos (Or.inr h68)] <;> rfl⟩
          · refine jj_aload_n (pc := 88) 0 dX2_considerForSymbol_88 rfl rfl ?_
            refine jj_g_2_5 (pc := 89) dX2_considerForSymbol_89 fd_X2_considerForSymbol_37 ?_
            refine jj_iload_n (pc := 92) 3 dX2_considerForSymbol_92 rfl rfl ?_
            refine jj_iconst (pc := 93) (v := 1) dX2_considerForSymbol_93 rfl ?_
            refine jj_radd (pc := 94) (r := 12) (by decide) dX2_considerForSymbol_94 gX2_considerForSymbol_X4_add (by decide) (Nat.le_of_ble_eq_true rfl) jz ?_
            refine jj_vret (pc := 97) dX2_considerForSymbol_97 ?_
            exact absurd rfl h85
    · refine jj_aload_n (pc := 33) 0 dX2_considerForSymbol_33 rfl rfl ?_
      refine jj_g_2_5 (pc := 34) dX2_considerForSymbol_34 fd_X2_considerForSymbol_37 ?_
      refine jj_iload_n (pc := 37) 3 dX2_considerForSymbol_37 rfl rfl ?_
      refine jj_rget (pc := 38) (r := 12) (by decide) dX2_considerForSymbol_38 gX2_considerForSymbol_X4_get (by decide) (Nat.le_of_ble_eq_true rfl) jz ?_
      refine jj_if_ne (pc := 41) 48 dX2_considerForSymbol_41 (by decide) (fun h41 => ?_) (fun h41 => ?_)
      · refine jj_iconst (pc := 48) (v := 0) dX2_considerForSymbol_48 rfl ?_
        refine jj_istore_5 (pc := 49) dX2_considerForSymbol_49 rfl (by decide) ?_
        refine jj_iload (pc := 51) dX2_considerForSymbol_51 rfl ?_
        refine jj_if_ne (pc := 53) 71 dX2_considerForSymbol_53 (by decide) (fun h53 => ?_) (fun h53 => ?_)
        · refine jj_aload_n (pc := 71) 0 dX2_considerForSymbol_71 rfl rfl ?_
          refine jj_g_2_0 (pc := 72) dX2_considerForSymbol_72 fd_X2_considerForSymbol_12 ?_
          refine jj_g_7_3 (pc := 75) dX2_considerForSymbol_75 fd_X2_considerForSymbol_134 ?_
          refine jj_iload_n (pc := 78) 3 dX2_considerForSymbol_78 rfl rfl ?_
          refine jj_iload_n (pc := 79) 2 dX2_considerForSymbol_79 rfl rfl ?_
          refine jj_rset (pc := 80) (r := 14) (by decide) dX2_considerForSymbol_80 gX2_considerForSymbol_X4_set (by decide) (Nat.le_of_ble_eq_true rfl) jz ?_
          refine jj_iload (pc := 83) dX2_considerForSymbol_83 rfl ?_
          refine jj_if_eq (pc := 85) 97 dX2_considerForSymbol_85 (by decide) (fun h85 => ?_) (fun h85 => ?_)
          · refine jj_vret (pc := 97) dX2_considerForSymbol_97 ?_
            exact absurd rfl h30
          · refine jj_aload_n (pc := 88) 0 dX2_considerForSymbol_88 rfl rfl ?_
            refine jj_g_2_5 (pc := 89) dX2_considerForSymbol_89 fd_X2_considerForSymbol_37 ?_
            refine jj_iload_n (pc := 92) 3 dX2_considerForSymbol_92 rfl rfl ?_
            refine jj_iconst (pc := 93) (v := 1) dX2_considerForSymbol_93 rfl ?_
            refine jj_radd (pc := 94) (r := 12) (by decide) dX2_considerForSymbol_94 gX2_considerForSymbol_X4_add (by decide) (Nat.le_of_ble_eq_true rfl) jz ?_
            refine jj_vret (pc := 97) dX2_considerForSymbol_97 ?_
            exact absurd rfl h30
        · refine jj_aload_n (pc := 56) 0 dX2_considerForSymbol_56 rfl rfl ?_
          refine jj_g_2_0 (pc := 57) dX2_considerForSymbol_57 fd_X2_considerForSymbol_12 ?_
          refine jj_g_7_3 (pc := 60) dX2_considerForSymbol_60 fd_X2_considerForSymbol_134 ?_
          refine jj_iload_n (pc := 63) 3 dX2_considerForSymbol_63 rfl rfl ?_
          refine jj_rget (pc := 64) (r := 14) (by decide) dX2_considerForSymbol_64 gX2_considerForSymbol_X4_get (by decide) (Nat.le_of_ble_eq_true rfl) jz ?_
          refine jj_iconst (pc := 67) (v := (-1)) dX2_considerForSymbol_67 rfl ?_
          refine jj_icmp_ne (pc := 68) 83 dX2_considerForSymbol_68 (by decide) (fun h68 => ?_) (fun h68 => ?_)
          · refine jj_iload (pc := 83) dX2_considerForSymbol_83 rfl ?_
            refine jj_if_eq (pc := 85) 97 dX2_considerForSymbol_85 (by decide) (fun h85 => ?_) (fun h85 => ?_)
            · refine jj_vret (pc := 97) dX2_considerForSymbol_97 ?_
              exact absurd rfl h30
            · refine jj_aload_n (pc := 88) 0 dX2_considerForSymbol_88 rfl rfl ?_
              refine jj_g_2_5 (pc := 89) dX2_considerForSymbol_89 fd_X2_considerForSymbol_37 ?_
              refine jj_iload_n (pc := 92) 3 dX2_considerForSymbol_92 rfl rfl ?_
              refine jj_iconst (pc := 93) (v := 1) dX2_considerForSymbol_93 rfl ?_
              refine jj_radd (pc := 94) (r := 12) (by decide) dX2_considerForSymbol_94 gX2_considerForSymbol_X4_add (by decide) (Nat.le_of_ble_eq_true rfl) jz ?_
              refine jj_vret (pc := 97) dX2_considerForSymbol_97 ?_
              exact absurd rfl h30
          · refine jj_aload_n (pc := 71) 0 dX2_considerForSymbol_71 rfl rfl ?_
            refine jj_g_2_0 (pc := 72) dX2_considerForSymbol_72 fd_X2_considerForSymbol_12 ?_
            refine jj_g_7_3 (pc := 75) dX2_considerForSymbol_75 fd_X2_considerForSymbol_134 ?_
            refine jj_iload_n (pc := 78) 3 dX2_considerForSymbol_78 rfl rfl ?_
            refine jj_iload_n (pc := 79) 2 dX2_considerForSymbol_79 rfl rfl ?_
            refine jj_rset (pc := 80) (r := 14) (by decide) dX2_considerForSymbol_80 gX2_considerForSymbol_X4_set (by decide) (Nat.le_of_ble_eq_true rfl) jz ?_
            refine jj_iload (pc := 83) dX2_considerForSymbol_83 rfl ?_
            refine jj_if_eq (pc := 85) 97 dX2_considerForSymbol_85 (by decide) (fun h85 => ?_) (fun h85 => ?_)
            · refine jj_vret (pc := 97) dX2_considerForSymbol_97 ?_
              exact absurd rfl h30
            · refine jj_aload_n (pc := 88) 0 dX2_considerForSymbol_88 rfl rfl ?_
              refine jj_g_2_5 (pc := 89) dX2_considerForSymbol_89 fd_X2_considerForSymbol_37 ?_
              refine jj_iload_n (pc := 92) 3 dX2_considerForSymbol_92 rfl rfl ?_
              refine jj_iconst (pc := 93) (v := 1) dX2_considerForSymbol_93 rfl ?_
              refine jj_radd (pc := 94) (r := 12) (by decide) dX2_considerForSymbol_94 gX2_considerForSymbol_X4_add (by decide) (Nat.le_of_ble_eq_true rfl) jz ?_
              refine jj_vret (pc := 97) dX2_considerForSymbol_97 ?_
              exact absurd rfl h30
      · refine jj_iconst (pc := 44) (v := 1) dX2_considerForSymbol_44 rfl ?_
        refine jj_goto (pc := 45) 49 dX2_considerForSymbol_45 (by decide) ?_
        refine jj_istore_5 (pc := 49) dX2_considerForSymbol_49 rfl (by decide) ?_
        refine jj_iload (pc := 51) dX2_considerForSymbol_51 rfl ?_
        refine jj_if_ne (pc := 53) 71 dX2_considerForSymbol_53 (by decide) (fun h53 => ?_) (fun h53 => ?_)
        · refine jj_aload_n (pc := 71) 0 dX2_considerForSymbol_71 rfl rfl ?_
          refine jj_g_2_0 (pc := 72) dX2_considerForSymbol_72 fd_X2_considerForSymbol_12 ?_
          refine jj_g_7_3 (pc := 75) dX2_considerForSymbol_75 fd_X2_considerForSymbol_134 ?_
          refine jj_iload_n (pc := 78) 3 dX2_considerForSymbol_78 rfl rfl ?_
          refine jj_iload_n (pc := 79) 2 dX2_considerForSymbol_79 rfl rfl ?_
          refine jj_rset (pc := 80) (r := 14) (by decide) dX2_considerForSymbol_80 gX2_considerForSymbol_X4_set (by decide) (Nat.le_of_ble_eq_true rfl) jz ?_
          refine jj_iload (pc := 83) dX2_considerForSymbol_83 rfl ?_
          refine jj_if_eq (pc := 85) 97 dX2_considerForSymbol_85 (by decide) (fun h85 => ?_) (fun h85 => ?_)
          · refine jj_vret (pc := 97) dX2_considerForSymbol_97 ?_
            exact absurd rfl h30
          · refine jj_aload_n (pc := 88) 0 dX2_considerForSymbol_88 rfl rfl ?_
            refine jj_g_2_5 (pc := 89) dX2_considerForSymbol_89 fd_X2_considerForSymbol_37 ?_
            refine jj_iload_n (pc := 92) 3 dX2_considerForSymbol_92 rfl rfl ?_
            refine jj_iconst (pc := 93) (v := 1) dX2_considerForSymbol_93 rfl ?_
            refine jj_radd (pc := 94) (r := 12) (by decide) dX2_considerForSymbol_94 gX2_considerForSymbol_X4_add (by decide) (Nat.le_of_ble_eq_true rfl) jz ?_
            refine jj_vret (pc := 97) dX2_considerForSymbol_97 ?_
            exact absurd rfl h30
        · refine jj_aload_n (pc := 56) 0 dX2_considerForSymbol_56 rfl rfl ?_
          refine jj_g_2_0 (pc := 57) dX2_considerForSymbol_57 fd_X2_considerForSymbol_12 ?_
          refine jj_g_7_3 (pc := 60) dX2_considerForSymbol_60 fd_X2_considerForSymbol_134 ?_
          refine jj_iload_n (pc := 63) 3 dX2_considerForSymbol_63 rfl rfl ?_
          refine jj_rget (pc := 64) (r := 14) (by decide) dX2_considerForSymbol_64 gX2_considerForSymbol_X4_get (by decide) (Nat.le_of_ble_eq_true rfl) jz ?_
          refine jj_iconst (pc := 67) (v := (-1)) dX2_considerForSymbol_67 rfl ?_
          refine jj_icmp_ne (pc := 68) 83 dX2_considerForSymbol_68 (by decide) (fun h68 => ?_) (fun h68 => ?_)
          · refine jj_iload (pc := 83) dX2_considerForSymbol_83 rfl ?_
            refine jj_if_eq (pc := 85) 97 dX2_considerForSymbol_85 (by decide) (fun h85 => ?_) (fun h85 => ?_)
            · refine jj_vret (pc := 97) dX2_considerForSymbol_97 ?_
              exact absurd rfl h30
            · refine jj_aload_n (pc := 88) 0 dX2_considerForSymbol_88 rfl rfl ?_
              refine jj_g_2_5 (pc := 89) dX2_considerForSymbol_89 fd_X2_considerForSymbol_37 ?_
              refine jj_iload_n (pc := 92) 3 dX2_considerForSymbol_92 rfl rfl ?_
              refine jj_iconst (pc := 93) (v := 1) dX2_considerForSymbol_93 rfl ?_
              refine jj_radd (pc := 94) (r := 12) (by decide) dX2_considerForSymbol_94 gX2_considerForSymbol_X4_add (by decide) (Nat.le_of_ble_eq_true rfl) jz ?_
              refine jj_vret (pc := 97) dX2_considerForSymbol_97 ?_
              exact absurd rfl h30
          · refine jj_aload_n (pc := 71) 0 dX2_considerForSymbol_71 rfl rfl ?_
            refine jj_g_2_0 (pc := 72) dX2_considerForSymbol_72 fd_X2_considerForSymbol_12 ?_
            refine jj_g_7_3 (pc := 75) dX2_considerForSymbol_75 fd_X2_considerForSymbol_134 ?_
            refine jj_iload_n (pc := 78) 3 dX2_considerForSymbol_78 rfl rfl ?_
            refine jj_iload_n (pc := 79) 2 dX2_considerForSymbol_79 rfl rfl ?_
            refine jj_rset (pc := 80) (r := 14) (by decide) dX2_considerForSymbol_80 gX2_considerForSymbol_X4_set (by decide) (Nat.le_of_ble_eq_true rfl) jz ?_
            refine jj_iload (pc := 83) dX2_considerForSymbol_83 rfl ?_
            refine jj_if_eq (pc := 85) 97 dX2_considerForSymbol_85 (by decide) (fun h85 => ?_) (fun h85 => ?_)
            · refine jj_vret (pc := 97) dX2_considerForSymbol_97 ?_
              exact absurd rfl h30
            · refine jj_aload_n (pc := 88) 0 dX2_considerForSymbol_88 rfl rfl ?_
              refine jj_g_2_5 (pc := 89) dX2_considerForSymbol_89 fd_X2_considerForSymbol_37 ?_
              refine jj_iload_n (pc := 92) 3 dX2_considerForSymbol_92 rfl rfl ?_
              refine jj_iconst (pc := 93) (v := 1) dX2_considerForSymbol_93 rfl ?_
              refine jj_radd (pc := 94) (r := 12) (by decide) dX2_considerForSymbol_94 gX2_considerForSymbol_X4_add (by decide) (Nat.le_of_ble_eq_true rfl) jz ?_
              refine jj_vret (pc := 97) dX2_considerForSymbol_97 ?_
              exact absurd rfl h30
  · refine jj_iconst (pc := 21) (v := 1) dX2_considerForSymbol_21 rfl ?_
    refine jj_goto (pc := 22) 26 dX2_considerForSymbol_22 (by decide) ?_
    refine jj_istore_4 (pc := 26) dX2_considerForSymbol_26 rfl (by decide) ?_
    refine jj_iload (pc := 28) dX2_considerForSymbol_28 rfl ?_
    refine jj_if_eq (pc := 30) 48 dX2_considerForSymbol_30 (by decide) (fun h30 => ?_) (fun h30 => ?_)
    · refine jj_iconst (pc := 48) (v := 0) dX2_considerForSymbol_48 rfl ?_
      refine jj_istore_5 (pc := 49) dX2_considerForSymbol_49 rfl (by decide) ?_
      refine jj_iload (pc := 51) dX2_considerForSymbol_51 rfl ?_
      refine jj_if_ne (pc := 53) 71 dX2_considerForSymbol_53 (by decide) (fun h53 => ?_) (fun h53 => ?_)
      · refine jj_aload_n (pc := 71) 0 dX2_considerForSymbol_71 rfl rfl ?_
        refine jj_g_2_0 (pc := 72) dX2_considerForSymbol_72 fd_X2_considerForSymbol_12 ?_
        refine jj_g_7_3 (pc := 75) dX2_considerForSymbol_75 fd_X2_considerForSymbol_134 ?_
        refine jj_iload_n (pc := 78) 3 dX2_considerForSymbol_78 rfl rfl ?_
        refine jj_iload_n (pc := 79) 2 dX2_considerForSymbol_79 rfl rfl ?_
        refine jj_rset (pc := 80) (r := 14) (by decide) dX2_considerForSymbol_80 gX2_considerForSymbol_X4_set (by decide) (Nat.le_of_ble_eq_true rfl) jz ?_
        refine jj_iload (pc := 83) dX2_considerForSymbol_83 rfl ?_
        refine jj_if_eq (pc := 85) 97 dX2_considerForSymbol_85 (by decide) (fun h85 => ?_) (fun h85 => ?_)
        · refine jj_vret (pc := 97) dX2_considerForSymbol_97 ?_
          exact absurd h30 (by decide)
        · refine jj_aload_n (pc := 88) 0 dX2_considerForSymbol_88 rfl rfl ?_
          refine jj_g_2_5 (pc := 89) dX2_considerForSymbol_89 fd_X2_considerForSymbol_37 ?_
          refine jj_iload_n (pc := 92) 3 dX2_considerForSymbol_92 rfl rfl ?_
          refine jj_iconst (pc := 93) (v := 1) dX2_considerForSymbol_93 rfl ?_
          refine jj_radd (pc := 94) (r := 12) (by decide) dX2_considerForSymbol_94 gX2_considerForSymbol_X4_add (by decide) (Nat.le_of_ble_eq_true rfl) jz ?_
          refine jj_vret (pc := 97) dX2_considerForSymbol_97 ?_
          exact absurd h30 (by decide)
      · refine jj_aload_n (pc := 56) 0 dX2_considerForSymbol_56 rfl rfl ?_
        refine jj_g_2_0 (pc := 57) dX2_considerForSymbol_57 fd_X2_considerForSymbol_12 ?_
        refine jj_g_7_3 (pc := 60) dX2_considerForSymbol_60 fd_X2_considerForSymbol_134 ?_
        refine jj_iload_n (pc := 63) 3 dX2_considerForSymbol_63 rfl rfl ?_
        refine jj_rget (pc := 64) (r := 14) (by decide) dX2_considerForSymbol_64 gX2_considerForSymbol_X4_get (by decide) (Nat.le_of_ble_eq_true rfl) jz ?_
        refine jj_iconst (pc := 67) (v := (-1)) dX2_considerForSymbol_67 rfl ?_
        refine jj_icmp_ne (pc := 68) 83 dX2_considerForSymbol_68 (by decide) (fun h68 => ?_) (fun h68 => ?_)
        · refine jj_iload (pc := 83) dX2_considerForSymbol_83 rfl ?_
          refine jj_if_eq (pc := 85) 97 dX2_considerForSymbol_85 (by decide) (fun h85 => ?_) (fun h85 => ?_)
          · refine jj_vret (pc := 97) dX2_considerForSymbol_97 ?_
            exact absurd h30 (by decide)
          · refine jj_aload_n (pc := 88) 0 dX2_considerForSymbol_88 rfl rfl ?_
            refine jj_g_2_5 (pc := 89) dX2_considerForSymbol_89 fd_X2_considerForSymbol_37 ?_
            refine jj_iload_n (pc := 92) 3 dX2_considerForSymbol_92 rfl rfl ?_
            refine jj_iconst (pc := 93) (v := 1) dX2_considerForSymbol_93 rfl ?_
            refine jj_radd (pc := 94) (r := 12) (by decide) dX2_considerForSymbol_94 gX2_considerForSymbol_X4_add (by decide) (Nat.le_of_ble_eq_true rfl) jz ?_
            refine jj_vret (pc := 97) dX2_considerForSymbol_97 ?_
            exact absurd h30 (by decide)
        · refine jj_aload_n (pc := 71) 0 dX2_considerForSymbol_71 rfl rfl ?_
          refine jj_g_2_0 (pc := 72) dX2_considerForSymbol_72 fd_X2_considerForSymbol_12 ?_
          refine jj_g_7_3 (pc := 75) dX2_considerForSymbol_75 fd_X2_considerForSymbol_134 ?_
          refine jj_iload_n (pc := 78) 3 dX2_considerForSymbol_78 rfl rfl ?_
          refine jj_iload_n (pc := 79) 2 dX2_considerForSymbol_79 rfl rfl ?_
          refine jj_rset (pc := 80) (r := 14) (by decide) dX2_considerForSymbol_80 gX2_considerForSymbol_X4_set (by decide) (Nat.le_of_ble_eq_true rfl) jz ?_
          refine jj_iload (pc := 83) dX2_considerForSymbol_83 rfl ?_
          refine jj_if_eq (pc := 85) 97 dX2_considerForSymbol_85 (by decide) (fun h85 => ?_) (fun h85 => ?_)
          · refine jj_vret (pc := 97) dX2_considerForSymbol_97 ?_
            exact absurd h30 (by decide)
          · refine jj_aload_n (pc := 88) 0 dX2_considerForSymbol_88 rfl rfl ?_
            refine jj_g_2_5 (pc := 89) dX2_considerForSymbol_89 fd_X2_considerForSymbol_37 ?_
            refine jj_iload_n (pc := 92) 3 dX2_considerForSymbol_92 rfl rfl ?_
            refine jj_iconst (pc := 93) (v := 1) dX2_considerForSymbol_93 rfl ?_
            refine jj_radd (pc := 94) (r := 12) (by decide) dX2_considerForSymbol_94 gX2_considerForSymbol_X4_add (by decide) (Nat.le_of_ble_eq_true rfl) jz ?_
            refine jj_vret (pc := 97) dX2_considerForSymbol_97 ?_
            exact absurd h30 (by decide)
    · refine jj_aload_n (pc := 33) 0 dX2_considerForSymbol_33 rfl rfl ?_
      refine jj_g_2_5 (pc := 34) dX2_considerForSymbol_34 fd_X2_considerForSymbol_37 ?_
      refine jj_iload_n (pc := 37) 3 dX2_considerForSymbol_37 rfl rfl ?_
      refine jj_rget (pc := 38) (r := 12) (by decide) dX2_considerForSymbol_38 gX2_considerForSymbol_X4_get (by decide) (Nat.le_of_ble_eq_true rfl) jz ?_
      refine jj_if_ne (pc := 41) 48 dX2_considerForSymbol_41 (by decide) (fun h41 => ?_) (fun h41 => ?_)
      · refine jj_iconst (pc := 48) (v := 0) dX2_considerForSymbol_48 rfl ?_
        refine jj_istore_5 (pc := 49) dX2_considerForSymbol_49 rfl (by decide) ?_
        refine jj_iload (pc := 51) dX2_considerForSymbol_51 rfl ?_
        refine jj_if_ne (pc := 53) 71 dX2_considerForSymbol_53 (by decide) (fun h53 => ?_) (fun h53 => ?_)
        · refine jj_aload_n (pc := 71) 0 dX2_considerForSymbol_71 rfl rfl ?_
          refine jj_g_2_0 (pc := 72) dX2_considerForSymbol_72 fd_X2_considerForSymbol_12 ?_
          refine jj_g_7_3 (pc := 75) dX2_considerForSymbol_75 fd_X2_considerForSymbol_134 ?_
          refine jj_iload_n (pc := 78) 3 dX2_considerForSymbol_78 rfl rfl ?_
          refine jj_iload_n (pc := 79) 2 dX2_considerForSymbol_79 rfl rfl ?_
          refine jj_rset (pc := 80) (r := 14) (by decide) dX2_considerForSymbol_80 gX2_considerForSymbol_X4_set (by decide) (Nat.le_of_ble_eq_true rfl) jz ?_
          refine jj_iload (pc := 83) dX2_considerForSymbol_83 rfl ?_
          refine jj_if_eq (pc := 85) 97 dX2_considerForSymbol_85 (by decide) (fun h85 => ?_) (fun h85 => ?_)
          · refine jj_vret (pc := 97) dX2_considerForSymbol_97 ?_
            exact absurd h53 (by decide)
          · refine jj_aload_n (pc := 88) 0 dX2_considerForSymbol_88 rfl rfl ?_
            refine jj_g_2_5 (pc := 89) dX2_considerForSymbol_89 fd_X2_considerForSymbol_37 ?_
            refine jj_iload_n (pc := 92) 3 dX2_considerForSymbol_92 rfl rfl ?_
            refine jj_iconst (pc := 93) (v := 1) dX2_considerForSymbol_93 rfl ?_
            refine jj_radd (pc := 94) (r := 12) (by decide) dX2_considerForSymbol_94 gX2_considerForSymbol_X4_add (by decide) (Nat.le_of_ble_eq_true rfl) jz ?_
            refine jj_vret (pc := 97) dX2_considerForSymbol_97 ?_
            exact absurd h53 (by decide)
        · refine jj_aload_n (pc := 56) 0 dX2_considerForSymbol_56 rfl rfl ?_
          refine jj_g_2_0 (pc := 57) dX2_considerForSymbol_57 fd_X2_considerForSymbol_12 ?_
          refine jj_g_7_3 (pc := 60) dX2_considerForSymbol_60 fd_X2_considerForSymbol_134 ?_
          refine jj_iload_n (pc := 63) 3 dX2_considerForSymbol_63 rfl rfl ?_
          refine jj_rget (pc := 64) (r := 14) (by decide) dX2_considerForSymbol_64 gX2_considerForSymbol_X4_get (by decide) (Nat.le_of_ble_eq_true rfl) jz ?_
          refine jj_iconst (pc := 67) (v := (-1)) dX2_considerForSymbol_67 rfl ?_
          refine jj_icmp_ne (pc := 68) 83 dX2_considerForSymbol_68 (by decide) (fun h68 => ?_) (fun h68 => ?_)
          · refine jj_iload (pc := 83) dX2_considerForSymbol_83 rfl ?_
            refine jj_if_eq (pc := 85) 97 dX2_considerForSymbol_85 (by decide) (fun h85 => ?_) (fun h85 => ?_)
            · refine jj_vret (pc := 97) dX2_considerForSymbol_97 ?_
              exact absurd h85 (by decide)
            · refine jj_aload_n (pc := 88) 0 dX2_considerForSymbol_88 rfl rfl ?_
              refine jj_g_2_5 (pc := 89) dX2_considerForSymbol_89 fd_X2_considerForSymbol_37 ?_
              refine jj_iload_n (pc := 92) 3 dX2_considerForSymbol_92 rfl rfl ?_
              refine jj_iconst (pc := 93) (v := 1) dX2_considerForSymbol_93 rfl ?_
              refine jj_radd (pc := 94) (r := 12) (by decide) dX2_considerForSymbol_94 gX2_considerForSymbol_X4_add (by decide) (Nat.le_of_ble_eq_true rfl) jz ?_
              refine jj_vret (pc := 97) dX2_considerForSymbol_97 ?_
              have hf : cnFirst S p = false := by rw [cnFirst, decide_eq_false h41, Bool.and_false]
              exact ⟨rfl, by rw [lkCons, if_pos h18, cn1, if_neg (fun z => z.elim (fun z => by rw [hf] at z; cases z) h68)] <;> rfl⟩
          · refine jj_aload_n (pc := 71) 0 dX2_considerForSymbol_71 rfl rfl ?_
            refine jj_g_2_0 (pc := 72) dX2_considerForSymbol_72 fd_X2_considerForSymbol_12 ?_
            refine jj_g_7_3 (pc := 75) dX2_considerForSymbol_75 fd_X2_considerForSymbol_134 ?_
            refine jj_iload_n (pc := 78) 3 dX2_considerForSymbol_78 rfl rfl ?_
            refine jj_iload_n (pc := 79) 2 dX2_considerForSymbol_79 rfl rfl ?_
            refine jj_rset (pc := 80) (r := 14) (by decide) dX2_considerForSymbol_80 gX2_considerForSymbol_X4_set (by decide) (Nat.le_of_ble_eq_true rfl) jz ?_
            refine jj_iload (pc := 83) dX2_considerForSymbol_83 rfl ?_
            refine jj_if_eq (pc := 85) 97 dX2_considerForSymbol_85 (by decide) (fun h85 => ?_) (fun h85 => ?_)
            · refine jj_vret (pc := 97) dX2_considerForSymbol_97 ?_
              exact absurd h85 (by decide)
            · refine jj_aload_n (pc := 88) 0 dX2_considerForSymbol_88 rfl rfl ?_
              refine jj_g_2_5 (pc := 89) dX2_considerForSymbol_89 fd_X2_considerForSymbol_37 ?_
              refine jj_iload_n (pc := 92) 3 dX2_considerForSymbol_92 rfl rfl ?_
              refine jj_iconst (pc := 93) (v := 1) dX2_considerForSymbol_93 rfl ?_
              refine jj_radd (pc := 94) (r := 12) (by decide) dX2_considerForSymbol_94 gX2_considerForSymbol_X4_add (by decide) (Nat.le_of_ble_eq_true rfl) jz ?_
              refine jj_vret (pc := 97) dX2_considerForSymbol_97 ?_
              have hf : cnFirst S p = false := by rw [cnFirst, decide_eq_false h41, Bool.and_false]
              exact ⟨rfl, by rw [lkCons, if_pos h18, cn1, if_pos (Or.inr h68)] <;> rfl⟩
      · refine jj_iconst (pc := 44) (v := 1) dX2_considerForSymbol_44 rfl ?_
        refine jj_goto (pc := 45) 49 dX2_considerForSymbol_45 (by decide) ?_
        refine jj_istore_5 (pc := 49) dX2_considerForSymbol_49 rfl (by decide) ?_
        refine jj_iload (pc := 51) dX2_considerForSymbol_51 rfl ?_
        refine jj_if_ne (pc := 53) 71 dX2_considerForSymbol_53 (by decide) (fun h53 => ?_) (fun h53 => ?_)
        · refine jj_aload_n (pc := 71) 0 dX2_considerForSymbol_71 rfl rfl ?_
          refine jj_g_2_0 (pc := 72) dX2_considerForSymbol_72 fd_X2_considerForSymbol_12 ?_
          refine jj_g_7_3 (pc := 75) dX2_considerForSymbol_75 fd_X2_considerForSymbol_134 ?_
          refine jj_iload_n (pc := 78) 3 dX2_considerForSymbol_78 rfl rfl ?_
          refine jj_iload_n (pc := 79) 2 dX2_considerForSymbol_79 rfl rfl ?_
          refine jj_rset (pc := 80) (r := 14) (by decide) dX2_considerForSymbol_80 gX2_considerForSymbol_X4_set (by decide) (Nat.le_of_ble_eq_true rfl) jz ?_
          refine jj_iload (pc := 83) dX2_considerForSymbol_83 rfl ?_
          refine jj_if_eq (pc := 85) 97 dX2_considerForSymbol_85 (by decide) (fun h85 => ?_) (fun h85 => ?_)
          · refine jj_vret (pc := 97) dX2_considerForSymbol_97 ?_
            exact absurd h85 (by decide)
          · refine jj_aload_n (pc := 88) 0 dX2_considerForSymbol_88 rfl rfl ?_
            refine jj_g_2_5 (pc := 89) dX2_considerForSymbol_89 fd_X2_considerForSymbol_37 ?_
            refine jj_iload_n (pc := 92) 3 dX2_considerForSymbol_92 rfl rfl ?_
            refine jj_iconst (pc := 93) (v := 1) dX2_considerForSymbol_93 rfl ?_
            refine jj_radd (pc := 94) (r := 12) (by decide) dX2_considerForSymbol_94 gX2_considerForSymbol_X4_add (by decide) (Nat.le_of_ble_eq_true rfl) jz ?_
            refine jj_vret (pc := 97) dX2_considerForSymbol_97 ?_
            have hf : cnFirst S p = true := by rw [cnFirst, decide_eq_true h18, decide_eq_true h41]; rfl
            exact ⟨rfl, by rw [lkCons, if_pos h18, cn1, if_pos (Or.inl hf)] <;> rfl⟩
        · refine jj_aload_n (pc := 56) 0 dX2_considerForSymbol_56 rfl rfl ?_
          refine jj_g_2_0 (pc := 57) dX2_considerForSymbol_57 fd_X2_considerForSymbol_12 ?_
          refine jj_g_7_3 (pc := 60) dX2_considerForSymbol_60 fd_X2_considerForSymbol_134 ?_
          refine jj_iload_n (pc := 63) 3 dX2_considerForSymbol_63 rfl rfl ?_
          refine jj_rget (pc := 64) (r := 14) (by decide) dX2_considerForSymbol_64 gX2_considerForSymbol_X4_get (by decide) (Nat.le_of_ble_eq_true rfl) jz ?_
          refine jj_iconst (pc := 67) (v := (-1)) dX2_considerForSymbol_67 rfl ?_
          refine jj_icmp_ne (pc := 68) 83 dX2_considerForSymbol_68 (by decide) (fun h68 => ?_) (fun h68 => ?_)
          · refine jj_iload (pc := 83) dX2_considerForSymbol_83 rfl ?_
            refine jj_if_eq (pc := 85) 97 dX2_considerForSymbol_85 (by decide) (fun h85 => ?_) (fun h85 => ?_)
            · refine jj_vret (pc := 97) dX2_considerForSymbol_97 ?_
              exact absurd h53 (by decide)
            · refine jj_aload_n (pc := 88) 0 dX2_considerForSymbol_88 rfl rfl ?_
              refine jj_g_2_5 (pc := 89) dX2_considerForSymbol_89 fd_X2_considerForSymbol_37 ?_
              refine jj_iload_n (pc := 92) 3 dX2_considerForSymbol_92 rfl rfl ?_
              refine jj_iconst (pc := 93) (v := 1) dX2_considerForSymbol_93 rfl ?_
              refine jj_radd (pc := 94) (r := 12) (by decide) dX2_considerForSymbol_94 gX2_considerForSymbol_X4_add (by decide) (Nat.le_of_ble_eq_true rfl) jz ?_
              refine jj_vret (pc := 97) dX2_considerForSymbol_97 ?_
              exact absurd h53 (by decide)
          · refine jj_aload_n (pc := 71) 0 dX2_considerForSymbol_71 rfl rfl ?_
            refine jj_g_2_0 (pc := 72) dX2_considerForSymbol_72 fd_X2_considerForSymbol_12 ?_
            refine jj_g_7_3 (pc := 75) dX2_considerForSymbol_75 fd_X2_considerForSymbol_134 ?_
            refine jj_iload_n (pc := 78) 3 dX2_considerForSymbol_78 rfl rfl ?_
            refine jj_iload_n (pc := 79) 2 dX2_considerForSymbol_79 rfl rfl ?_
            refine jj_rset (pc := 80) (r := 14) (by decide) dX2_considerForSymbol_80 gX2_considerForSymbol_X4_set (by decide) (Nat.le_of_ble_eq_true rfl) jz ?_
            refine jj_iload (pc := 83) dX2_considerForSymbol_83 rfl ?_
            refine jj_if_eq (pc := 85) 97 dX2_considerForSymbol_85 (by decide) (fun h85 => ?_) (fun h85 => ?_)
            · refine jj_vret (pc := 97) dX2_considerForSymbol_97 ?_
              exact absurd h53 (by decide)
            · refine jj_aload_n (pc := 88) 0 dX2_considerForSymbol_88 rfl rfl ?_
              refine jj_g_2_5 (pc := 89) dX2_considerForSymbol_89 fd_X2_considerForSymbol_37 ?_
              refine jj_iload_n (pc := 92) 3 dX2_considerForSymbol_92 rfl rfl ?_
              refine jj_iconst (pc := 93) (v := 1) dX2_considerForSymbol_93 rfl ?_
              refine jj_radd (pc := 94) (r := 12) (by decide) dX2_considerForSymbol_94 gX2_considerForSymbol_X4_add (by decide) (Nat.le_of_ble_eq_true rfl) jz ?_
              refine jj_vret (pc := 97) dX2_considerForSymbol_97 ?_
              exact absurd h53 (by decide)
set_option maxHeartbeats 4000000 in
theorem c_X2_chooseWhatStands (l : Launch) (D : va_G) (cA : ClassId) (ob ro ar : Nat → Nat) (S : jS)  : jjFn l yX2_chooseWhatStands wsX2_chooseWhatStands 3 D cA [.ref (ob 2), .ref (ob 1)] (jW cA ob ro ar S) none (jW cA ob ro ar (lkChoose S)) := by
  refine jjCon_of (own := RX2) (cc := cX2_chooseWhatStands) (nL := 4) (rt := none) (I := jI0) [some (.ref (ob 2)), some (.ref (ob 1)), none, none] jm_X2_chooseWhatStands (by decide +kernel) rfl (fun _ _ _ _ _ => trivial) (Nat.le_of_ble_eq_true rfl) rfl ?_
  have K : ∀ i, i ≤ (S.1 8).toNatClampNeg → jjV l RX2 cX2_chooseWhatStands 4 none jI0 wsX2_chooseWhatStands (jjRm 3 0 0) D cA (jjEnd D (fun r0 w0 => r0 = none ∧ w0 = jW cA ob ro ar (lkChoose S)) 0 0) 0 0 (jW cA ob ro ar (jfo ch1 S i)) 2 [some (.ref (ob 2)), some (.ref (ob 1)), some (.int (nI i)), none] [] := by
    refine jdown _ ?_ (fun i hi ih => ?_)
    · refine jj_iload_n (pc := 2) 2 dX2_chooseWhatStands_2 rfl rfl ?_
      refine jj_aload_n (pc := 3) 0 dX2_chooseWhatStands_3 rfl rfl ?_
      refine jj_g_2_0 (pc := 4) dX2_chooseWhatStands_4 fd_X2_chooseWhatStands_12 ?_
      refine jj_g_7_1 (pc := 7) dX2_chooseWhatStands_7 fd_X2_chooseWhatStands_107 ?_
      refine jj_icmp_ge (pc := 10) 60 dX2_chooseWhatStands_10 (by decide) (fun h10 => ?_) (fun h10 => ?_)
      · refine jj_vret (pc := 60) dX2_chooseWhatStands_60 ?_
        exact ⟨rfl, rfl⟩
      · exact absurd (by rw [(jfo_1 (fun q U => by rw [ch1_1]) S _)]; exact jb_ge rfl) h10
    · have K2 : ∀ q, q ≤ mPc (jfo ch1 S i) → jjV l RX2 cX2_chooseWhatStands 4 none jI0 wsX2_chooseWhatStands (jjRm 3 0 0) D cA (jjEnd D (fun r0 w0 => r0 = none ∧ w0 = jW cA ob ro ar (lkChoose S)) 0 0) 0 0 (jW cA ob ro ar (jfo (ch2 i) (jfo ch1 S i) q)) 15 [some (.ref (ob 2)), some (.ref (ob 1)), some (.int (nI i)), some (.int (nI q))] [] := by
        refine jdown _ ?_ (fun q hq ih2 => ?_)
        · refine jj_iload_n (pc := 15) 3 dX2_chooseWhatStands_15 rfl rfl ?_
          refine jj_aload_n (pc := 16) 1 dX2_chooseWhatStands_16 rfl rfl ?_
          refine jj_g_1_9 (pc := 17) dX2_chooseWhatStands_17 fd_X2_chooseWhatStands_119 ?_
          refine jj_icmp_ge (pc := 20) 54 dX2_chooseWhatStands_20 (by decide) (fun h20 => ?_) (fun h20 => ?_)
          · refine jj_iinc_2 (pc := 54) (z := 1) dX2_chooseWhatStands_54 rfl rfl (by decide) ?_
            refine jj_goto (pc := 57) 2 dX2_chooseWhatStands_57 (by decide) ?_
            rw [nI_succ] at ih
            refine jj_sub ?_ ih
            exact jjLe_some (jjLe_some (jjLe_some (jjLe_none jjLe_nil)))
          · exact absurd (by rw [(jfo_1 (fun q U => by rw [ch2_1]) _ _)]; exact jb_ge rfl) h20
        · refine jj_iload_n (pc := 15) 3 dX2_chooseWhatStands_15 rfl rfl ?_
          refine jj_aload_n (pc := 16) 1 dX2_chooseWhatStands_16 rfl rfl ?_
          refine jj_g_1_9 (pc := 17) dX2_chooseWhatStands_17 fd_X2_chooseWhatStands_119 ?_
          refine jj_icmp_ge (pc := 20) 54 dX2_chooseWhatStands_20 (by decide) (fun h20 => ?_) (fun h20 => ?_)
          · exact absurd (by rw [(jfo_1 (fun q U => by rw [ch2_1]) _ _)] at h20; exact h20) (jb_lt rfl hq)
          · refine jj_aload_n (pc := 23) 1 dX2_chooseWhatStands_23 rfl rfl ?_
            refine jj_g_1_2 (pc := 24) dX2_chooseWhatStands_24 fd_X2_chooseWhatStands_122 ?_
            refine jj_iload_n (pc := 27) 3 dX2_chooseWhatStands_27 rfl rfl ?_
            refine jj_rget (pc := 28) (r := 2) (by decide) dX2_chooseWhatStands_28 gX2_chooseWhatStands_X4_get (by decide) (Nat.le_of_ble_eq_true rfl) jz ?_
            refine jj_aload_n (pc := 31) 0 dX2_chooseWhatStands_31 rfl rfl ?_
            refine jj_g_2_4 (pc := 32) dX2_chooseWhatStands_32 fd_X2_chooseWhatStands_34 ?_
            refine jj_iload_n (pc := 35) 2 dX2_chooseWhatStands_35 rfl rfl ?_
            refine jj_rget (pc := 36) (r := 11) (by decide) dX2_chooseWhatStands_36 gX2_chooseWhatStands_X4_get (by decide) (Nat.le_of_ble_eq_true rfl) jz ?_
            refine jj_icmp_ne (pc := 39) 48 dX2_chooseWhatStands_39 (by decide) (fun h39 => ?_) (fun h39 => ?_)
            · refine jj_iinc_3 (pc := 48) (z := 1) dX2_chooseWhatStands_48 rfl rfl (by decide) ?_
              refine jj_goto (pc := 51) 15 dX2_chooseWhatStands_51 (by decide) ?_
              rw [nI_succ, jfo, ch2, if_neg h39] at ih2
              exact ih2
            · refine jj_aload_n (pc := 42) 0 dX2_chooseWhatStands_42 rfl rfl ?_
              refine jj_aload_n (pc := 43) 1 dX2_chooseWhatStands_43 rfl rfl ?_
              refine jj_iload_n (pc := 44) 3 dX2_chooseWhatStands_44 rfl rfl ?_
              refine jj_callVv (pc := 45) _ (c_X2_considerForSymbol l D cA ob ro ar _ _) dX2_chooseWhatStands_45 gX2_chooseWhatStands_X2_considerForSymbol jm_X2_considerForSymbol rfl (by decide) 2 jq_2 rfl rfl rfl (Nat.le_of_ble_eq_true rfl) jz ?_
              refine jj_iinc_3 (pc := 48) (z := 1) dX2_chooseWhatStands_48 rfl rfl (by decide) ?_
              refine jj_goto (pc := 51) 15 dX2_chooseWhatStands_51 (by decide) ?_
              rw [nI_succ, jfo, ch2, if_pos h39] at ih2
              exact ih2
      refine jj_iload_n (pc := 2) 2 dX2_chooseWhatStands_2 rfl rfl ?_
      refine jj_aload_n (pc := 3) 0 dX2_chooseWhatStands_3 rfl rfl ?_
      refine jj_g_2_0 (pc := 4) dX2_chooseWhatStands_4 fd_X2_chooseWhatStands_12 ?_
      refine jj_g_7_1 (pc := 7) dX2_chooseWhatStands_7 fd_X2_chooseWhatStands_107 ?_
      refine jj_icmp_ge (pc := 10) 60 dX2_chooseWhatStands_10 (by decide) (fun h10 => ?_) (fun h10 => ?_)
      · exact absurd (by rw [(jfo_1 (fun q U => by rw [ch1_1]) S _)] at h10; exact h10) (jb_lt rfl hi)
      · refine jj_iconst (pc := 13) (v := 0) dX2_chooseWhatStands_13 rfl ?_
        refine jj_istore_n_3 (pc := 14) dX2_chooseWhatStands_14 rfl rfl (by decide) ?_
        exact K2 0 (Nat.zero_le _)
  refine jj_iconst (pc := 0) (v := 0) dX2_chooseWhatStands_0 rfl ?_
  refine jj_istore_n_2 (pc := 1) dX2_chooseWhatStands_1 rfl rfl (by decide) ?_
  exact K 0 (Nat.zero_le _)
set_option maxHeartbeats 4000000 in
theorem c_X2_findDoubleSymbols (l : Launch) (D : va_G) (cA : ClassId) (ob ro ar : Nat → Nat) (S : jS)  : jjFn l yX2_findDoubleSymbols wsX2_findDoubleSymbols 2 D cA [.ref (ob 2)] (jW cA ob ro ar S) none (jW cA ob ro ar (lkDouble S)) := by
  refine jjCon_of (own := RX2) (cc := cX2_findDoubleSymbols) (nL := 2) (rt := none) (I := jI0) [some (.ref (ob 2)), none] jm_X2_findDoubleSymbols (by decide +kernel) rfl (fun _ _ _ _ _ => trivial) (Nat.le_of_ble_eq_true rfl) rfl ?_
  have K : ∀ i, i ≤ 16 → jjV l RX2 cX2_findDoubleSymbols 2 none jI0 wsX2_findDoubleSymbols (jjRm 2 0 0) D cA (jjEnd D (fun r0 w0 => r0 = none ∧ w0 = jW cA ob ro ar (lkDouble S)) 0 0) 0 0 (jW cA ob ro ar (jfo db1 S i)) 2 [some (.ref (ob 2)), some (.int (nI i))] [] := by
    refine jdown 16 ?_ (fun i hi ih => ?_)
    · refine jj_iload_n (pc := 2) 1 dX2_findDoubleSymbols_2 rfl rfl ?_
      refine jj_bipush (pc := 3) (v := 16) dX2_findDoubleSymbols_3 rfl ?_
      refine jj_icmp_ge (pc := 5) 32 dX2_findDoubleSymbols_5 (by decide) (fun h5 => ?_) (fun h5 => ?_)
      · refine jj_vret (pc := 32) dX2_findDoubleSymbols_32 ?_
        exact ⟨rfl, rfl⟩
      · exact absurd (jb_ge (by decide)) h5
    · refine jj_iload_n (pc := 2) 1 dX2_findDoubleSymbols_2 rfl rfl ?_
      refine jj_bipush (pc := 3) (v := 16) dX2_findDoubleSymbols_3 rfl ?_
      refine jj_icmp_ge (pc := 5) 32 dX2_findDoubleSymbols_5 (by decide) (fun h5 => ?_) (fun h5 => ?_)
      · exact absurd h5 (jb_lt (by decide) hi)
      · refine jj_aload_n (pc := 8) 0 dX2_findDoubleSymbols_8 rfl rfl ?_
        refine jj_g_2_5 (pc := 9) dX2_findDoubleSymbols_9 fd_X2_findDoubleSymbols_37 ?_
        refine jj_iload_n (pc := 12) 1 dX2_findDoubleSymbols_12 rfl rfl ?_
        refine jj_rget (pc := 13) (r := 12) (by decide) dX2_findDoubleSymbols_13 gX2_findDoubleSymbols_X4_get (by decide) (Nat.le_of_ble_eq_true rfl) jz ?_
        refine jj_iconst (pc := 16) (v := 2) dX2_findDoubleSymbols_16 rfl ?_
        refine jj_icmp_lt (pc := 17) 26 dX2_findDoubleSymbols_17 (by decide) (fun h17 => ?_) (fun h17 => ?_)
        · refine jj_iinc_1 (pc := 26) (z := 1) dX2_findDoubleSymbols_26 rfl rfl (by decide) ?_
          refine jj_goto (pc := 29) 2 dX2_findDoubleSymbols_29 (by decide) ?_
          rw [nI_succ, jfo, db1, if_pos h17] at ih
          exact ih
        · refine jj_aload_n (pc := 20) 0 dX2_findDoubleSymbols_20 rfl rfl ?_
          refine jj_iconst (pc := 21) (v := 1) dX2_findDoubleSymbols_21 rfl ?_
          refine jj_iload_n (pc := 22) 1 dX2_findDoubleSymbols_22 rfl rfl ?_
          refine jj_callVv (pc := 23) _ (c_X2_addFault l D cA ob ro ar _ _ _) dX2_findDoubleSymbols_23 gX2_findDoubleSymbols_X2_addFault jm_X2_addFault rfl (by decide) 2 jq_2 rfl rfl rfl (Nat.le_of_ble_eq_true rfl) jz ?_
          refine jj_iinc_1 (pc := 26) (z := 1) dX2_findDoubleSymbols_26 rfl rfl (by decide) ?_
          refine jj_goto (pc := 29) 2 dX2_findDoubleSymbols_29 (by decide) ?_
          rw [nI_succ, jfo, db1, if_neg h17] at ih
          exact ih
  refine jj_iconst (pc := 0) (v := 0) dX2_findDoubleSymbols_0 rfl ?_
  refine jj_istore_n_1 (pc := 1) dX2_findDoubleSymbols_1 rfl rfl (by decide) ?_
  exact K 0 (Nat.zero_le _)
set_option maxHeartbeats 4000000 in
theorem c_X2_findMissingSymbols (l : Launch) (D : va_G) (cA : ClassId) (ob ro ar : Nat → Nat) (S : jS)  : jjFn l yX2_findMissingSymbols wsX2_findMissingSymbols 2 D cA [.ref (ob 2)] (jW cA ob ro ar S) none (jW cA ob ro ar (lkMissing S)) := by
  refine jjCon_of (own := RX2) (cc := cX2_findMissingSymbols) (nL := 2) (rt := none) (I := jI0) [some (.ref (ob 2)), none] jm_X2_findMissingSymbols (by decide +kernel) rfl (fun _ _ _ _ _ => trivial) (Nat.le_of_ble_eq_true rfl) rfl ?_
  have K : ∀ i, i ≤ 16 → jjV l RX2 cX2_findMissingSymbols 2 none jI0 wsX2_findMissingSymbols (jjRm 2 0 0) D cA (jjEnd D (fun r0 w0 => r0 = none ∧ w0 = jW cA ob ro ar (lkMissing S)) 0 0) 0 0 (jW cA ob ro ar (jfo ms1 S i)) 2 [some (.ref (ob 2)), some (.int (nI i))] [] := by
    refine jdown 16 ?_ (fun i hi ih => ?_)
    · refine jj_iload_n (pc := 2) 1 dX2_findMissingSymbols_2 rfl rfl ?_
      refine jj_bipush (pc := 3) (v := 16) dX2_findMissingSymbols_3 rfl ?_
      refine jj_icmp_ge (pc := 5) 47 dX2_findMissingSymbols_5 (by decide) (fun h5 => ?_) (fun h5 => ?_)
      · refine jj_vret (pc := 47) dX2_findMissingSymbols_47 ?_
        exact ⟨rfl, rfl⟩
      · exact absurd (jb_ge (by decide)) h5
    · refine jj_iload_n (pc := 2) 1 dX2_findMissingSymbols_2 rfl rfl ?_
      refine jj_bipush (pc := 3) (v := 16) dX2_findMissingSymbols_3 rfl ?_
      refine jj_icmp_ge (pc := 5) 47 dX2_findMissingSymbols_5 (by decide) (fun h5 => ?_) (fun h5 => ?_)
      · exact absurd h5 (jb_lt (by decide) hi)
      · refine jj_aload_n (pc := 8) 0 dX2_findMissingSymbols_8 rfl rfl ?_
        refine jj_g_2_8 (pc := 9) dX2_findMissingSymbols_9 fd_X2_findMissingSymbols_46 ?_
        refine jj_iload_n (pc := 12) 1 dX2_findMissingSymbols_12 rfl rfl ?_
        refine jj_ishr (pc := 13) dX2_findMissingSymbols_13 ?_
        refine jj_iconst (pc := 14) (v := 1) dX2_findMissingSymbols_14 rfl ?_
        refine jj_iand (pc := 15) dX2_findMissingSymbols_15 ?_
        refine jj_iconst (pc := 16) (v := 1) dX2_findMissingSymbols_16 rfl ?_
        refine jj_icmp_ne (pc := 17) 41 dX2_findMissingSymbols_17 (by decide) (fun h17 => ?_) (fun h17 => ?_)
        · refine jj_iinc_1 (pc := 41) (z := 1) dX2_findMissingSymbols_41 rfl rfl (by decide) ?_
          refine jj_goto (pc := 44) 2 dX2_findMissingSymbols_44 (by decide) ?_
          rw [nI_succ, jfo, ms1, if_neg (fun z => h17 z.1)] at ih
          exact ih
        · refine jj_aload_n (pc := 20) 0 dX2_findMissingSymbols_20 rfl rfl ?_
          refine jj_g_2_0 (pc := 21) dX2_findMissingSymbols_21 fd_X2_findMissingSymbols_12 ?_
          refine jj_g_7_3 (pc := 24) dX2_findMissingSymbols_24 fd_X2_findMissingSymbols_134 ?_
          refine jj_iload_n (pc := 27) 1 dX2_findMissingSymbols_27 rfl rfl ?_
          refine jj_rget (pc := 28) (r := 14) (by decide) dX2_findMissingSymbols_28 gX2_findMissingSymbols_X4_get (by decide) (Nat.le_of_ble_eq_true rfl) jz ?_
          refine jj_iconst (pc := 31) (v := (-1)) dX2_findMissingSymbols_31 rfl ?_
          refine jj_icmp_ne (pc := 32) 41 dX2_findMissingSymbols_32 (by decide) (fun h32 => ?_) (fun h32 => ?_)
          · refine jj_iinc_1 (pc := 41) (z := 1) dX2_findMissingSymbols_41 rfl rfl (by decide) ?_
            refine jj_goto (pc := 44) 2 dX2_findMissingSymbols_44 (by decide) ?_
            rw [nI_succ, jfo, ms1, if_neg (fun z => h32 z.2)] at ih
            exact ih
          · refine jj_aload_n (pc := 35) 0 dX2_findMissingSymbols_35 rfl rfl ?_
            refine jj_iconst (pc := 36) (v := 2) dX2_findMissingSymbols_36 rfl ?_
            refine jj_iload_n (pc := 37) 1 dX2_findMissingSymbols_37 rfl rfl ?_
            refine jj_callVv (pc := 38) _ (c_X2_addFault l D cA ob ro ar _ _ _) dX2_findMissingSymbols_38 gX2_findMissingSymbols_X2_addFault jm_X2_addFault rfl (by decide) 2 jq_2 rfl rfl rfl (Nat.le_of_ble_eq_true rfl) jz ?_
            refine jj_iinc_1 (pc := 41) (z := 1) dX2_findMissingSymbols_41 rfl rfl (by decide) ?_
            refine jj_goto (pc := 44) 2 dX2_findMissingSymbols_44 (by decide) ?_
            rw [nI_succ, jfo, ms1, if_pos ⟨h17, h32⟩] at ih
            exact ih
  refine jj_iconst (pc := 0) (v := 0) dX2_findMissingSymbols_0 rfl ?_
  refine jj_istore_n_1 (pc := 1) dX2_findMissingSymbols_1 rfl rfl (by decide) ?_
  exact K 0 (Nat.zero_le _)
set_option maxHeartbeats 4000000 in
theorem c_X2_findOutOfReach (l : Launch) (D : va_G) (cA : ClassId) (ob ro ar : Nat → Nat) (S : jS)  : jjFn l yX2_findOutOfReach wsX2_findOutOfReach 3 D cA [.ref (ob 2), .ref (ob 1)] (jW cA ob ro ar S) none (jW cA ob ro ar (lkReach S)) := by
  refine jjCon_of (own := RX2) (cc := cX2_findOutOfReach) (nL := 3) (rt := none) (I := jI0) [some (.ref (ob 2)), some (.ref (ob 1)), none] jm_X2_findOutOfReach (by decide +kernel) rfl (fun _ _ _ _ _ => trivial) (Nat.le_of_ble_eq_true rfl) rfl ?_
  have K : ∀ i, i ≤ 16 → jjV l RX2 cX2_findOutOfReach 3 none jI0 wsX2_findOutOfReach (jjRm 3 0 0) D cA (jjEnd D (fun r0 w0 => r0 = none ∧ w0 = jW cA ob ro ar (lkReach S)) 0 0) 0 0 (jW cA ob ro ar (jfo or1 S i)) 2 [some (.ref (ob 2)), some (.ref (ob 1)), some (.int (nI i))] [] := by
    refine jdown 16 ?_ (fun i hi ih => ?_)
    · refine jj_iload_n (pc := 2) 2 dX2_findOutOfReach_2 rfl rfl ?_
      refine jj_bipush (pc := 3) (v := 16) dX2_findOutOfReach_3 rfl ?_
      refine jj_icmp_ge (pc := 5) 32 dX2_findOutOfReach_5 (by decide) (fun h5 => ?_) (fun h5 => ?_)
      · refine jj_vret (pc := 32) dX2_findOutOfReach_32 ?_
        exact ⟨rfl, rfl⟩
      · exact absurd (jb_ge (by decide)) h5
    · refine jj_iload_n (pc := 2) 2 dX2_findOutOfReach_2 rfl rfl ?_
      refine jj_bipush (pc := 3) (v := 16) dX2_findOutOfReach_3 rfl ?_
      refine jj_icmp_ge (pc := 5) 32 dX2_findOutOfReach_5 (by decide) (fun h5 => ?_) (fun h5 => ?_)
      · exact absurd h5 (jb_lt (by decide) hi)
      · refine jj_aload_n (pc := 8) 0 dX2_findOutOfReach_8 rfl rfl ?_
        refine jj_g_2_0 (pc := 9) dX2_findOutOfReach_9 fd_X2_findOutOfReach_12 ?_
        refine jj_aload_n (pc := 12) 1 dX2_findOutOfReach_12 rfl rfl ?_
        refine jj_iload_n (pc := 13) 2 dX2_findOutOfReach_13 rfl rfl ?_
        refine jj_callVr (pc := 14) _ (c_X1_losesSymbol l D cA ob ro ar _ (j := 0) (by decide) _) dX2_findOutOfReach_14 gX2_findOutOfReach_X1_losesSymbol jm_X1_losesSymbol rfl (by decide) 7 jq_7 rfl rfl rfl (Nat.le_of_ble_eq_true rfl) jz ?_
        refine jj_if_eq (pc := 17) 26 dX2_findOutOfReach_17 (by decide) (fun h17 => ?_) (fun h17 => ?_)
        · refine jj_iinc_2 (pc := 26) (z := 1) dX2_findOutOfReach_26 rfl rfl (by decide) ?_
          refine jj_goto (pc := 29) 2 dX2_findOutOfReach_29 (by decide) ?_
          rw [nI_succ, jfo, or1, if_neg (by rw [bI_0 h17]; decide)] at ih
          exact ih
        · refine jj_aload_n (pc := 20) 0 dX2_findOutOfReach_20 rfl rfl ?_
          refine jj_iconst (pc := 21) (v := 3) dX2_findOutOfReach_21 rfl ?_
          refine jj_iload_n (pc := 22) 2 dX2_findOutOfReach_22 rfl rfl ?_
          refine jj_callVv (pc := 23) _ (c_X2_addFault l D cA ob ro ar _ _ _) dX2_findOutOfReach_23 gX2_findOutOfReach_X2_addFault jm_X2_addFault rfl (by decide) 2 jq_2 rfl rfl rfl (Nat.le_of_ble_eq_true rfl) jz ?_
          refine jj_iinc_2 (pc := 26) (z := 1) dX2_findOutOfReach_26 rfl rfl (by decide) ?_
          refine jj_goto (pc := 29) 2 dX2_findOutOfReach_29 (by decide) ?_
          rw [nI_succ, jfo, or1, if_pos (bI_1 h17)] at ih
          exact ih
  refine jj_iconst (pc := 0) (v := 0) dX2_findOutOfReach_0 rfl ?_
  refine jj_istore_n_2 (pc := 1) dX2_findOutOfReach_1 rfl rfl (by decide) ?_
  exact K 0 (Nat.zero_le _)
set_option maxHeartbeats 4000000 in
theorem c_X2_layPieces (l : Launch) (D : va_G) (cA : ClassId) (ob ro ar : Nat → Nat) (S : jS) (b : Int32) : jjFn l yX2_layPieces wsX2_layPieces 1 D cA [.ref (ob 2), .ref (ob 1), .int b] (jW cA ob ro ar S) none (jW cA ob ro ar (lkPieces S b)) := by
  refine jjCon_of (own := RX2) (cc := cX2_layPieces) (nL := 4) (rt := none) (I := jI0) [some (.ref (ob 2)), some (.ref (ob 1)), some (.int b), none] jm_X2_layPieces (by decide +kernel) rfl (fun _ _ _ _ _ => trivial) (Nat.le_of_ble_eq_true rfl) rfl ?_
  have K : ∀ q, q ≤ mPc S → jjV l RX2 cX2_layPieces 4 none jI0 wsX2_layPieces (jjRm 1 0 0) D cA (jjEnd D (fun r0 w0 => r0 = none ∧ w0 = jW cA ob ro ar (lkPieces S b)) 0 0) 0 0 (jW cA ob ro ar (jfo (lkp1 b) S q)) 2 [some (.ref (ob 2)), some (.ref (ob 1)), some (.int b), some (.int (nI q))] [] := by
    refine jdown _ ?_ (fun q hq ih => ?_)
    · refine jj_iload_n (pc := 2) 3 dX2_layPieces_2 rfl rfl ?_
      refine jj_aload_n (pc := 3) 1 dX2_layPieces_3 rfl rfl ?_
      refine jj_g_1_9 (pc := 4) dX2_layPieces_4 fd_X2_layPieces_119 ?_
      refine jj_icmp_ge (pc := 7) 60 dX2_layPieces_7 (by decide) (fun h7 => ?_) (fun h7 => ?_)
      · refine jj_vret (pc := 60) dX2_layPieces_60 ?_
        exact ⟨rfl, rfl⟩
      · exact absurd (by rw [(jfo_1 (fun q U => lkp1_1 (by decide) q U) S _)]; exact jb_ge rfl) h7
    · refine jj_iload_n (pc := 2) 3 dX2_layPieces_2 rfl rfl ?_
      refine jj_aload_n (pc := 3) 1 dX2_layPieces_3 rfl rfl ?_
      refine jj_g_1_9 (pc := 4) dX2_layPieces_4 fd_X2_layPieces_119 ?_
      refine jj_icmp_ge (pc := 7) 60 dX2_layPieces_7 (by decide) (fun h7 => ?_) (fun h7 => ?_)
      · exact absurd (by rw [(jfo_1 (fun q U => lkp1_1 (by decide) q U) S _)] at h7; exact h7) (jb_lt rfl hq)
      · refine jj_aload_n (pc := 10) 1 dX2_layPieces_10 rfl rfl ?_
        refine jj_g_1_2 (pc := 11) dX2_layPieces_11 fd_X2_layPieces_122 ?_
        refine jj_iload_n (pc := 14) 3 dX2_layPieces_14 rfl rfl ?_
        refine jj_rget (pc := 15) (r := 2) (by decide) dX2_layPieces_15 gX2_layPieces_X4_get (by decide) (Nat.le_of_ble_eq_true rfl) jz ?_
        refine jj_iload_n (pc := 18) 2 dX2_layPieces_18 rfl rfl ?_
        refine jj_icmp_ne (pc := 19) 54 dX2_layPieces_19 (by decide) (fun h19 => ?_) (fun h19 => ?_)
        · refine jj_iinc_3 (pc := 54) (z := 1) dX2_layPieces_54 rfl rfl (by decide) ?_
          refine jj_goto (pc := 57) 2 dX2_layPieces_57 (by decide) ?_
          rw [nI_succ, jfo, lkp1, if_neg h19] at ih
          exact ih
        · refine jj_aload_n (pc := 22) 0 dX2_layPieces_22 rfl rfl ?_
          refine jj_g_2_0 (pc := 23) dX2_layPieces_23 fd_X2_layPieces_12 ?_
          refine jj_g_7_4 (pc := 26) dX2_layPieces_26 fd_X2_layPieces_156 ?_
          refine jj_iload_n (pc := 29) 3 dX2_layPieces_29 rfl rfl ?_
          refine jj_aload_n (pc := 30) 0 dX2_layPieces_30 rfl rfl ?_
          refine jj_g_2_9 (pc := 31) dX2_layPieces_31 fd_X2_layPieces_49 ?_
          refine jj_rset (pc := 34) (r := 15) (by decide) dX2_layPieces_34 gX2_layPieces_X4_set (by decide) (Nat.le_of_ble_eq_true rfl) jz ?_
          refine jj_aload_n (pc := 37) 0 dX2_layPieces_37 rfl rfl ?_
          refine jj_dup (pc := 38) dX2_layPieces_38 rfl ?_
          refine jj_g_2_9 (pc := 39) dX2_layPieces_39 fd_X2_layPieces_49 ?_
          refine jj_aload_n (pc := 42) 1 dX2_layPieces_42 rfl rfl ?_
          refine jj_g_1_4 (pc := 43) dX2_layPieces_43 fd_X2_layPieces_159 ?_
          refine jj_iload_n (pc := 46) 3 dX2_layPieces_46 rfl rfl ?_
          refine jj_rget (pc := 47) (r := 4) (by decide) dX2_layPieces_47 gX2_layPieces_X4_get (by decide) (Nat.le_of_ble_eq_true rfl) jz ?_
          refine jj_iadd (pc := 50) dX2_layPieces_50 ?_
          refine jj_p_2_9 (pc := 51) dX2_layPieces_51 fd_X2_layPieces_49 ?_
          refine jj_iinc_3 (pc := 54) (z := 1) dX2_layPieces_54 rfl rfl (by decide) ?_
          refine jj_goto (pc := 57) 2 dX2_layPieces_57 (by decide) ?_
          rw [nI_succ, jfo, lkp1, if_pos h19] at ih
          exact ih
  refine jj_iconst (pc := 0) (v := 0) dX2_layPieces_0 rfl ?_
  refine jj_istore_n_3 (pc := 1) dX2_layPieces_1 rfl rfl (by decide) ?_
  exact K 0 (Nat.zero_le _)
set_option maxHeartbeats 4000000 in
theorem c_X2_layIslands (l : Launch) (D : va_G) (cA : ClassId) (ob ro ar : Nat → Nat) (S : jS) (b : Int32) : jjFn l yX2_layIslands wsX2_layIslands 1 D cA [.ref (ob 2), .int b] (jW cA ob ro ar S) none (jW cA ob ro ar (lkIslands S b)) := by
  refine jjCon_of (own := RX2) (cc := cX2_layIslands) (nL := 4) (rt := none) (I := jI0) [some (.ref (ob 2)), some (.int b), none, none] jm_X2_layIslands (by decide +kernel) rfl (fun _ _ _ _ _ => trivial) (Nat.le_of_ble_eq_true rfl) rfl ?_
  have K : ∀ q, q ≤ (S.1 9).toNatClampNeg → jjV l RX2 cX2_layIslands 4 none jI0 wsX2_layIslands (jjRm 1 0 0) D cA (jjEnd D (fun r0 w0 => r0 = none ∧ w0 = jW cA ob ro ar (lkIslands S b)) 0 0) 0 0 (jW cA ob ro ar (jfo (li1 b) S q)) 2 [some (.ref (ob 2)), some (.int b), some (.int (nI q)), none] [] := by
    refine jdown _ ?_ (fun q hq ih => ?_)
    · refine jj_iload_n (pc := 2) 2 dX2_layIslands_2 rfl rfl ?_
      refine jj_aload_n (pc := 3) 0 dX2_layIslands_3 rfl rfl ?_
      refine jj_g_2_0 (pc := 4) dX2_layIslands_4 fd_X2_layIslands_12 ?_
      refine jj_g_7_2 (pc := 7) dX2_layIslands_7 fd_X2_layIslands_147 ?_
      refine jj_icmp_ge (pc := 10) 61 dX2_layIslands_10 (by decide) (fun h10 => ?_) (fun h10 => ?_)
      · refine jj_vret (pc := 61) dX2_layIslands_61 ?_
        exact ⟨rfl, rfl⟩
      · exact absurd (by rw [(jfo_1 (fun q U => li1_1 (by decide) q U) S _)]; exact jb_ge rfl) h10
    · refine jj_iload_n (pc := 2) 2 dX2_layIslands_2 rfl rfl ?_
      refine jj_aload_n (pc := 3) 0 dX2_layIslands_3 rfl rfl ?_
      refine jj_g_2_0 (pc := 4) dX2_layIslands_4 fd_X2_layIslands_12 ?_
      refine jj_g_7_2 (pc := 7) dX2_layIslands_7 fd_X2_layIslands_147 ?_
      refine jj_icmp_ge (pc := 10) 61 dX2_layIslands_10 (by decide) (fun h10 => ?_) (fun h10 => ?_)
      · exact absurd (by rw [(jfo_1 (fun q U => li1_1 (by decide) q U) S _)] at h10; exact h10) (jb_lt rfl hq)
      · refine jj_aload_n (pc := 13) 0 dX2_layIslands_13 rfl rfl ?_
        refine jj_g_2_6 (pc := 14) dX2_layIslands_14 fd_X2_layIslands_40 ?_
        refine jj_iload_n (pc := 17) 2 dX2_layIslands_17 rfl rfl ?_
        refine jj_rget (pc := 18) (r := 13) (by decide) dX2_layIslands_18 gX2_layIslands_X4_get (by decide) (Nat.le_of_ble_eq_true rfl) jz ?_
        refine jj_istore_n_3 (pc := 21) dX2_layIslands_21 rfl rfl (by decide) ?_
        refine jj_iload_n (pc := 22) 3 dX2_layIslands_22 rfl rfl ?_
        refine jj_bipush (pc := 23) (v := 16) dX2_layIslands_23 rfl ?_
        refine jj_idiv (pc := 25) dX2_layIslands_25 (by decide) ?_
        refine jj_iload_n (pc := 26) 1 dX2_layIslands_26 rfl rfl ?_
        refine jj_icmp_ne (pc := 27) 55 dX2_layIslands_27 (by decide) (fun h27 => ?_) (fun h27 => ?_)
        · refine jj_iinc_2 (pc := 55) (z := 1) dX2_layIslands_55 rfl rfl (by decide) ?_
          refine jj_goto (pc := 58) 2 dX2_layIslands_58 (by decide) ?_
          rw [nI_succ, jfo, li1, if_neg h27] at ih
          refine jj_sub ?_ ih
          exact jjLe_some (jjLe_some (jjLe_some (jjLe_none jjLe_nil)))
        · refine jj_aload_n (pc := 30) 0 dX2_layIslands_30 rfl rfl ?_
          refine jj_g_2_0 (pc := 31) dX2_layIslands_31 fd_X2_layIslands_12 ?_
          refine jj_g_7_5 (pc := 34) dX2_layIslands_34 fd_X2_layIslands_162 ?_
          refine jj_iload_n (pc := 37) 3 dX2_layIslands_37 rfl rfl ?_
          refine jj_aload_n (pc := 38) 0 dX2_layIslands_38 rfl rfl ?_
          refine jj_g_2_9 (pc := 39) dX2_layIslands_39 fd_X2_layIslands_49 ?_
          refine jj_rset (pc := 42) (r := 16) (by decide) dX2_layIslands_42 gX2_layIslands_X4_set (by decide) (Nat.le_of_ble_eq_true rfl) jz ?_
          refine jj_aload_n (pc := 45) 0 dX2_layIslands_45 rfl rfl ?_
          refine jj_dup (pc := 46) dX2_layIslands_46 rfl ?_
          refine jj_g_2_9 (pc := 47) dX2_layIslands_47 fd_X2_layIslands_49 ?_
          refine jj_iconst (pc := 50) (v := 1) dX2_layIslands_50 rfl ?_
          refine jj_iadd (pc := 51) dX2_layIslands_51 ?_
          refine jj_p_2_9 (pc := 52) dX2_layIslands_52 fd_X2_layIslands_49 ?_
          refine jj_iinc_2 (pc := 55) (z := 1) dX2_layIslands_55 rfl rfl (by decide) ?_
          refine jj_goto (pc := 58) 2 dX2_layIslands_58 (by decide) ?_
          rw [nI_succ, jfo, li1, if_pos h27] at ih
          refine jj_sub ?_ ih
          exact jjLe_some (jjLe_some (jjLe_some (jjLe_none jjLe_nil)))
  refine jj_iconst (pc := 0) (v := 0) dX2_layIslands_0 rfl ?_
  refine jj_istore_n_2 (pc := 1) dX2_layIslands_1 rfl rfl (by decide) ?_
  refine jj_sub ?_ (K 0 (Nat.zero_le _))
  exact jjLe_some (jjLe_some (jjLe_some (jjLe_none jjLe_nil)))
set_option maxHeartbeats 4000000 in
theorem c_X2_layAll (l : Launch) (D : va_G) (cA : ClassId) (ob ro ar : Nat → Nat) (S : jS)  : jjFn l yX2_layAll wsX2_layAll 2 D cA [.ref (ob 2), .ref (ob 1)] (jW cA ob ro ar S) none (jW cA ob ro ar (lkAll S)) := by
  refine jjCon_of (own := RX2) (cc := cX2_layAll) (nL := 3) (rt := none) (I := jI0) [some (.ref (ob 2)), some (.ref (ob 1)), none] jm_X2_layAll (by decide +kernel) rfl (fun _ _ _ _ _ => trivial) (Nat.le_of_ble_eq_true rfl) rfl ?_
  have K : ∀ q, q ≤ ((js S 6 0).1 8).toNatClampNeg → jjV l RX2 cX2_layAll 3 none jI0 wsX2_layAll (jjRm 2 0 0) D cA (jjEnd D (fun r0 w0 => r0 = none ∧ w0 = jW cA ob ro ar (lkAll S)) 0 0) 0 0 (jW cA ob ro ar (jfo la1 (js S 6 0) q)) 7 [some (.ref (ob 2)), some (.ref (ob 1)), some (.int (nI q))] [] := by
    refine jdown _ ?_ (fun q hq ih => ?_)
    · refine jj_iload_n (pc := 7) 2 dX2_layAll_7 rfl rfl ?_
      refine jj_aload_n (pc := 8) 0 dX2_layAll_8 rfl rfl ?_
      refine jj_g_2_0 (pc := 9) dX2_layAll_9 fd_X2_layAll_12 ?_
      refine jj_g_7_1 (pc := 12) dX2_layAll_12 fd_X2_layAll_107 ?_
      refine jj_icmp_ge (pc := 15) 49 dX2_layAll_15 (by decide) (fun h15 => ?_) (fun h15 => ?_)
      · refine jj_vret (pc := 49) dX2_layAll_49 ?_
        exact ⟨rfl, rfl⟩
      · exact absurd (by rw [(jfo_1 (fun q U => la1_1 (by decide) q U) (js S 6 0) _)]; exact jb_ge rfl) h15
    · refine jj_iload_n (pc := 7) 2 dX2_layAll_7 rfl rfl ?_
      refine jj_aload_n (pc := 8) 0 dX2_layAll_8 rfl rfl ?_
      refine jj_g_2_0 (pc := 9) dX2_layAll_9 fd_X2_layAll_12 ?_
      refine jj_g_7_1 (pc := 12) dX2_layAll_12 fd_X2_layAll_107 ?_
      refine jj_icmp_ge (pc := 15) 49 dX2_layAll_15 (by decide) (fun h15 => ?_) (fun h15 => ?_)
      · exact absurd (by rw [(jfo_1 (fun q U => la1_1 (by decide) q U) (js S 6 0) _)] at h15; exact h15) (jb_lt rfl hq)
      · refine jj_aload_n (pc := 18) 0 dX2_layAll_18 rfl rfl ?_
        refine jj_aload_n (pc := 19) 1 dX2_layAll_19 rfl rfl ?_
        refine jj_aload_n (pc := 20) 0 dX2_layAll_20 rfl rfl ?_
        refine jj_g_2_4 (pc := 21) dX2_layAll_21 fd_X2_layAll_34 ?_
        refine jj_iload_n (pc := 24) 2 dX2_layAll_24 rfl rfl ?_
        refine jj_rget (pc := 25) (r := 11) (by decide) dX2_layAll_25 gX2_layAll_X4_get (by decide) (Nat.le_of_ble_eq_true rfl) jz ?_
        refine jj_callVv (pc := 28) _ (c_X2_layPieces l D cA ob ro ar _ _) dX2_layAll_28 gX2_layAll_X2_layPieces jm_X2_layPieces rfl (by decide) 2 jq_2 rfl rfl rfl (Nat.le_of_ble_eq_true rfl) jz ?_
        refine jj_aload_n (pc := 31) 0 dX2_layAll_31 rfl rfl ?_
        refine jj_aload_n (pc := 32) 0 dX2_layAll_32 rfl rfl ?_
        refine jj_g_2_4 (pc := 33) dX2_layAll_33 fd_X2_layAll_34 ?_
        refine jj_iload_n (pc := 36) 2 dX2_layAll_36 rfl rfl ?_
        refine jj_rget (pc := 37) (r := 11) (by decide) dX2_layAll_37 gX2_layAll_X4_get (by decide) (Nat.le_of_ble_eq_true rfl) jz ?_
        refine jj_callVv (pc := 40) _ (c_X2_layIslands l D cA ob ro ar _ _) dX2_layAll_40 gX2_layAll_X2_layIslands jm_X2_layIslands rfl (by decide) 2 jq_2 rfl rfl rfl (Nat.le_of_ble_eq_true rfl) jz ?_
        refine jj_iinc_2 (pc := 43) (z := 1) dX2_layAll_43 rfl rfl (by decide) ?_
        refine jj_goto (pc := 46) 7 dX2_layAll_46 (by decide) ?_
        rw [nI_succ] at ih
        exact ih
  refine jj_aload_n (pc := 0) 0 dX2_layAll_0 rfl rfl ?_
  refine jj_iconst (pc := 1) (v := 0) dX2_layAll_1 rfl ?_
  refine jj_p_2_9 (pc := 2) dX2_layAll_2 fd_X2_layAll_49 ?_
  refine jj_iconst (pc := 5) (v := 0) dX2_layAll_5 rfl ?_
  refine jj_istore_n_2 (pc := 6) dX2_layAll_6 rfl rfl (by decide) ?_
  exact K 0 (Nat.zero_le _)
set_option maxHeartbeats 4000000 in
theorem c_X2_missingIslandOf (l : Launch) (D : va_G) (cA : ClassId) (ob ro ar : Nat → Nat) (S : jS) (p : Int32) : jjFn l yX2_missingIslandOf wsX2_missingIslandOf 2 D cA [.ref (ob 2), .ref (ob 1), .int p] (jW cA ob ro ar S) (some (.int (mMis S p))) (jW cA ob ro ar S) := by
  refine jjCon_of (own := RX2) (cc := cX2_missingIslandOf) (nL := 6) (rt := (some .int)) (I := jI0) [some (.ref (ob 2)), some (.ref (ob 1)), some (.int p), none, none, none] jm_X2_missingIslandOf (by decide +kernel) rfl (fun _ _ _ _ _ => trivial) (Nat.le_of_ble_eq_true rfl) rfl ?_
  have K : ∀ k, k ≤ (jg S 6 p).toNatClampNeg → jfind (mMisQ S p) k = none → jjV l RX2 cX2_missingIslandOf 6 (some .int) jI0 wsX2_missingIslandOf (jjRm 2 0 0) D cA (jjEnd D (fun r0 w0 => r0 = some (.int (mMis S p)) ∧ w0 = jW cA ob ro ar S) 0 0) 0 0 (jW cA ob ro ar S) 2 [some (.ref (ob 2)), some (.ref (ob 1)), some (.int p), some (.int (nI k)), none, none] [] := by
    refine jdown _ (fun hn => ?_) (fun k hk ih hn => ?_)
    · refine jj_iload_n (pc := 2) 3 dX2_missingIslandOf_2 rfl rfl ?_
      refine jj_aload_n (pc := 3) 1 dX2_missingIslandOf_3 rfl rfl ?_
      refine jj_g_1_6 (pc := 4) dX2_missingIslandOf_4 fd_X2_missingIslandOf_168 ?_
      refine jj_iload_n (pc := 7) 2 dX2_missingIslandOf_7 rfl rfl ?_
      refine jj_rget (pc := 8) (r := 6) (by decide) dX2_missingIslandOf_8 gX2_missingIslandOf_X4_get (by decide) (Nat.le_of_ble_eq_true rfl) jz ?_
      refine jj_icmp_ge (pc := 11) 84 dX2_missingIslandOf_11 (by decide) (fun h11 => ?_) (fun h11 => ?_)
      · refine jj_iconst (pc := 84) (v := (-1)) dX2_missingIslandOf_84 rfl ?_
        refine jj_iret (pc := 85) dX2_missingIslandOf_85 ?_
        exact ⟨by rw [mMis, hn], rfl⟩
      · exact absurd (jb_ge rfl) h11
    · refine jj_iload_n (pc := 2) 3 dX2_missingIslandOf_2 rfl rfl ?_
      refine jj_aload_n (pc := 3) 1 dX2_missingIslandOf_3 rfl rfl ?_
      refine jj_g_1_6 (pc := 4) dX2_missingIslandOf_4 fd_X2_missingIslandOf_168 ?_
      refine jj_iload_n (pc := 7) 2 dX2_missingIslandOf_7 rfl rfl ?_
      refine jj_rget (pc := 8) (r := 6) (by decide) dX2_missingIslandOf_8 gX2_missingIslandOf_X4_get (by decide) (Nat.le_of_ble_eq_true rfl) jz ?_
      refine jj_icmp_ge (pc := 11) 84 dX2_missingIslandOf_11 (by decide) (fun h11 => ?_) (fun h11 => ?_)
      · exact absurd h11 (jb_lt rfl hk)
      · refine jj_aload_n (pc := 14) 1 dX2_missingIslandOf_14 rfl rfl ?_
        refine jj_iload_n (pc := 15) 2 dX2_missingIslandOf_15 rfl rfl ?_
        refine jj_iload_n (pc := 16) 3 dX2_missingIslandOf_16 rfl rfl ?_
        refine jj_callVr (pc := 17) _ (c_X6_target l D cA ob ro ar _ _ _) dX2_missingIslandOf_17 gX2_missingIslandOf_X6_target jm_X6_target rfl (by decide) 1 jq_1 rfl rfl rfl (Nat.le_of_ble_eq_true rfl) jz ?_
        refine jj_istore_4 (pc := 20) dX2_missingIslandOf_20 rfl (by decide) ?_
        refine jj_aload_n (pc := 22) 1 dX2_missingIslandOf_22 rfl rfl ?_
        refine jj_g_1_2 (pc := 23) dX2_missingIslandOf_23 fd_X2_missingIslandOf_122 ?_
        refine jj_iload_n (pc := 26) 2 dX2_missingIslandOf_26 rfl rfl ?_
        refine jj_rget (pc := 27) (r := 2) (by decide) dX2_missingIslandOf_27 gX2_missingIslandOf_X4_get (by decide) (Nat.le_of_ble_eq_true rfl) jz ?_
        refine jj_iload (pc := 30) dX2_missingIslandOf_30 rfl ?_
        refine jj_callSr (pc := 32) _ (c_X1_islandKey l D cA ob ro ar _ _ _) dX2_missingIslandOf_32 gX2_missingIslandOf_X1_islandKey jm_X1_islandKey (by decide) rfl rfl (Nat.le_of_ble_eq_true rfl) jz ?_
        refine jj_istore_5 (pc := 35) dX2_missingIslandOf_35 rfl (by decide) ?_
        refine jj_aload_n (pc := 37) 1 dX2_missingIslandOf_37 rfl rfl ?_
        refine jj_iload_n (pc := 38) 2 dX2_missingIslandOf_38 rfl rfl ?_
        refine jj_iload_n (pc := 39) 3 dX2_missingIslandOf_39 rfl rfl ?_
        refine jj_callVr (pc := 40) _ (c_X6_isNear l D cA ob ro ar _ _ _) dX2_missingIslandOf_40 gX2_missingIslandOf_X6_isNear jm_X6_isNear rfl (by decide) 1 jq_1 rfl rfl rfl (Nat.le_of_ble_eq_true rfl) jz ?_
        refine jj_if_eq (pc := 43) 78 dX2_missingIslandOf_43 (by decide) (fun h43 => ?_) (fun h43 => ?_)
        · refine jj_iinc_3 (pc := 78) (z := 1) dX2_missingIslandOf_78 rfl rfl (by decide) ?_
          refine jj_goto (pc := 81) 2 dX2_missingIslandOf_81 (by decide) ?_
          have h3 := ih (jfind_next hn (by rw [mMisQ, bI_0 h43]; rfl))
          rw [nI_succ] at h3
          refine jj_sub ?_ h3
          exact jjLe_some (jjLe_some (jjLe_some (jjLe_some (jjLe_none (jjLe_none jjLe_nil)))))
        · refine jj_aload_n (pc := 46) 0 dX2_missingIslandOf_46 rfl rfl ?_
          refine jj_g_2_0 (pc := 47) dX2_missingIslandOf_47 fd_X2_missingIslandOf_12 ?_
          refine jj_iload_n (pc := 50) 2 dX2_missingIslandOf_50 rfl rfl ?_
          refine jj_iload (pc := 51) dX2_missingIslandOf_51 rfl ?_
          refine jj_callVr (pc := 53) _ (c_X1_reachesSymbol l D cA ob ro ar _ (j := 0) (by decide) _ _) dX2_missingIslandOf_53 gX2_missingIslandOf_X1_reachesSymbol jm_X1_reachesSymbol rfl (by decide) 7 jq_7 rfl rfl rfl (Nat.le_of_ble_eq_true rfl) jz ?_
          refine jj_if_ne (pc := 56) 78 dX2_missingIslandOf_56 (by decide) (fun h56 => ?_) (fun h56 => ?_)
          · refine jj_iinc_3 (pc := 78) (z := 1) dX2_missingIslandOf_78 rfl rfl (by decide) ?_
            refine jj_goto (pc := 81) 2 dX2_missingIslandOf_81 (by decide) ?_
            have h3 := ih (jfind_next hn (by rw [mMisQ, bI_1 h56]; simp))
            rw [nI_succ] at h3
            refine jj_sub ?_ h3
            exact jjLe_some (jjLe_some (jjLe_some (jjLe_some (jjLe_none (jjLe_none jjLe_nil)))))
          · refine jj_aload_n (pc := 59) 0 dX2_missingIslandOf_59 rfl rfl ?_
            refine jj_g_2_0 (pc := 60) dX2_missingIslandOf_60 fd_X2_missingIslandOf_12 ?_
            refine jj_g_7_5 (pc := 63) dX2_missingIslandOf_63 fd_X2_missingIslandOf_162 ?_
            refine jj_iload (pc := 66) dX2_missingIslandOf_66 rfl ?_
            refine jj_rget (pc := 68) (r := 16) (by decide) dX2_missingIslandOf_68 gX2_missingIslandOf_X4_get (by decide) (Nat.le_of_ble_eq_true rfl) jz ?_
            refine jj_iconst (pc := 71) (v := (-1)) dX2_missingIslandOf_71 rfl ?_
            refine jj_icmp_ne (pc := 72) 78 dX2_missingIslandOf_72 (by decide) (fun h72 => ?_) (fun h72 => ?_)
            · refine jj_iinc_3 (pc := 78) (z := 1) dX2_missingIslandOf_78 rfl rfl (by decide) ?_
              refine jj_goto (pc := 81) 2 dX2_missingIslandOf_81 (by decide) ?_
              have h3 := ih (jfind_next hn (by rw [mMisQ, show decide (mIsl S 0 (mKey S p k) = -1) = false from decide_eq_false h72, Bool.and_false]))
              rw [nI_succ] at h3
              refine jj_sub ?_ h3
              exact jjLe_some (jjLe_some (jjLe_some (jjLe_some (jjLe_none (jjLe_none jjLe_nil)))))
            · refine jj_iload (pc := 75) dX2_missingIslandOf_75 rfl ?_
              refine jj_iret (pc := 77) dX2_missingIslandOf_77 ?_
              exact ⟨by rw [mMis, jfind_some hn (by rw [mMisQ, bI_1 h43, bI_0 h56, show decide (mIsl S 0 (mKey S p k) = -1) = true from decide_eq_true h72]; rfl) hk]; rfl, rfl⟩
  refine jj_iconst (pc := 0) (v := 0) dX2_missingIslandOf_0 rfl ?_
  refine jj_istore_n_3 (pc := 1) dX2_missingIslandOf_1 rfl rfl (by decide) ?_
  exact K 0 (Nat.zero_le _) rfl
set_option maxHeartbeats 4000000 in
theorem c_X2_firstMissingIsland (l : Launch) (D : va_G) (cA : ClassId) (ob ro ar : Nat → Nat) (S : jS)  : jjFn l yX2_firstMissingIsland wsX2_firstMissingIsland 3 D cA [.ref (ob 2), .ref (ob 1)] (jW cA ob ro ar S) (some (.int (mFm S))) (jW cA ob ro ar S) := by
  refine jjCon_of (own := RX2) (cc := cX2_firstMissingIsland) (nL := 5) (rt := (some .int)) (I := jI0) [some (.ref (ob 2)), some (.ref (ob 1)), none, none, none] jm_X2_firstMissingIsland (by decide +kernel) rfl (fun _ _ _ _ _ => trivial) (Nat.le_of_ble_eq_true rfl) rfl ?_
  have K : ∀ i, i ≤ (S.1 8).toNatClampNeg → jfv (mFm1 S) i = -1 → jjV l RX2 cX2_firstMissingIsland 5 (some .int) jI0 wsX2_firstMissingIsland (jjRm 3 0 0) D cA (jjEnd D (fun r0 w0 => r0 = some (.int (mFm S)) ∧ w0 = jW cA ob ro ar S) 0 0) 0 0 (jW cA ob ro ar S) 2 [some (.ref (ob 2)), some (.ref (ob 1)), some (.int (nI i)), none, none] [] := by
    refine jdown _ (fun hn => ?_) (fun i hi ih hn => ?_)
    · refine jj_iload_n (pc := 2) 2 dX2_firstMissingIsland_2 rfl rfl ?_
      refine jj_aload_n (pc := 3) 0 dX2_firstMissingIsland_3 rfl rfl ?_
      refine jj_g_2_0 (pc := 4) dX2_firstMissingIsland_4 fd_X2_firstMissingIsland_12 ?_
      refine jj_g_7_1 (pc := 7) dX2_firstMissingIsland_7 fd_X2_firstMissingIsland_107 ?_
      refine jj_icmp_ge (pc := 10) 75 dX2_firstMissingIsland_10 (by decide) (fun h10 => ?_) (fun h10 => ?_)
      · refine jj_iconst (pc := 75) (v := (-1)) dX2_firstMissingIsland_75 rfl ?_
        refine jj_iret (pc := 76) dX2_firstMissingIsland_76 ?_
        exact ⟨by rw [mFm, hn], rfl⟩
      · exact absurd (jb_ge rfl) h10
    · have K2 : ∀ q, q ≤ mPc S → jfv (mFm2 S i) q = -1 → jjV l RX2 cX2_firstMissingIsland 5 (some .int) jI0 wsX2_firstMissingIsland (jjRm 3 0 0) D cA (jjEnd D (fun r0 w0 => r0 = some (.int (mFm S)) ∧ w0 = jW cA ob ro ar S) 0 0) 0 0 (jW cA ob ro ar S) 15 [some (.ref (ob 2)), some (.ref (ob 1)), some (.int (nI i)), some (.int (nI q)), none] [] := by
        refine jdown _ (fun hn2 => ?_) (fun q hq ih2 hn2 => ?_)
        · refine jj_iload_n (pc := 15) 3 dX2_firstMissingIsland_15 rfl rfl ?_
          refine jj_aload_n (pc := 16) 1 dX2_firstMissingIsland_16 rfl rfl ?_
          refine jj_g_1_9 (pc := 17) dX2_firstMissingIsland_17 fd_X2_firstMissingIsland_119 ?_
          refine jj_icmp_ge (pc := 20) 69 dX2_firstMissingIsland_20 (by decide) (fun h20 => ?_) (fun h20 => ?_)
          · refine jj_iinc_2 (pc := 69) (z := 1) dX2_firstMissingIsland_69 rfl rfl (by decide) ?_
            refine jj_goto (pc := 72) 2 dX2_firstMissingIsland_72 (by decide) ?_
            have h3 := ih (by rw [jfv, if_pos hn, mFm1, hn2])
            rw [nI_succ] at h3
            refine jj_sub ?_ h3
            exact jjLe_some (jjLe_some (jjLe_some (jjLe_none (jjLe_none jjLe_nil))))
          · exact absurd (jb_ge rfl) h20
        · refine jj_iload_n (pc := 15) 3 dX2_firstMissingIsland_15 rfl rfl ?_
          refine jj_aload_n (pc := 16) 1 dX2_firstMissingIsland_16 rfl rfl ?_
          refine jj_g_1_9 (pc := 17) dX2_firstMissingIsland_17 fd_X2_firstMissingIsland_119 ?_
          refine jj_icmp_ge (pc := 20) 69 dX2_firstMissingIsland_20 (by decide) (fun h20 => ?_) (fun h20 => ?_)
          · exact absurd h20 (jb_lt rfl hq)
          · refine jj_aload_n (pc := 23) 1 dX2_firstMissingIsland_23 rfl rfl ?_
            refine jj_g_1_2 (pc := 24) dX2_firstMissingIsland_24 fd_X2_firstMissingIsland_122 ?_
            refine jj_iload_n (pc := 27) 3 dX2_firstMissingIsland_27 rfl rfl ?_
            refine jj_rget (pc := 28) (r := 2) (by decide) dX2_firstMissingIsland_28 gX2_firstMissingIsland_X4_get (by decide) (Nat.le_of_ble_eq_true rfl) jz ?_
            refine jj_aload_n (pc := 31) 0 dX2_firstMissingIsland_31 rfl rfl ?_
            refine jj_g_2_4 (pc := 32) dX2_firstMissingIsland_32 fd_X2_firstMissingIsland_34 ?_
            refine jj_iload_n (pc := 35) 2 dX2_firstMissingIsland_35 rfl rfl ?_
            refine jj_rget (pc := 36) (r := 11) (by decide) dX2_firstMissingIsland_36 gX2_firstMissingIsland_X4_get (by decide) (Nat.le_of_ble_eq_true rfl) jz ?_
            refine jj_icmp_ne (pc := 39) 51 dX2_firstMissingIsland_39 (by decide) (fun h39 => ?_) (fun h39 => ?_)
            · refine jj_iconst (pc := 51) (v := (-1)) dX2_firstMissingIsland_51 rfl ?_
              refine jj_istore_4 (pc := 52) dX2_firstMissingIsland_52 rfl (by decide) ?_
              refine jj_iload (pc := 54) dX2_firstMissingIsland_54 rfl ?_
              refine jj_iconst (pc := 56) (v := (-1)) dX2_firstMissingIsland_56 rfl ?_
              refine jj_icmp_eq (pc := 57) 63 dX2_firstMissingIsland_57 (by decide) (fun h57 => ?_) (fun h57 => ?_)
              · refine jj_iinc_3 (pc := 63) (z := 1) dX2_firstMissingIsland_63 rfl rfl (by decide) ?_
                refine jj_goto (pc := 66) 15 dX2_firstMissingIsland_66 (by decide) ?_
                have h3 := ih2 (by rw [jfv, if_pos hn2, mFm2, if_neg h39])
                rw [nI_succ] at h3
                refine jj_sub ?_ h3
                exact jjLe_some (jjLe_some (jjLe_some (jjLe_some (jjLe_none jjLe_nil))))
              · refine jj_iload (pc := 60) dX2_firstMissingIsland_60 rfl ?_
                refine jj_iret (pc := 62) dX2_firstMissingIsland_62 ?_
                exact absurd rfl h57
            · refine jj_aload_n (pc := 42) 0 dX2_firstMissingIsland_42 rfl rfl ?_
              refine jj_aload_n (pc := 43) 1 dX2_firstMissingIsland_43 rfl rfl ?_
              refine jj_iload_n (pc := 44) 3 dX2_firstMissingIsland_44 rfl rfl ?_
              refine jj_callVr (pc := 45) _ (c_X2_missingIslandOf l D cA ob ro ar _ _) dX2_firstMissingIsland_45 gX2_firstMissingIsland_X2_missingIslandOf jm_X2_missingIslandOf rfl (by decide) 2 jq_2 rfl rfl rfl (Nat.le_of_ble_eq_true rfl) jz ?_
              refine jj_goto (pc := 48) 52 dX2_firstMissingIsland_48 (by decide) ?_
              refine jj_istore_4 (pc := 52) dX2_firstMissingIsland_52 rfl (by decide) ?_
              refine jj_iload (pc := 54) dX2_firstMissingIsland_54 rfl ?_
              refine jj_iconst (pc := 56) (v := (-1)) dX2_firstMissingIsland_56 rfl ?_
              refine jj_icmp_eq (pc := 57) 63 dX2_firstMissingIsland_57 (by decide) (fun h57 => ?_) (fun h57 => ?_)
              · refine jj_iinc_3 (pc := 63) (z := 1) dX2_firstMissingIsland_63 rfl rfl (by decide) ?_
                refine jj_goto (pc := 66) 15 dX2_firstMissingIsland_66 (by decide) ?_
                have h3 := ih2 (by rw [jfv, if_pos hn2, mFm2, if_pos h39, h57])
                rw [nI_succ] at h3
                refine jj_sub ?_ h3
                exact jjLe_some (jjLe_some (jjLe_some (jjLe_some (jjLe_none jjLe_nil))))
              · refine jj_iload (pc := 60) dX2_firstMissingIsland_60 rfl ?_
                refine jj_iret (pc := 62) dX2_firstMissingIsland_62 ?_
                have h4 : mFm2 S i q = mMis S (nI q) := by rw [mFm2, if_pos h39]
                have h5 : mFm1 S i = mMis S (nI q) := by rw [mFm1, jfv_hit hn2 (by rw [h4]; exact h57) hq, h4]
                exact ⟨by rw [mFm, jfv_hit hn (by rw [h5]; exact h57) hi, h5], rfl⟩
      refine jj_iload_n (pc := 2) 2 dX2_firstMissingIsland_2 rfl rfl ?_
      refine jj_aload_n (pc := 3) 0 dX2_firstMissingIsland_3 rfl rfl ?_
      refine jj_g_2_0 (pc := 4) dX2_firstMissingIsland_4 fd_X2_firstMissingIsland_12 ?_
      refine jj_g_7_1 (pc := 7) dX2_firstMissingIsland_7 fd_X2_firstMissingIsland_107 ?_
      refine jj_icmp_ge (pc := 10) 75 dX2_firstMissingIsland_10 (by decide) (fun h10 => ?_) (fun h10 => ?_)
      · exact absurd h10 (jb_lt rfl hi)
      · refine jj_iconst (pc := 13) (v := 0) dX2_firstMissingIsland_13 rfl ?_
        refine jj_istore_n_3 (pc := 14) dX2_firstMissingIsland_14 rfl rfl (by decide) ?_
        exact K2 0 (Nat.zero_le _) rfl
  refine jj_iconst (pc := 0) (v := 0) dX2_firstMissingIsland_0 rfl ?_
  refine jj_istore_n_2 (pc := 1) dX2_firstMissingIsland_1 rfl rfl (by decide) ?_
  exact K 0 (Nat.zero_le _) rfl
set_option maxHeartbeats 4000000 in
theorem c_X2_layWithIslands (l : Launch) (D : va_G) (cA : ClassId) (ob ro ar : Nat → Nat) (S : jS)  : jjFn l yX2_layWithIslands wsX2_layWithIslands 4 D cA [.ref (ob 2), .ref (ob 1)] (jW cA ob ro ar S) none (jW cA ob ro ar (lkLay S)) := by
  refine jjCon_of (own := RX2) (cc := cX2_layWithIslands) (nL := 4) (rt := none) (I := jI0) [some (.ref (ob 2)), some (.ref (ob 1)), none, none] jm_X2_layWithIslands (by decide +kernel) rfl (fun _ _ _ _ _ => trivial) (Nat.le_of_ble_eq_true rfl) rfl ?_
  have K : ∀ i, i ≤ 128 → jjV l RX2 cX2_layWithIslands 4 none jI0 wsX2_layWithIslands (jjRm 4 0 0) D cA (jjEnd D (fun r0 w0 => r0 = none ∧ w0 = jW cA ob ro ar (lkLay S)) 0 0) 0 0 (jW cA ob ro ar (jfo il2 (lkAll S) i)) 7 [some (.ref (ob 2)), some (.ref (ob 1)), some (.int (nI i)), none] [] := by
    refine jdown 128 ?_ (fun i hi ih => ?_)
    · refine jj_iload_n (pc := 7) 2 dX2_layWithIslands_7 rfl rfl ?_
      refine jj_sipush (pc := 8) (v := 128) dX2_layWithIslands_8 rfl ?_
      refine jj_icmp_ge (pc := 11) 65 dX2_layWithIslands_11 (by decide) (fun h11 => ?_) (fun h11 => ?_)
      · refine jj_vret (pc := 65) dX2_layWithIslands_65 ?_
        exact ⟨rfl, rfl⟩
      · exact absurd (jb_ge (by decide)) h11
    · refine jj_iload_n (pc := 7) 2 dX2_layWithIslands_7 rfl rfl ?_
      refine jj_sipush (pc := 8) (v := 128) dX2_layWithIslands_8 rfl ?_
      refine jj_icmp_ge (pc := 11) 65 dX2_layWithIslands_11 (by decide) (fun h11 => ?_) (fun h11 => ?_)
      · exact absurd h11 (jb_lt (by decide) hi)
      · refine jj_aload_n (pc := 14) 0 dX2_layWithIslands_14 rfl rfl ?_
        refine jj_aload_n (pc := 15) 1 dX2_layWithIslands_15 rfl rfl ?_
        refine jj_callVr (pc := 16) _ (c_X2_firstMissingIsland l D cA ob ro ar _) dX2_layWithIslands_16 gX2_layWithIslands_X2_firstMissingIsland jm_X2_firstMissingIsland rfl (by decide) 2 jq_2 rfl rfl rfl (Nat.le_of_ble_eq_true rfl) jz ?_
        refine jj_istore_n_3 (pc := 19) dX2_layWithIslands_19 rfl rfl (by decide) ?_
        refine jj_iload_n (pc := 20) 3 dX2_layWithIslands_20 rfl rfl ?_
        refine jj_iconst (pc := 21) (v := (-1)) dX2_layWithIslands_21 rfl ?_
        refine jj_icmp_ne (pc := 22) 26 dX2_layWithIslands_22 (by decide) (fun h22 => ?_) (fun h22 => ?_)
        · refine jj_aload_n (pc := 26) 0 dX2_layWithIslands_26 rfl rfl ?_
          refine jj_g_2_6 (pc := 27) dX2_layWithIslands_27 fd_X2_layWithIslands_40 ?_
          refine jj_aload_n (pc := 30) 0 dX2_layWithIslands_30 rfl rfl ?_
          refine jj_g_2_0 (pc := 31) dX2_layWithIslands_31 fd_X2_layWithIslands_12 ?_
          refine jj_g_7_2 (pc := 34) dX2_layWithIslands_34 fd_X2_layWithIslands_147 ?_
          refine jj_iload_n (pc := 37) 3 dX2_layWithIslands_37 rfl rfl ?_
          refine jj_rset (pc := 38) (r := 13) (by decide) dX2_layWithIslands_38 gX2_layWithIslands_X4_set (by decide) (Nat.le_of_ble_eq_true rfl) jz ?_
          refine jj_aload_n (pc := 41) 0 dX2_layWithIslands_41 rfl rfl ?_
          refine jj_g_2_0 (pc := 42) dX2_layWithIslands_42 fd_X2_layWithIslands_12 ?_
          refine jj_dup (pc := 45) dX2_layWithIslands_45 rfl ?_
          refine jj_g_7_2 (pc := 46) dX2_layWithIslands_46 fd_X2_layWithIslands_147 ?_
          refine jj_iconst (pc := 49) (v := 1) dX2_layWithIslands_49 rfl ?_
          refine jj_iadd (pc := 50) dX2_layWithIslands_50 ?_
          refine jj_p_7_2 (pc := 51) dX2_layWithIslands_51 fd_X2_layWithIslands_147 ?_
          refine jj_aload_n (pc := 54) 0 dX2_layWithIslands_54 rfl rfl ?_
          refine jj_aload_n (pc := 55) 1 dX2_layWithIslands_55 rfl rfl ?_
          refine jj_callVv (pc := 56) _ (c_X2_layAll l D cA ob ro ar _) dX2_layWithIslands_56 gX2_layWithIslands_X2_layAll jm_X2_layAll rfl (by decide) 2 jq_2 rfl rfl rfl (Nat.le_of_ble_eq_true rfl) jz ?_
          refine jj_iinc_2 (pc := 59) (z := 1) dX2_layWithIslands_59 rfl rfl (by decide) ?_
          refine jj_goto (pc := 62) 7 dX2_layWithIslands_62 (by decide) ?_
          rw [nI_succ, jfo, il2, if_neg h22] at ih
          refine jj_sub ?_ ih
          exact jjLe_some (jjLe_some (jjLe_some (jjLe_none jjLe_nil)))
        · refine jj_vret (pc := 25) dX2_layWithIslands_25 ?_
          exact ⟨rfl, by rw [lkLay, jfo_stop' (Nat.le_of_lt hi) (fun k => by rw [il2, if_pos h22])]⟩
  refine jj_aload_n (pc := 0) 0 dX2_layWithIslands_0 rfl rfl ?_
  refine jj_aload_n (pc := 1) 1 dX2_layWithIslands_1 rfl rfl ?_
  refine jj_callVv (pc := 2) _ (c_X2_layAll l D cA ob ro ar _) dX2_layWithIslands_2 gX2_layWithIslands_X2_layAll jm_X2_layAll rfl (by decide) 2 jq_2 rfl rfl rfl (Nat.le_of_ble_eq_true rfl) jz ?_
  refine jj_iconst (pc := 5) (v := 0) dX2_layWithIslands_5 rfl ?_
  refine jj_istore_n_2 (pc := 6) dX2_layWithIslands_6 rfl rfl (by decide) ?_
  exact K 0 (Nat.zero_le _)
set_option maxHeartbeats 4000000 in
theorem c_X2_attempt (l : Launch) (D : va_G) (cA : ClassId) (ob ro ar : Nat → Nat) (S : jS) (r wo : Int32) : jjFn l yX2_attempt wsX2_attempt 5 D cA [.ref (ob 2), .ref (ob 1), .int r, .int wo] (jW cA ob ro ar S) none (jW cA ob ro ar (lkTry S r wo)) := by
  refine jjCon_of (own := RX2) (cc := cX2_attempt) (nL := 4) (rt := none) (I := jI0) [some (.ref (ob 2)), some (.ref (ob 1)), some (.int r), some (.int wo)] jm_X2_attempt (by decide +kernel) rfl (fun _ _ _ _ _ => trivial) (Nat.le_of_ble_eq_true rfl) rfl ?_
  refine jj_aload_n (pc := 0) 0 dX2_attempt_0 rfl rfl ?_
  refine jj_iload_n (pc := 1) 2 dX2_attempt_1 rfl rfl ?_
  refine jj_callVv (pc := 2) _ (c_X2_begin l D cA ob ro ar _ _) dX2_attempt_2 gX2_attempt_X2_begin jm_X2_begin rfl (by decide) 2 jq_2 rfl rfl rfl (Nat.le_of_ble_eq_true rfl) jz ?_
  refine jj_aload_n (pc := 5) 0 dX2_attempt_5 rfl rfl ?_
  refine jj_aload_n (pc := 6) 1 dX2_attempt_6 rfl rfl ?_
  refine jj_iload_n (pc := 7) 3 dX2_attempt_7 rfl rfl ?_
  refine jj_callVv (pc := 8) _ (c_X2_takePlainObjects l D cA ob ro ar _ _) dX2_attempt_8 gX2_attempt_X2_takePlainObjects jm_X2_takePlainObjects rfl (by decide) 2 jq_2 rfl rfl rfl (Nat.le_of_ble_eq_true rfl) jz ?_
  refine jj_aload_n (pc := 11) 0 dX2_attempt_11 rfl rfl ?_
  refine jj_aload_n (pc := 12) 1 dX2_attempt_12 rfl rfl ?_
  refine jj_iload_n (pc := 13) 3 dX2_attempt_13 rfl rfl ?_
  refine jj_callVv (pc := 14) _ (c_X2_takeNeededArchives l D cA ob ro ar _ _) dX2_attempt_14 gX2_attempt_X2_takeNeededArchives jm_X2_takeNeededArchives rfl (by decide) 2 jq_2 rfl rfl rfl (Nat.le_of_ble_eq_true rfl) jz ?_
  refine jj_aload_n (pc := 17) 0 dX2_attempt_17 rfl rfl ?_
  refine jj_aload_n (pc := 18) 1 dX2_attempt_18 rfl rfl ?_
  refine jj_callVv (pc := 19) _ (c_X2_chooseWhatStands l D cA ob ro ar _) dX2_attempt_19 gX2_attempt_X2_chooseWhatStands jm_X2_chooseWhatStands rfl (by decide) 2 jq_2 rfl rfl rfl (Nat.le_of_ble_eq_true rfl) jz ?_
  refine jj_aload_n (pc := 22) 0 dX2_attempt_22 rfl rfl ?_
  refine jj_callVv (pc := 23) _ (c_X2_findDoubleSymbols l D cA ob ro ar _) dX2_attempt_23 gX2_attempt_X2_findDoubleSymbols jm_X2_findDoubleSymbols rfl (by decide) 2 jq_2 rfl rfl rfl (Nat.le_of_ble_eq_true rfl) jz ?_
  refine jj_aload_n (pc := 26) 0 dX2_attempt_26 rfl rfl ?_
  refine jj_callVv (pc := 27) _ (c_X2_findMissingSymbols l D cA ob ro ar _) dX2_attempt_27 gX2_attempt_X2_findMissingSymbols jm_X2_findMissingSymbols rfl (by decide) 2 jq_2 rfl rfl rfl (Nat.le_of_ble_eq_true rfl) jz ?_
  refine jj_aload_n (pc := 30) 0 dX2_attempt_30 rfl rfl ?_
  refine jj_g_2_3 (pc := 31) dX2_attempt_31 fd_X2_attempt_30 ?_
  refine jj_if_le (pc := 34) 38 dX2_attempt_34 (by decide) (fun h34 => ?_) (fun h34 => ?_)
  · refine jj_aload_n (pc := 38) 0 dX2_attempt_38 rfl rfl ?_
    refine jj_aload_n (pc := 39) 1 dX2_attempt_39 rfl rfl ?_
    refine jj_callVv (pc := 40) _ (c_X2_layWithIslands l D cA ob ro ar _) dX2_attempt_40 gX2_attempt_X2_layWithIslands jm_X2_layWithIslands rfl (by decide) 2 jq_2 rfl rfl rfl (Nat.le_of_ble_eq_true rfl) jz ?_
    refine jj_aload_n (pc := 43) 0 dX2_attempt_43 rfl rfl ?_
    refine jj_aload_n (pc := 44) 1 dX2_attempt_44 rfl rfl ?_
    refine jj_callVv (pc := 45) _ (c_X2_findOutOfReach l D cA ob ro ar _) dX2_attempt_45 gX2_attempt_X2_findOutOfReach jm_X2_findOutOfReach rfl (by decide) 2 jq_2 rfl rfl rfl (Nat.le_of_ble_eq_true rfl) jz ?_
    refine jj_aload_n (pc := 48) 0 dX2_attempt_48 rfl rfl ?_
    refine jj_g_2_9 (pc := 49) dX2_attempt_49 fd_X2_attempt_49 ?_
    refine jj_sipush (pc := 52) (v := 200) dX2_attempt_52 rfl ?_
    refine jj_icmp_le (pc := 55) 64 dX2_attempt_55 (by decide) (fun h55 => ?_) (fun h55 => ?_)
    · refine jj_vret (pc := 64) dX2_attempt_64 ?_
      have e1 : at1 S r wo = lkMissing (lkDouble (lkChoose (lkNeeded (lkPlain (lkBegin S r) wo) wo))) := by rw [at1]
      have e2 : at2 (at1 S r wo) = lkReach (lkLay (at1 S r wo)) := by rw [at2]
      refine ⟨rfl, ?_⟩
      rw [← e1] at h34 h55 ⊢
      rw [← e2] at h55 ⊢
      rw [lkTry, if_pos h34, at3, if_pos h55]
    · refine jj_aload_n (pc := 58) 0 dX2_attempt_58 rfl rfl ?_
      refine jj_iconst (pc := 59) (v := 4) dX2_attempt_59 rfl ?_
      refine jj_iconst (pc := 60) (v := (-1)) dX2_attempt_60 rfl ?_
      refine jj_callVv (pc := 61) _ (c_X2_addFault l D cA ob ro ar _ _ _) dX2_attempt_61 gX2_attempt_X2_addFault jm_X2_addFault rfl (by decide) 2 jq_2 rfl rfl rfl (Nat.le_of_ble_eq_true rfl) jz ?_
      refine jj_vret (pc := 64) dX2_attempt_64 ?_
      have e1 : at1 S r wo = lkMissing (lkDouble (lkChoose (lkNeeded (lkPlain (lkBegin S r) wo) wo))) := by rw [at1]
      have e2 : at2 (at1 S r wo) = lkReach (lkLay (at1 S r wo)) := by rw [at2]
      refine ⟨rfl, ?_⟩
      rw [← e1] at h34 h55 ⊢
      rw [← e2] at h55 ⊢
      rw [lkTry, if_pos h34, at3, if_neg h55]
  · refine jj_vret (pc := 37) dX2_attempt_37 ?_
    have e1 : at1 S r wo = lkMissing (lkDouble (lkChoose (lkNeeded (lkPlain (lkBegin S r) wo) wo))) := by rw [at1]
    refine ⟨rfl, ?_⟩
    rw [← e1] at h34 ⊢
    rw [lkTry, if_neg h34]
