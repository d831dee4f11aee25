/-! The class Stock, and what all parts use. -/
theorem jb_31 (x : Int32) : x.toNatClampNeg < 2 ^ 31 := by
  have h := Int32.toInt_lt x
  have e : (x.toNatClampNeg : Int) = max x.toInt 0 := by rw [Int32.toNatClampNeg]; exact Int.toNat_eq_max _
  omega
theorem jb_cl (x : Int32) : (x.toNatClampNeg : Int) = max x.toInt 0 := by rw [Int32.toNatClampNeg]; exact Int.toNat_eq_max _
/-- the bound of a loop, x, as a number N -/
theorem jb_lt {x : Int32} {N i : Nat} (hx : x.toNatClampNeg = N) (h : i < N) : ¬ x ≤ nI i := by
  have h1 := jb_cl x
  have h2 := jb_31 x
  rw [Int32.le_iff_toInt_le, nI_toInt (by omega)]
  omega
theorem jb_ge {x : Int32} {N : Nat} (hx : x.toNatClampNeg = N) : x ≤ nI N := by
  have h1 := jb_cl x
  have h2 := jb_31 x
  rw [Int32.le_iff_toInt_le, nI_toInt (by omega)]
  omega
def bz (b : Int32) : Int32 := if b = 0 then 0 else 1
def bI (b : Bool) : Int32 := if b then 1 else 0
theorem bI_n (b : Bool) : narrow .boolean (.int (bI b)) = .int (bI b) := by cases b <;> rfl
theorem bI_0 {b : Bool} (h : bI b = 0) : b = false := by cases b with | false => rfl | true => exact absurd h (by decide)
theorem bI_1 {b : Bool} (h : ¬ bI b = 0) : b = true := by cases b with | true => rfl | false => exact absurd rfl h
def jany (q : Nat → Bool) : Nat → Bool
  | 0 => false
  | n + 1 => jany q n || q n
theorem jany_t {q : Nat → Bool} : ∀ {N i : Nat}, i < N → q i = true → jany q N = true
  | 0, i, h, _ => absurd h (Nat.not_lt_zero i)
  | N + 1, i, h, hq => by
    rw [jany]
    rcases Nat.lt_or_ge i N with z | z
    · rw [jany_t z hq]; rfl
    · rw [show N = i by omega, hq, Bool.or_true]
def addObj (S : jS) (b : Int32) : jS := js (jset S 1 (S.1 1) (bz b)) 1 (S.1 1 + 1)
def addPc (S : jS) (o y z b : Int32) : jS := js (jset (jset (jset (jset S 2 (S.1 2) o) 3 (S.1 2) y) 4 (S.1 2) z) 5 (S.1 2) (bz b)) 2 (S.1 2 + 1)
def addRef (S : jS) (p y b : Int32) : jS := jadd (jset (jset S 7 (p * 3 + jg S 6 p) y) 8 (p * 3 + jg S 6 p) (bz b)) 6 p 1
def mTarget (S : jS) (p k : Int32) : Int32 := jg S 7 (p * 3 + k)
def mNear (S : jS) (p k : Int32) : Bool := decide (jg S 8 (p * 3 + k) = 1)
def mOfPatch (S : jS) (p : Int32) : Bool := decide (jg S 2 p = -1)
def mSymB (S : jS) (y : Int32) : Nat → Int32
  | 0 => 0
  | i + 1 => if jg S 2 (nI i) = y then mSymB S y i ||| (1 <<< (jg S 3 (nI i) &&& 31)) else mSymB S y i
def mRefsOf (S : jS) (y p : Int32) : Int32 := if jg S 2 p = y then jg S 6 p else 0
def mTgB1 (S : jS) (p b : Int32) : Nat → Int32
  | 0 => b
  | k + 1 => mTgB1 S p b k ||| (1 <<< (mTarget S p (nI k) &&& 31))
def mTgB (S : jS) (y : Int32) : Nat → Int32
  | 0 => 0
  | i + 1 => mTgB1 S (nI i) (mTgB S y i) (mRefsOf S y (nI i)).toNatClampNeg
set_option maxHeartbeats 4000000 in
theorem c_X6_addObject (l : Launch) (D : va_G) (cA : ClassId) (ob ro ar : Nat → Nat) (S : jS) (b : Int32) : jjFn l yX6_addObject wsX6_addObject 1 D cA [.ref (ob 1), .int b] (jW cA ob ro ar S) (some (.int (S.1 1 + 1 - 1))) (jW cA ob ro ar (addObj S b)) := by
  refine jjCon_of (own := RX6) (cc := cX6_addObject) (nL := 2) (rt := (some .int)) (I := jI0) [some (.ref (ob 1)), some (.int b)] jm_X6_addObject (by decide +kernel) rfl (fun _ _ _ _ _ => trivial) (Nat.le_of_ble_eq_true rfl) rfl ?_
  refine jj_aload_n (pc := 0) 0 dX6_addObject_0 rfl rfl ?_
  refine jj_g_1_0 (pc := 1) dX6_addObject_1 fd_X6_addObject_14 ?_
  refine jj_aload_n (pc := 4) 0 dX6_addObject_4 rfl rfl ?_
  refine jj_g_1_1 (pc := 5) dX6_addObject_5 fd_X6_addObject_20 ?_
  refine jj_iload_n (pc := 8) 1 dX6_addObject_8 rfl rfl ?_
  refine jj_if_eq (pc := 9) 16 dX6_addObject_9 (by decide) (fun h9 => ?_) (fun h9 => ?_)
  · refine jj_iconst (pc := 16) (v := 0) dX6_addObject_16 rfl ?_
    refine jj_rset (pc := 17) (r := 1) (by decide) dX6_addObject_17 gX6_addObject_X4_set (by decide) (Nat.le_of_ble_eq_true rfl) jz ?_
    refine jj_aload_n (pc := 20) 0 dX6_addObject_20 rfl rfl ?_
    refine jj_dup (pc := 21) dX6_addObject_21 rfl ?_
    refine jj_g_1_1 (pc := 22) dX6_addObject_22 fd_X6_addObject_20 ?_
    refine jj_iconst (pc := 25) (v := 1) dX6_addObject_25 rfl ?_
    refine jj_iadd (pc := 26) dX6_addObject_26 ?_
    refine jj_p_1_1 (pc := 27) dX6_addObject_27 fd_X6_addObject_20 ?_
    refine jj_aload_n (pc := 30) 0 dX6_addObject_30 rfl rfl ?_
    refine jj_g_1_1 (pc := 31) dX6_addObject_31 fd_X6_addObject_20 ?_
    refine jj_iconst (pc := 34) (v := 1) dX6_addObject_34 rfl ?_
    refine jj_isub (pc := 35) dX6_addObject_35 ?_
    refine jj_iret (pc := 36) dX6_addObject_36 ?_
    exact ⟨rfl, by rw [addObj, bz, if_pos h9]; rfl⟩
  · refine jj_iconst (pc := 12) (v := 1) dX6_addObject_12 rfl ?_
    refine jj_goto (pc := 13) 17 dX6_addObject_13 (by decide) ?_
    refine jj_rset (pc := 17) (r := 1) (by decide) dX6_addObject_17 gX6_addObject_X4_set (by decide) (Nat.le_of_ble_eq_true rfl) jz ?_
    refine jj_aload_n (pc := 20) 0 dX6_addObject_20 rfl rfl ?_
    refine jj_dup (pc := 21) dX6_addObject_21 rfl ?_
    refine jj_g_1_1 (pc := 22) dX6_addObject_22 fd_X6_addObject_20 ?_
    refine jj_iconst (pc := 25) (v := 1) dX6_addObject_25 rfl ?_
    refine jj_iadd (pc := 26) dX6_addObject_26 ?_
    refine jj_p_1_1 (pc := 27) dX6_addObject_27 fd_X6_addObject_20 ?_
    refine jj_aload_n (pc := 30) 0 dX6_addObject_30 rfl rfl ?_
    refine jj_g_1_1 (pc := 31) dX6_addObject_31 fd_X6_addObject_20 ?_
    refine jj_iconst (pc := 34) (v := 1) dX6_addObject_34 rfl ?_
    refine jj_isub (pc := 35) dX6_addObject_35 ?_
    refine jj_iret (pc := 36) dX6_addObject_36 ?_
    exact ⟨rfl, by rw [addObj, bz, if_neg h9]; rfl⟩
set_option maxHeartbeats 4000000 in
theorem c_X6_addPiece (l : Launch) (D : va_G) (cA : ClassId) (ob ro ar : Nat → Nat) (S : jS) (y1 y2 y3 b : Int32) : jjFn l yX6_addPiece wsX6_addPiece 1 D cA [.ref (ob 1), .int y1, .int y2, .int y3, .int b] (jW cA ob ro ar S) (some (.int (S.1 2 + 1 - 1))) (jW cA ob ro ar (addPc S y1 y2 y3 b)) := by
  refine jjCon_of (own := RX6) (cc := cX6_addPiece) (nL := 5) (rt := (some .int)) (I := jI0) [some (.ref (ob 1)), some (.int y1), some (.int y2), some (.int y3), some (.int b)] jm_X6_addPiece (by decide +kernel) rfl (fun _ _ _ _ _ => trivial) (Nat.le_of_ble_eq_true rfl) rfl ?_
  refine jj_aload_n (pc := 0) 0 dX6_addPiece_0 rfl rfl ?_
  refine jj_g_1_2 (pc := 1) dX6_addPiece_1 fd_X6_addPiece_24 ?_
  refine jj_aload_n (pc := 4) 0 dX6_addPiece_4 rfl rfl ?_
  refine jj_g_1_9 (pc := 5) dX6_addPiece_5 fd_X6_addPiece_45 ?_
  refine jj_iload_n (pc := 8) 1 dX6_addPiece_8 rfl rfl ?_
  refine jj_rset (pc := 9) (r := 2) (by decide) dX6_addPiece_9 gX6_addPiece_X4_set (by decide) (Nat.le_of_ble_eq_true rfl) jz ?_
  refine jj_aload_n (pc := 12) 0 dX6_addPiece_12 rfl rfl ?_
  refine jj_g_1_3 (pc := 13) dX6_addPiece_13 fd_X6_addPiece_27 ?_
  refine jj_aload_n (pc := 16) 0 dX6_addPiece_16 rfl rfl ?_
  refine jj_g_1_9 (pc := 17) dX6_addPiece_17 fd_X6_addPiece_45 ?_
  refine jj_iload_n (pc := 20) 2 dX6_addPiece_20 rfl rfl ?_
  refine jj_rset (pc := 21) (r := 3) (by decide) dX6_addPiece_21 gX6_addPiece_X4_set (by decide) (Nat.le_of_ble_eq_true rfl) jz ?_
  refine jj_aload_n (pc := 24) 0 dX6_addPiece_24 rfl rfl ?_
  refine jj_g_1_4 (pc := 25) dX6_addPiece_25 fd_X6_addPiece_30 ?_
  refine jj_aload_n (pc := 28) 0 dX6_addPiece_28 rfl rfl ?_
  refine jj_g_1_9 (pc := 29) dX6_addPiece_29 fd_X6_addPiece_45 ?_
  refine jj_iload_n (pc := 32) 3 dX6_addPiece_32 rfl rfl ?_
  refine jj_rset (pc := 33) (r := 4) (by decide) dX6_addPiece_33 gX6_addPiece_X4_set (by decide) (Nat.le_of_ble_eq_true rfl) jz ?_
  refine jj_aload_n (pc := 36) 0 dX6_addPiece_36 rfl rfl ?_
  refine jj_g_1_5 (pc := 37) dX6_addPiece_37 fd_X6_addPiece_33 ?_
  refine jj_aload_n (pc := 40) 0 dX6_addPiece_40 rfl rfl ?_
  refine jj_g_1_9 (pc := 41) dX6_addPiece_41 fd_X6_addPiece_45 ?_
  refine jj_iload (pc := 44) dX6_addPiece_44 rfl ?_
  refine jj_if_eq (pc := 46) 53 dX6_addPiece_46 (by decide) (fun h46 => ?_) (fun h46 => ?_)
  · refine jj_iconst (pc := 53) (v := 0) dX6_addPiece_53 rfl ?_
    refine jj_rset (pc := 54) (r := 5) (by decide) dX6_addPiece_54 gX6_addPiece_X4_set (by decide) (Nat.le_of_ble_eq_true rfl) jz ?_
    refine jj_aload_n (pc := 57) 0 dX6_addPiece_57 rfl rfl ?_
    refine jj_dup (pc := 58) dX6_addPiece_58 rfl ?_
    refine jj_g_1_9 (pc := 59) dX6_addPiece_59 fd_X6_addPiece_45 ?_
    refine jj_iconst (pc := 62) (v := 1) dX6_addPiece_62 rfl ?_
    refine jj_iadd (pc := 63) dX6_addPiece_63 ?_
    refine jj_p_1_9 (pc := 64) dX6_addPiece_64 fd_X6_addPiece_45 ?_
    refine jj_aload_n (pc := 67) 0 dX6_addPiece_67 rfl rfl ?_
    refine jj_g_1_9 (pc := 68) dX6_addPiece_68 fd_X6_addPiece_45 ?_
    refine jj_iconst (pc := 71) (v := 1) dX6_addPiece_71 rfl ?_
    refine jj_isub (pc := 72) dX6_addPiece_72 ?_
    refine jj_iret (pc := 73) dX6_addPiece_73 ?_
    exact ⟨rfl, by rw [addPc, bz, if_pos h46]; rfl⟩
  · refine jj_iconst (pc := 49) (v := 1) dX6_addPiece_49 rfl ?_
    refine jj_goto (pc := 50) 54 dX6_addPiece_50 (by decide) ?_
    refine jj_rset (pc := 54) (r := 5) (by decide) dX6_addPiece_54 gX6_addPiece_X4_set (by decide) (Nat.le_of_ble_eq_true rfl) jz ?_
    refine jj_aload_n (pc := 57) 0 dX6_addPiece_57 rfl rfl ?_
    refine jj_dup (pc := 58) dX6_addPiece_58 rfl ?_
    refine jj_g_1_9 (pc := 59) dX6_addPiece_59 fd_X6_addPiece_45 ?_
    refine jj_iconst (pc := 62) (v := 1) dX6_addPiece_62 rfl ?_
    refine jj_iadd (pc := 63) dX6_addPiece_63 ?_
    refine jj_p_1_9 (pc := 64) dX6_addPiece_64 fd_X6_addPiece_45 ?_
    refine jj_aload_n (pc := 67) 0 dX6_addPiece_67 rfl rfl ?_
    refine jj_g_1_9 (pc := 68) dX6_addPiece_68 fd_X6_addPiece_45 ?_
    refine jj_iconst (pc := 71) (v := 1) dX6_addPiece_71 rfl ?_
    refine jj_isub (pc := 72) dX6_addPiece_72 ?_
    refine jj_iret (pc := 73) dX6_addPiece_73 ?_
    exact ⟨rfl, by rw [addPc, bz, if_neg h46]; rfl⟩
set_option maxHeartbeats 4000000 in
theorem c_X6_addReference (l : Launch) (D : va_G) (cA : ClassId) (ob ro ar : Nat → Nat) (S : jS) (p y b : Int32) : jjFn l yX6_addReference wsX6_addReference 2 D cA [.ref (ob 1), .int p, .int y, .int b] (jW cA ob ro ar S) (some (.int (jg (addRef S p y b) 6 p))) (jW cA ob ro ar (addRef S p y b)) := by
  refine jjCon_of (own := RX6) (cc := cX6_addReference) (nL := 5) (rt := (some .int)) (I := jI0) [some (.ref (ob 1)), some (.int p), some (.int y), some (.int b), none] jm_X6_addReference (by decide +kernel) rfl (fun _ _ _ _ _ => trivial) (Nat.le_of_ble_eq_true rfl) rfl ?_
  refine jj_iload_n (pc := 0) 1 dX6_addReference_0 rfl rfl ?_
  refine jj_iconst (pc := 1) (v := 3) dX6_addReference_1 rfl ?_
  refine jj_imul (pc := 2) dX6_addReference_2 ?_
  refine jj_aload_n (pc := 3) 0 dX6_addReference_3 rfl rfl ?_
  refine jj_g_1_6 (pc := 4) dX6_addReference_4 fd_X6_addReference_36 ?_
  refine jj_iload_n (pc := 7) 1 dX6_addReference_7 rfl rfl ?_
  refine jj_rget (pc := 8) (r := 6) (by decide) dX6_addReference_8 gX6_addReference_X4_get (by decide) (Nat.le_of_ble_eq_true rfl) jz ?_
  refine jj_iadd (pc := 11) dX6_addReference_11 ?_
  refine jj_istore_4 (pc := 12) dX6_addReference_12 rfl (by decide) ?_
  refine jj_aload_n (pc := 14) 0 dX6_addReference_14 rfl rfl ?_
  refine jj_g_1_7 (pc := 15) dX6_addReference_15 fd_X6_addReference_39 ?_
  refine jj_iload (pc := 18) dX6_addReference_18 rfl ?_
  refine jj_iload_n (pc := 20) 2 dX6_addReference_20 rfl rfl ?_
  refine jj_rset (pc := 21) (r := 7) (by decide) dX6_addReference_21 gX6_addReference_X4_set (by decide) (Nat.le_of_ble_eq_true rfl) jz ?_
  refine jj_aload_n (pc := 24) 0 dX6_addReference_24 rfl rfl ?_
  refine jj_g_1_8 (pc := 25) dX6_addReference_25 fd_X6_addReference_42 ?_
  refine jj_iload (pc := 28) dX6_addReference_28 rfl ?_
  refine jj_iload_n (pc := 30) 3 dX6_addReference_30 rfl rfl ?_
  refine jj_if_eq (pc := 31) 38 dX6_addReference_31 (by decide) (fun h31 => ?_) (fun h31 => ?_)
  · refine jj_iconst (pc := 38) (v := 0) dX6_addReference_38 rfl ?_
    refine jj_rset (pc := 39) (r := 8) (by decide) dX6_addReference_39 gX6_addReference_X4_set (by decide) (Nat.le_of_ble_eq_true rfl) jz ?_
    refine jj_aload_n (pc := 42) 0 dX6_addReference_42 rfl rfl ?_
    refine jj_g_1_6 (pc := 43) dX6_addReference_43 fd_X6_addReference_36 ?_
    refine jj_iload_n (pc := 46) 1 dX6_addReference_46 rfl rfl ?_
    refine jj_iconst (pc := 47) (v := 1) dX6_addReference_47 rfl ?_
    refine jj_radd (pc := 48) (r := 6) (by decide) dX6_addReference_48 gX6_addReference_X4_add (by decide) (Nat.le_of_ble_eq_true rfl) jz ?_
    refine jj_aload_n (pc := 51) 0 dX6_addReference_51 rfl rfl ?_
    refine jj_g_1_6 (pc := 52) dX6_addReference_52 fd_X6_addReference_36 ?_
    refine jj_iload_n (pc := 55) 1 dX6_addReference_55 rfl rfl ?_
    refine jj_rget (pc := 56) (r := 6) (by decide) dX6_addReference_56 gX6_addReference_X4_get (by decide) (Nat.le_of_ble_eq_true rfl) jz ?_
    refine jj_iret (pc := 59) dX6_addReference_59 ?_
    have e : bz b = 0 := if_pos h31
    exact ⟨by rw [addRef, e], by rw [addRef, e]⟩
  · refine jj_iconst (pc := 34) (v := 1) dX6_addReference_34 rfl ?_
    refine jj_goto (pc := 35) 39 dX6_addReference_35 (by decide) ?_
    refine jj_rset (pc := 39) (r := 8) (by decide) dX6_addReference_39 gX6_addReference_X4_set (by decide) (Nat.le_of_ble_eq_true rfl) jz ?_
    refine jj_aload_n (pc := 42) 0 dX6_addReference_42 rfl rfl ?_
    refine jj_g_1_6 (pc := 43) dX6_addReference_43 fd_X6_addReference_36 ?_
    refine jj_iload_n (pc := 46) 1 dX6_addReference_46 rfl rfl ?_
    refine jj_iconst (pc := 47) (v := 1) dX6_addReference_47 rfl ?_
    refine jj_radd (pc := 48) (r := 6) (by decide) dX6_addReference_48 gX6_addReference_X4_add (by decide) (Nat.le_of_ble_eq_true rfl) jz ?_
    refine jj_aload_n (pc := 51) 0 dX6_addReference_51 rfl rfl ?_
    refine jj_g_1_6 (pc := 52) dX6_addReference_52 fd_X6_addReference_36 ?_
    refine jj_iload_n (pc := 55) 1 dX6_addReference_55 rfl rfl ?_
    refine jj_rget (pc := 56) (r := 6) (by decide) dX6_addReference_56 gX6_addReference_X4_get (by decide) (Nat.le_of_ble_eq_true rfl) jz ?_
    refine jj_iret (pc := 59) dX6_addReference_59 ?_
    have e : bz b = 1 := if_neg h31
    exact ⟨by rw [addRef, e], by rw [addRef, e]⟩
set_option maxHeartbeats 4000000 in
theorem c_X6_isOfPatch (l : Launch) (D : va_G) (cA : ClassId) (ob ro ar : Nat → Nat) (S : jS) (p : Int32) : jjFn l yX6_isOfPatch wsX6_isOfPatch 1 D cA [.ref (ob 1), .int p] (jW cA ob ro ar S) (some (.int (bI (mOfPatch S p)))) (jW cA ob ro ar S) := by
  refine jjCon_of (own := RX6) (cc := cX6_isOfPatch) (nL := 2) (rt := (some .boolean)) (I := jI0) [some (.ref (ob 1)), some (.int p)] jm_X6_isOfPatch (by decide +kernel) rfl (fun _ _ _ _ _ => trivial) (Nat.le_of_ble_eq_true rfl) rfl ?_
  refine jj_aload_n (pc := 0) 0 dX6_isOfPatch_0 rfl rfl ?_
  refine jj_g_1_2 (pc := 1) dX6_isOfPatch_1 fd_X6_isOfPatch_24 ?_
  refine jj_iload_n (pc := 4) 1 dX6_isOfPatch_4 rfl rfl ?_
  refine jj_rget (pc := 5) (r := 2) (by decide) dX6_isOfPatch_5 gX6_isOfPatch_X4_get (by decide) (Nat.le_of_ble_eq_true rfl) jz ?_
  refine jj_iconst (pc := 8) (v := (-1)) dX6_isOfPatch_8 rfl ?_
  refine jj_icmp_ne (pc := 9) 16 dX6_isOfPatch_9 (by decide) (fun h9 => ?_) (fun h9 => ?_)
  · refine jj_iconst (pc := 16) (v := 0) dX6_isOfPatch_16 rfl ?_
    refine jj_zret (pc := 17) rfl dX6_isOfPatch_17 ?_
    exact ⟨by simp [mOfPatch, bI, h9], rfl⟩
  · refine jj_iconst (pc := 12) (v := 1) dX6_isOfPatch_12 rfl ?_
    refine jj_goto (pc := 13) 17 dX6_isOfPatch_13 (by decide) ?_
    refine jj_zret (pc := 17) rfl dX6_isOfPatch_17 ?_
    exact ⟨by simp [mOfPatch, bI, h9], rfl⟩
set_option maxHeartbeats 4000000 in
theorem c_X6_target (l : Launch) (D : va_G) (cA : ClassId) (ob ro ar : Nat → Nat) (S : jS) (p k : Int32) : jjFn l yX6_target wsX6_target 1 D cA [.ref (ob 1), .int p, .int k] (jW cA ob ro ar S) (some (.int (mTarget S p k))) (jW cA ob ro ar S) := by
  refine jjCon_of (own := RX6) (cc := cX6_target) (nL := 3) (rt := (some .int)) (I := jI0) [some (.ref (ob 1)), some (.int p), some (.int k)] jm_X6_target (by decide +kernel) rfl (fun _ _ _ _ _ => trivial) (Nat.le_of_ble_eq_true rfl) rfl ?_
  refine jj_aload_n (pc := 0) 0 dX6_target_0 rfl rfl ?_
  refine jj_g_1_7 (pc := 1) dX6_target_1 fd_X6_target_39 ?_
  refine jj_iload_n (pc := 4) 1 dX6_target_4 rfl rfl ?_
  refine jj_iconst (pc := 5) (v := 3) dX6_target_5 rfl ?_
  refine jj_imul (pc := 6) dX6_target_6 ?_
  refine jj_iload_n (pc := 7) 2 dX6_target_7 rfl rfl ?_
  refine jj_iadd (pc := 8) dX6_target_8 ?_
  refine jj_rget (pc := 9) (r := 7) (by decide) dX6_target_9 gX6_target_X4_get (by decide) (Nat.le_of_ble_eq_true rfl) jz ?_
  refine jj_iret (pc := 12) dX6_target_12 ?_
  exact ⟨rfl, rfl⟩
set_option maxHeartbeats 4000000 in
theorem c_X6_isNear (l : Launch) (D : va_G) (cA : ClassId) (ob ro ar : Nat → Nat) (S : jS) (p k : Int32) : jjFn l yX6_isNear wsX6_isNear 1 D cA [.ref (ob 1), .int p, .int k] (jW cA ob ro ar S) (some (.int (bI (mNear S p k)))) (jW cA ob ro ar S) := by
  refine jjCon_of (own := RX6) (cc := cX6_isNear) (nL := 3) (rt := (some .boolean)) (I := jI0) [some (.ref (ob 1)), some (.int p), some (.int k)] jm_X6_isNear (by decide +kernel) rfl (fun _ _ _ _ _ => trivial) (Nat.le_of_ble_eq_true rfl) rfl ?_
  refine jj_aload_n (pc := 0) 0 dX6_isNear_0 rfl rfl ?_
  refine jj_g_1_8 (pc := 1) dX6_isNear_1 fd_X6_isNear_42 ?_
  refine jj_iload_n (pc := 4) 1 dX6_isNear_4 rfl rfl ?_
  refine jj_iconst (pc := 5) (v := 3) dX6_isNear_5 rfl ?_
  refine jj_imul (pc := 6) dX6_isNear_6 ?_
  refine jj_iload_n (pc := 7) 2 dX6_isNear_7 rfl rfl ?_
  refine jj_iadd (pc := 8) dX6_isNear_8 ?_
  refine jj_rget (pc := 9) (r := 8) (by decide) dX6_isNear_9 gX6_isNear_X4_get (by decide) (Nat.le_of_ble_eq_true rfl) jz ?_
  refine jj_iconst (pc := 12) (v := 1) dX6_isNear_12 rfl ?_
  refine jj_icmp_ne (pc := 13) 20 dX6_isNear_13 (by decide) (fun h13 => ?_) (fun h13 => ?_)
  · refine jj_iconst (pc := 20) (v := 0) dX6_isNear_20 rfl ?_
    refine jj_zret (pc := 21) rfl dX6_isNear_21 ?_
    exact ⟨by simp [mNear, bI, h13], rfl⟩
  · refine jj_iconst (pc := 16) (v := 1) dX6_isNear_16 rfl ?_
    refine jj_goto (pc := 17) 21 dX6_isNear_17 (by decide) ?_
    refine jj_zret (pc := 21) rfl dX6_isNear_21 ?_
    exact ⟨by simp [mNear, bI, h13], rfl⟩
set_option maxHeartbeats 4000000 in
theorem c_X6_symbolBits (l : Launch) (D : va_G) (cA : ClassId) (ob ro ar : Nat → Nat) (S : jS) (y : Int32) : jjFn l yX6_symbolBits wsX6_symbolBits 1 D cA [.ref (ob 1), .int y] (jW cA ob ro ar S) (some (.int (mSymB S y (S.1 2).toNatClampNeg))) (jW cA ob ro ar S) := by
  refine jjCon_of (own := RX6) (cc := cX6_symbolBits) (nL := 4) (rt := (some .int)) (I := jI0) [some (.ref (ob 1)), some (.int y), none, none] jm_X6_symbolBits (by decide +kernel) rfl (fun _ _ _ _ _ => trivial) (Nat.le_of_ble_eq_true rfl) rfl ?_
  have K : ∀ i, i ≤ (S.1 2).toNatClampNeg → jjV l RX6 cX6_symbolBits 4 (some .int) jI0 wsX6_symbolBits (jjRm 1 0 0) D cA (jjEnd D (fun r0 w0 => r0 = some (.int (mSymB S y (S.1 2).toNatClampNeg)) ∧ w0 = jW cA ob ro ar S) 0 0) 0 0 (jW cA ob ro ar S) 4 [some (.ref (ob 1)), some (.int y), some (.int (mSymB S y i)), some (.int (nI i))] [] := by
    refine jdown ((S.1 2).toNatClampNeg) ?_ (fun i hi ih => ?_)
    · refine jj_iload_n (pc := 4) 3 dX6_symbolBits_4 rfl rfl ?_
      refine jj_aload_n (pc := 5) 0 dX6_symbolBits_5 rfl rfl ?_
      refine jj_g_1_9 (pc := 6) dX6_symbolBits_6 fd_X6_symbolBits_45 ?_
      refine jj_icmp_ge (pc := 9) 43 dX6_symbolBits_9 (by decide) (fun h9 => ?_) (fun h9 => ?_)
      · refine jj_iload_n (pc := 43) 2 dX6_symbolBits_43 rfl rfl ?_
        refine jj_iret (pc := 44) dX6_symbolBits_44 ?_
        exact ⟨rfl, rfl⟩
      · exact absurd (jb_ge rfl) h9
    · refine jj_iload_n (pc := 4) 3 dX6_symbolBits_4 rfl rfl ?_
      refine jj_aload_n (pc := 5) 0 dX6_symbolBits_5 rfl rfl ?_
      refine jj_g_1_9 (pc := 6) dX6_symbolBits_6 fd_X6_symbolBits_45 ?_
      refine jj_icmp_ge (pc := 9) 43 dX6_symbolBits_9 (by decide) (fun h9 => ?_) (fun h9 => ?_)
      · exact absurd h9 (jb_lt rfl hi)
      · refine jj_aload_n (pc := 12) 0 dX6_symbolBits_12 rfl rfl ?_
        refine jj_g_1_2 (pc := 13) dX6_symbolBits_13 fd_X6_symbolBits_24 ?_
        refine jj_iload_n (pc := 16) 3 dX6_symbolBits_16 rfl rfl ?_
        refine jj_rget (pc := 17) (r := 2) (by decide) dX6_symbolBits_17 gX6_symbolBits_X4_get (by decide) (Nat.le_of_ble_eq_true rfl) jz ?_
        refine jj_iload_n (pc := 20) 1 dX6_symbolBits_20 rfl rfl ?_
        refine jj_icmp_ne (pc := 21) 37 dX6_symbolBits_21 (by decide) (fun h21 => ?_) (fun h21 => ?_)
        · refine jj_iinc_3 (pc := 37) (z := 1) dX6_symbolBits_37 rfl rfl (by decide) ?_
          refine jj_goto (pc := 40) 4 dX6_symbolBits_40 (by decide) ?_
          rw [nI_succ, mSymB, if_neg h21] at ih
          exact ih
        · refine jj_iload_n (pc := 24) 2 dX6_symbolBits_24 rfl rfl ?_
          refine jj_iconst (pc := 25) (v := 1) dX6_symbolBits_25 rfl ?_
          refine jj_aload_n (pc := 26) 0 dX6_symbolBits_26 rfl rfl ?_
          refine jj_g_1_3 (pc := 27) dX6_symbolBits_27 fd_X6_symbolBits_27 ?_
          refine jj_iload_n (pc := 30) 3 dX6_symbolBits_30 rfl rfl ?_
          refine jj_rget (pc := 31) (r := 3) (by decide) dX6_symbolBits_31 gX6_symbolBits_X4_get (by decide) (Nat.le_of_ble_eq_true rfl) jz ?_
          refine jj_ishl (pc := 34) dX6_symbolBits_34 ?_
          refine jj_ior (pc := 35) dX6_symbolBits_35 ?_
          refine jj_istore_n_2 (pc := 36) dX6_symbolBits_36 rfl rfl (by decide) ?_
          refine jj_iinc_3 (pc := 37) (z := 1) dX6_symbolBits_37 rfl rfl (by decide) ?_
          refine jj_goto (pc := 40) 4 dX6_symbolBits_40 (by decide) ?_
          rw [nI_succ, mSymB, if_pos h21] at ih
          exact ih
  refine jj_iconst (pc := 0) (v := 0) dX6_symbolBits_0 rfl ?_
  refine jj_istore_n_2 (pc := 1) dX6_symbolBits_1 rfl rfl (by decide) ?_
  refine jj_iconst (pc := 2) (v := 0) dX6_symbolBits_2 rfl ?_
  refine jj_istore_n_3 (pc := 3) dX6_symbolBits_3 rfl rfl (by decide) ?_
  exact K 0 (Nat.zero_le _)
set_option maxHeartbeats 4000000 in
theorem c_X6_targetBits (l : Launch) (D : va_G) (cA : ClassId) (ob ro ar : Nat → Nat) (S : jS) (y : Int32) : jjFn l yX6_targetBits wsX6_targetBits 2 D cA [.ref (ob 1), .int y] (jW cA ob ro ar S) (some (.int (mTgB S y (S.1 2).toNatClampNeg))) (jW cA ob ro ar S) := by
  refine jjCon_of (own := RX6) (cc := cX6_targetBits) (nL := 6) (rt := (some .int)) (I := jI0) [some (.ref (ob 1)), some (.int y), none, none, none, none] jm_X6_targetBits (by decide +kernel) rfl (fun _ _ _ _ _ => trivial) (Nat.le_of_ble_eq_true rfl) rfl ?_
  have K : ∀ i, i ≤ (S.1 2).toNatClampNeg → jjV l RX6 cX6_targetBits 6 (some .int) jI0 wsX6_targetBits (jjRm 2 0 0) D cA (jjEnd D (fun r0 w0 => r0 = some (.int (mTgB S y (S.1 2).toNatClampNeg)) ∧ w0 = jW cA ob ro ar S) 0 0) 0 0 (jW cA ob ro ar S) 4 [some (.ref (ob 1)), some (.int y), some (.int (mTgB S y i)), some (.int (nI i)), none, none] [] := by
    refine jdown ((S.1 2).toNatClampNeg) ?_ (fun i hi ih => ?_)
    · refine jj_iload_n (pc := 4) 3 dX6_targetBits_4 rfl rfl ?_
      refine jj_aload_n (pc := 5) 0 dX6_targetBits_5 rfl rfl ?_
      refine jj_g_1_9 (pc := 6) dX6_targetBits_6 fd_X6_targetBits_45 ?_
      refine jj_icmp_ge (pc := 9) 72 dX6_targetBits_9 (by decide) (fun h9 => ?_) (fun h9 => ?_)
      · refine jj_iload_n (pc := 72) 2 dX6_targetBits_72 rfl rfl ?_
        refine jj_iret (pc := 73) dX6_targetBits_73 ?_
        exact ⟨rfl, rfl⟩
      · exact absurd (jb_ge rfl) h9
    · have K2 : ∀ k, k ≤ (mRefsOf S y (nI i)).toNatClampNeg → jjV l RX6 cX6_targetBits 6 (some .int) jI0 wsX6_targetBits (jjRm 2 0 0) D cA (jjEnd D (fun r0 w0 => r0 = some (.int (mTgB S y (S.1 2).toNatClampNeg)) ∧ w0 = jW cA ob ro ar S) 0 0) 0 0 (jW cA ob ro ar S) 41 [some (.ref (ob 1)), some (.int y), some (.int (mTgB1 S (nI i) (mTgB S y i) k)), some (.int (nI i)), some (.int (mRefsOf S y (nI i))), some (.int (nI k))] [] := by
        refine jdown _ ?_ (fun k hk ih2 => ?_)
        · refine jj_iload (pc := 41) dX6_targetBits_41 rfl ?_
          refine jj_iload (pc := 43) dX6_targetBits_43 rfl ?_
          refine jj_icmp_ge (pc := 45) 66 dX6_targetBits_45 (by decide) (fun h45 => ?_) (fun h45 => ?_)
          · refine jj_iinc_3 (pc := 66) (z := 1) dX6_targetBits_66 rfl rfl (by decide) ?_
            refine jj_goto (pc := 69) 4 dX6_targetBits_69 (by decide) ?_
            rw [nI_succ, mTgB] at ih
            refine jj_sub ?_ ih
            exact jjLe_some (jjLe_some (jjLe_some (jjLe_some (jjLe_none (jjLe_none jjLe_nil)))))
          · exact absurd (jb_ge rfl) h45
        · refine jj_iload (pc := 41) dX6_targetBits_41 rfl ?_
          refine jj_iload (pc := 43) dX6_targetBits_43 rfl ?_
          refine jj_icmp_ge (pc := 45) 66 dX6_targetBits_45 (by decide) (fun h45 => ?_) (fun h45 => ?_)
          · exact absurd h45 (jb_lt rfl hk)
          · refine jj_iload_n (pc := 48) 2 dX6_targetBits_48 rfl rfl ?_
            refine jj_iconst (pc := 49) (v := 1) dX6_targetBits_49 rfl ?_
            refine jj_aload_n (pc := 50) 0 dX6_targetBits_50 rfl rfl ?_
            refine jj_iload_n (pc := 51) 3 dX6_targetBits_51 rfl rfl ?_
            refine jj_iload (pc := 52) dX6_targetBits_52 rfl ?_
            refine jj_callVr (pc := 54) _ (c_X6_target l D cA ob ro ar _ _ _) dX6_targetBits_54 gX6_targetBits_X6_target jm_X6_target rfl (by decide) 1 jq_1 rfl rfl rfl (Nat.le_of_ble_eq_true rfl) jz ?_
            refine jj_ishl (pc := 57) dX6_targetBits_57 ?_
            refine jj_ior (pc := 58) dX6_targetBits_58 ?_
            refine jj_istore_n_2 (pc := 59) dX6_targetBits_59 rfl rfl (by decide) ?_
            refine jj_iinc_5 (pc := 60) (z := 1) dX6_targetBits_60 rfl rfl (by decide) ?_
            refine jj_goto (pc := 63) 41 dX6_targetBits_63 (by decide) ?_
            rw [nI_succ, mTgB1] at ih2
            exact ih2
      refine jj_iload_n (pc := 4) 3 dX6_targetBits_4 rfl rfl ?_
      refine jj_aload_n (pc := 5) 0 dX6_targetBits_5 rfl rfl ?_
      refine jj_g_1_9 (pc := 6) dX6_targetBits_6 fd_X6_targetBits_45 ?_
      refine jj_icmp_ge (pc := 9) 72 dX6_targetBits_9 (by decide) (fun h9 => ?_) (fun h9 => ?_)
      · exact absurd h9 (jb_lt rfl hi)
      · refine jj_aload_n (pc := 12) 0 dX6_targetBits_12 rfl rfl ?_
        refine jj_g_1_2 (pc := 13) dX6_targetBits_13 fd_X6_targetBits_24 ?_
        refine jj_iload_n (pc := 16) 3 dX6_targetBits_16 rfl rfl ?_
        refine jj_rget (pc := 17) (r := 2) (by decide) dX6_targetBits_17 gX6_targetBits_X4_get (by decide) (Nat.le_of_ble_eq_true rfl) jz ?_
        refine jj_iload_n (pc := 20) 1 dX6_targetBits_20 rfl rfl ?_
        refine jj_icmp_ne (pc := 21) 35 dX6_targetBits_21 (by decide) (fun h21 => ?_) (fun h21 => ?_)
        · refine jj_iconst (pc := 35) (v := 0) dX6_targetBits_35 rfl ?_
          refine jj_istore_4 (pc := 36) dX6_targetBits_36 rfl (by decide) ?_
          refine jj_iconst (pc := 38) (v := 0) dX6_targetBits_38 rfl ?_
          refine jj_istore_5 (pc := 39) dX6_targetBits_39 rfl (by decide) ?_
          have h2 := K2 0 (Nat.zero_le _)
          rw [mRefsOf, if_neg h21] at h2
          exact h2
        · refine jj_aload_n (pc := 24) 0 dX6_targetBits_24 rfl rfl ?_
          refine jj_g_1_6 (pc := 25) dX6_targetBits_25 fd_X6_targetBits_36 ?_
          refine jj_iload_n (pc := 28) 3 dX6_targetBits_28 rfl rfl ?_
          refine jj_rget (pc := 29) (r := 6) (by decide) dX6_targetBits_29 gX6_targetBits_X4_get (by decide) (Nat.le_of_ble_eq_true rfl) jz ?_
          refine jj_goto (pc := 32) 36 dX6_targetBits_32 (by decide) ?_
          refine jj_istore_4 (pc := 36) dX6_targetBits_36 rfl (by decide) ?_
          refine jj_iconst (pc := 38) (v := 0) dX6_targetBits_38 rfl ?_
          refine jj_istore_5 (pc := 39) dX6_targetBits_39 rfl (by decide) ?_
          have h2 := K2 0 (Nat.zero_le _)
          rw [mRefsOf, if_pos h21] at h2
          exact h2
  refine jj_iconst (pc := 0) (v := 0) dX6_targetBits_0 rfl ?_
  refine jj_istore_n_2 (pc := 1) dX6_targetBits_1 rfl rfl (by decide) ?_
  refine jj_iconst (pc := 2) (v := 0) dX6_targetBits_2 rfl ?_
  refine jj_istore_n_3 (pc := 3) dX6_targetBits_3 rfl rfl (by decide) ?_
  exact K 0 (Nat.zero_le _)
