/-! The law's own methods that only ask. -/
def blw (v n : Int32) : Int32 := (v &&& 2147483647) - (v &&& 2147483647) / n * n
theorem jm_L_below : jjM yL_below wsL_below cL_below 2 (some .int) 2 := ⟨⟨_, rfl⟩, by decide +kernel⟩
theorem jm_L_cell : jjM yL_cell wsL_cell cL_cell 2 (some .int) 2 := ⟨⟨_, rfl⟩, by decide +kernel⟩
theorem jm_L_done : jjM yL_done wsL_done cL_done 3 (some .int) 1 := ⟨⟨_, rfl⟩, by decide +kernel⟩
theorem jm_L_areSymbolsRight : jjM yL_areSymbolsRight wsL_areSymbolsRight cL_areSymbolsRight 6 (some .boolean) 1 := ⟨⟨_, rfl⟩, by decide +kernel⟩
theorem jm_L_arePatchesRight : jjM yL_arePatchesRight wsL_arePatchesRight cL_arePatchesRight 8 (some .boolean) 1 := ⟨⟨_, rfl⟩, by decide +kernel⟩
theorem jm_L_areNumbersRight : jjM yL_areNumbersRight wsL_areNumbersRight cL_areNumbersRight 5 (some .boolean) 2 := ⟨⟨_, rfl⟩, by decide +kernel⟩
theorem c_L_below (l : Launch) (D : va_G) (cA : ClassId) (w : va_W) (v n : Int32) (hn : ¬ n = 0) : jjFn l yL_below wsL_below 0 D cA [.int v, .int n] w (some (.int (blw v n))) w := by
  refine jjCon_of (own := RL) (cc := cL_below) (nL := 2) (rt := (some .int)) (I := jI0) [some (.int v), some (.int n)] jm_L_below (by decide +kernel) rfl (fun _ _ _ _ _ => trivial) (Nat.le_of_ble_eq_true rfl) rfl ?_
  refine jj_iload_n (pc := 0) 0 dL_below_0 rfl rfl ?_
  refine jj_ldc (pc := 1) (v := 2147483647) dL_below_1 (by decide +kernel) ?_
  refine jj_iand (pc := 3) dL_below_3 ?_
  refine jj_iload_n (pc := 4) 1 dL_below_4 rfl rfl ?_
  refine jj_irem (pc := 5) dL_below_5 hn ?_
  refine jj_iret (pc := 6) dL_below_6 ?_
  exact ⟨rfl, rfl⟩
def cellv (L : Nat) (xs : Nat → Int32) (k : Int32) : Int32 := if k < Int32.ofNat L then xs k.toNatClampNeg else 790386105 * (k + 3)
theorem c_L_cell (l : Launch) (D : va_G) (cA : ClassId) (w : va_W) {b L : Nat} {xs : Nat → Int32} (hL : L < 2 ^ 31) (k : Int32) (hk : ¬ k < 0) : jjConS l b L xs yL_cell wsL_cell 0 D cA [.ref b, .int k] w 0 0 (fun r0 w0 => r0 = some (.int (cellv L xs k)) ∧ w0 = w) := by
  refine jjConS_of (own := RL) (cc := cL_cell) (nL := 2) (rt := (some .int)) [some (.ref b), some (.int k)] jm_L_cell (by decide +kernel) rfl (Nat.le_of_ble_eq_true rfl) rfl ?_
  refine jj_iload_n (pc := 0) 1 dL_cell_0 rfl rfl ?_
  refine jj_aload_n (pc := 1) 0 dL_cell_1 rfl rfl ?_
  refine jj_xlen (pc := 2) (fun _ _ _ _ h => h) dL_cell_2 ?_
  refine jj_icmp_ge (pc := 3) 12 dL_cell_3 (by decide) (fun h3 => ?_) (fun h3 => ?_)
  · refine jj_ldc (pc := 12) (v := 790386105) dL_cell_12 (by decide +kernel) ?_
    refine jj_iload_n (pc := 14) 1 dL_cell_14 rfl rfl ?_
    refine jj_iconst (pc := 15) (v := 3) dL_cell_15 rfl ?_
    refine jj_iadd (pc := 16) dL_cell_16 ?_
    refine jj_imul (pc := 17) dL_cell_17 ?_
    refine jj_iret (pc := 18) dL_cell_18 ?_
    exact ⟨by rw [cellv, if_neg (by rw [Int32.not_lt]; exact h3)], rfl⟩
  · refine jj_aload_n (pc := 6) 0 dL_cell_6 rfl rfl ?_
    refine jj_iload_n (pc := 7) 1 dL_cell_7 rfl rfl ?_
    refine jj_xld (pc := 8) (fun _ _ _ _ h => h) (vp_in_ge hL hk h3) dL_cell_8 ?_
    refine jj_goto (pc := 9) 18 dL_cell_9 (by decide) ?_
    refine jj_iret (pc := 18) dL_cell_18 ?_
    exact ⟨by rw [cellv, if_pos (by rw [Int32.not_le] at h3; exact h3)], rfl⟩
theorem g_many {S : jS} {w : Int32} (hw : mWithin w 10 = true) : gMany S w = none := if_pos hw
theorem g_ofPatch {S : jS} {k w : Int32} (h : mWithin k (S.1 18) = true) (hw : mWithin w 4 = true) : gOfPatch S k w = none := by rw [gOfPatch, if_pos h, if_pos hw]
theorem g_ofPiece {S : jS} {k w : Int32} (h : mWithin k (S.1 2) = true) (hw : mWithin w 7 = true) : gOfPiece S k w = none := by rw [gOfPiece, if_pos h, if_pos hw]
theorem g_ofSymbol {S : jS} {k w : Int32} (h : mSym k = true) (hw : mWithin w 4 = true) : gOfSymbol S k w = none := by rw [gOfSymbol, if_pos h, if_pos hw]
theorem g_map {S : jS} {k w : Int32} (h : mWithin k 200 = true) (hw : mWithin w 2 = true) : gMap S k w = none := by rw [gMap, if_pos h, if_pos hw]
theorem mw_i {x : Int32} {N i : Nat} (hx : x.toNatClampNeg = N) (h : i < N) : mWithin (nI i) x = true := by
  have h1 := jb_31 x
  exact decide_eq_true ⟨nI_pos' (by omega), by have := jb_lt hx h; rw [Int32.not_le] at this; exact this⟩
theorem ms_i {i : Nat} (h : i < 16) : mSym (nI i) = true := decide_eq_true ⟨nI_pos' (by omega), nI_lt (a := i) (b := 16) h (by decide)⟩
def mDoneN (S : jS) : Nat → Int32
  | 0 => 0
  | i + 1 => if tPatch S (nI i) 3 ≤ 0 then mDoneN S i + 0 else mDoneN S i + 1
def mDone (S : jS) : Int32 := mDoneN S (S.1 18).toNatClampNeg
set_option maxHeartbeats 4000000 in
theorem c_L_done (l : Launch) (hl0 : l.stackTraces = false) (D : va_G) (cA : ClassId) (ob ro ar : Nat → Nat) (S : jS) (hN : (S.1 18).toNatClampNeg ≤ 8) : jjConL l yL_done wsL_done 7 D cA [.ref (ob 0)] (jW cA ob ro ar S) 17 102 (fun r0 w0 => r0 = some (.int (mDone S)) ∧ w0 = jW cA ob ro ar S) := by
  refine jjConL_of (own := RL) (cc := cL_done) (nL := 3) (rt := (some .int)) [some (.ref (ob 0)), none, none] jm_L_done (by decide +kernel) rfl (Nat.le_of_ble_eq_true rfl) rfl ?_
  have hN : (S.1 18).toNatClampNeg ≤ 8 := hN
  have K : ∀ i, i ≤ (S.1 18).toNatClampNeg → jjV l RL cL_done 3 (some .int) jIf wsL_done (jjRm 7 17 102) D cA (jjEnd D (fun r0 w0 => r0 = some (.int (mDone S)) ∧ w0 = jW cA ob ro ar S) 17 102) (2 * i) (12 * i) (jW cA ob ro ar S) 4 [some (.ref (ob 0)), some (.int (mDoneN S i)), some (.int (nI i))] [] := by
    refine jdown ((S.1 18).toNatClampNeg) ?_ (fun i hi ih => ?_)
    · refine jj_iload_n (pc := 4) 2 dL_done_4 rfl rfl ?_
      refine jj_aload_n (pc := 5) 0 dL_done_5 rfl rfl ?_
      refine jj_bipush (pc := 6) (v := 7) dL_done_6 rfl ?_
      refine jj_callXr (pc := 8) _ (c_X7_many l hl0 D cA ob ro ar _ _) (g_many (by decide)) (fun _ _ _ _ h => h) dL_done_8 gL_done_X7_many jm_X7_many rfl (by decide) 0 jq_0 rfl rfl rfl (Nat.le_of_ble_eq_true rfl) ⟨by show _ ≤ 17; omega, by show _ ≤ 102; omega⟩ ?_
      refine jj_icmp_ge (pc := 11) 37 dL_done_11 (by decide) (fun h11 => ?_) (fun h11 => ?_)
      · refine jj_iload_n (pc := 37) 1 dL_done_37 rfl rfl ?_
        refine jj_widen (k' := 17) (n' := 102) (by omega) (by omega) ?_
        refine jj_iret (pc := 38) dL_done_38 ?_
        exact ⟨rfl, rfl⟩
      · exact absurd (jb_ge rfl) h11
    · refine jj_iload_n (pc := 4) 2 dL_done_4 rfl rfl ?_
      refine jj_aload_n (pc := 5) 0 dL_done_5 rfl rfl ?_
      refine jj_bipush (pc := 6) (v := 7) dL_done_6 rfl ?_
      refine jj_callXr (pc := 8) _ (c_X7_many l hl0 D cA ob ro ar _ _) (g_many (by decide)) (fun _ _ _ _ h => h) dL_done_8 gL_done_X7_many jm_X7_many rfl (by decide) 0 jq_0 rfl rfl rfl (Nat.le_of_ble_eq_true rfl) ⟨by show _ ≤ 17; omega, by show _ ≤ 102; omega⟩ ?_
      refine jj_icmp_ge (pc := 11) 37 dL_done_11 (by decide) (fun h11 => ?_) (fun h11 => ?_)
      · exact absurd h11 (jb_lt rfl hi)
      · refine jj_iload_n (pc := 14) 1 dL_done_14 rfl rfl ?_
        refine jj_aload_n (pc := 15) 0 dL_done_15 rfl rfl ?_
        refine jj_iload_n (pc := 16) 2 dL_done_16 rfl rfl ?_
        refine jj_iconst (pc := 17) (v := 3) dL_done_17 rfl ?_
        refine jj_callXr (pc := 18) _ (c_X7_ofPatch l hl0 D cA ob ro ar _ _ _) (g_ofPatch (mw_i rfl hi) (by decide)) (fun _ _ _ _ h => h) dL_done_18 gL_done_X7_ofPatch jm_X7_ofPatch rfl (by decide) 0 jq_0 rfl rfl rfl (Nat.le_of_ble_eq_true rfl) ⟨by show _ ≤ 17; omega, by show _ ≤ 102; omega⟩ ?_
        refine jj_if_le (pc := 21) 28 dL_done_21 (by decide) (fun h21 => ?_) (fun h21 => ?_)
        · refine jj_iconst (pc := 28) (v := 0) dL_done_28 rfl ?_
          refine jj_iadd (pc := 29) dL_done_29 ?_
          refine jj_istore_n_1 (pc := 30) dL_done_30 rfl rfl (by decide) ?_
          refine jj_iinc_2 (pc := 31) (z := 1) dL_done_31 rfl rfl (by decide) ?_
          refine jj_goto (pc := 34) 4 dL_done_34 (by decide) ?_
          refine jj_widen (k' := 2 * (i + 1)) (n' := 12 * (i + 1)) (by omega) (by omega) ?_
          rw [mDoneN, if_pos h21, nI_succ] at ih
          exact ih
        · refine jj_iconst (pc := 24) (v := 1) dL_done_24 rfl ?_
          refine jj_goto (pc := 25) 29 dL_done_25 (by decide) ?_
          refine jj_iadd (pc := 29) dL_done_29 ?_
          refine jj_istore_n_1 (pc := 30) dL_done_30 rfl rfl (by decide) ?_
          refine jj_iinc_2 (pc := 31) (z := 1) dL_done_31 rfl rfl (by decide) ?_
          refine jj_goto (pc := 34) 4 dL_done_34 (by decide) ?_
          refine jj_widen (k' := 2 * (i + 1)) (n' := 12 * (i + 1)) (by omega) (by omega) ?_
          rw [mDoneN, if_neg h21, nI_succ] at ih
          exact ih
  refine jj_iconst (pc := 0) (v := 0) dL_done_0 rfl ?_
  refine jj_istore_n_1 (pc := 1) dL_done_1 rfl rfl (by decide) ?_
  refine jj_iconst (pc := 2) (v := 0) dL_done_2 rfl ?_
  refine jj_istore_n_2 (pc := 3) dL_done_3 rfl rfl (by decide) ?_
  exact K 0 (Nat.zero_le _)
def mUsed (S : jS) : Nat → Int32
  | 0 => 0
  | i + 1 => if tPiece S (nI i) 5 < 0 then mUsed S i + 0 else mUsed S i + tPiece S (nI i) 2
def SymC (S : jS) (y : Int32) : Prop :=
  (mWithin (tSymbol S y 0) (S.1 2) = true) ∧
  (tPiece S (tSymbol S y 0) 1 = y) ∧
  (tPiece S (tSymbol S y 0) 5 = tSymbol S y 1) ∧
  (¬ tSymbol S y 1 < 0) ∧
  (mWithin (tSymbol S y 1) 200 = true) ∧
  (tWord S (tSymbol S y 1) 0 = 1) ∧
  (tWord S (tSymbol S y 1) 1 = tSymbol S y 0) ∧
  (mWithin (tSymbol S y 1 + tPiece S (tSymbol S y 0) 2 - 1) 200 = true) ∧
  (tWord S (tSymbol S y 1 + tPiece S (tSymbol S y 0) 2 - 1) 1 = tSymbol S y 0)
theorem SymC.p {S : jS} {y : Int32} (h : SymC S y) : mWithin (tSymbol S y 0) (S.1 2) = true := h.1
theorem SymC.c1 {S : jS} {y : Int32} (h : SymC S y) : tPiece S (tSymbol S y 0) 1 = y := h.2.1
theorem SymC.c2 {S : jS} {y : Int32} (h : SymC S y) : tPiece S (tSymbol S y 0) 5 = tSymbol S y 1 := h.2.2.1
theorem SymC.c3 {S : jS} {y : Int32} (h : SymC S y) : ¬ tSymbol S y 1 < 0 := h.2.2.2.1
theorem SymC.c4 {S : jS} {y : Int32} (h : SymC S y) : mWithin (tSymbol S y 1) 200 = true := h.2.2.2.2.1
theorem SymC.c5 {S : jS} {y : Int32} (h : SymC S y) : tWord S (tSymbol S y 1) 0 = 1 := h.2.2.2.2.2.1
theorem SymC.c6 {S : jS} {y : Int32} (h : SymC S y) : tWord S (tSymbol S y 1) 1 = tSymbol S y 0 := h.2.2.2.2.2.2.1
theorem SymC.c7 {S : jS} {y : Int32} (h : SymC S y) : mWithin (tSymbol S y 1 + tPiece S (tSymbol S y 0) 2 - 1) 200 = true := h.2.2.2.2.2.2.2.1
theorem SymC.c8 {S : jS} {y : Int32} (h : SymC S y) : tWord S (tSymbol S y 1 + tPiece S (tSymbol S y 0) 2 - 1) 1 = tSymbol S y 0 := h.2.2.2.2.2.2.2.2
/-- what areSymbolsRight asks for -/
def SymR (S : jS) : Prop :=
  ((S.1 2).toNatClampNeg ≤ 40) ∧
  (∀ i, i < (S.1 2).toNatClampNeg → tPiece S (nI i) 6 ≤ 0 ∨ 0 ≤ tPiece S (nI i) 5) ∧
  (∀ y, y < 16 → ¬ 0 ≤ tSymbol S (nI y) 0 → tSymbol S (nI y) 1 = -1 ∧ tSymbol S (nI y) 2 = -1 ∧ tSymbol S (nI y) 3 = 0) ∧
  (∀ y, y < 16 → ¬ tSymbol S (nI y) 0 < 0 → SymC S (nI y)) ∧
  (∀ y, y < 16 → ¬ tSymbol S (nI y) 2 < 0 → mWithin (tSymbol S (nI y) 2) 200 = true ∧ tWord S (tSymbol S (nI y) 2) 0 = 3 ∧ tWord S (tSymbol S (nI y) 2) 1 = nI y) ∧
  (tMany S 3 = mUsed S (S.1 2).toNatClampNeg + tMany S 4 + tMany S 5)
theorem SymR.np {S : jS} (h : SymR S) : (S.1 2).toNatClampNeg ≤ 40 := h.1
theorem SymR.a {S : jS} (h : SymR S) : ∀ i, i < (S.1 2).toNatClampNeg → tPiece S (nI i) 6 ≤ 0 ∨ 0 ≤ tPiece S (nI i) 5 := h.2.1
theorem SymR.b {S : jS} (h : SymR S) : ∀ y, y < 16 → ¬ 0 ≤ tSymbol S (nI y) 0 → tSymbol S (nI y) 1 = -1 ∧ tSymbol S (nI y) 2 = -1 ∧ tSymbol S (nI y) 3 = 0 := h.2.2.1
theorem SymR.c {S : jS} (h : SymR S) : ∀ y, y < 16 → ¬ tSymbol S (nI y) 0 < 0 → SymC S (nI y) := h.2.2.2.1
theorem SymR.d {S : jS} (h : SymR S) : ∀ y, y < 16 → ¬ tSymbol S (nI y) 2 < 0 → mWithin (tSymbol S (nI y) 2) 200 = true ∧ tWord S (tSymbol S (nI y) 2) 0 = 3 ∧ tWord S (tSymbol S (nI y) 2) 1 = nI y := h.2.2.2.2.1
theorem SymR.e {S : jS} (h : SymR S) : tMany S 3 = mUsed S (S.1 2).toNatClampNeg + tMany S 4 + tMany S 5 := h.2.2.2.2.2
set_option maxHeartbeats 4000000 in
theorem c_L_areSymbolsRight (l : Launch) (hl0 : l.stackTraces = false) (D : va_G) (cA : ClassId) (ob ro ar : Nat → Nat) (S : jS) (H : SymR S) : jjConL l yL_areSymbolsRight wsL_areSymbolsRight 7 D cA [.ref (ob 0)] (jW cA ob ro ar S) 420 2520 (fun r0 w0 => r0 = some (.int 1) ∧ w0 = jW cA ob ro ar S) := by
  refine jjConL_of (own := RL) (cc := cL_areSymbolsRight) (nL := 6) (rt := (some .boolean)) [some (.ref (ob 0)), none, none, none, none, none] jm_L_areSymbolsRight (by decide +kernel) rfl (Nat.le_of_ble_eq_true rfl) rfl ?_
  have hN := H.np
  have K2 : ∀ i, i ≤ 16 → jjV l RL cL_areSymbolsRight 6 (some .boolean) jIf wsL_areSymbolsRight (jjRm 7 420 2520) D cA (jjEnd D (fun r0 w0 => r0 = some (.int 1) ∧ w0 = jW cA ob ro ar S) 420 2520) (205 + 12 * i) (1230 + 72 * i) (jW cA ob ro ar S) 64 [some (.ref (ob 0)), some (.int (mUsed S (S.1 2).toNatClampNeg)), some (.int (nI i)), none, none, none] [] := by
    refine jdown (16) ?_ (fun i hi ih => ?_)
    · refine jj_iload_n (pc := 64) 2 dL_areSymbolsRight_64 rfl rfl ?_
      refine jj_bipush (pc := 65) (v := 16) dL_areSymbolsRight_65 rfl ?_
      refine jj_icmp_ge (pc := 67) 229 dL_areSymbolsRight_67 (by decide) (fun h67 => ?_) (fun h67 => ?_)
      · refine jj_aload_n (pc := 229) 0 dL_areSymbolsRight_229 rfl rfl ?_
        refine jj_iconst (pc := 230) (v := 3) dL_areSymbolsRight_230 rfl ?_
        refine jj_callXr (pc := 231) _ (c_X7_many l hl0 D cA ob ro ar _ _) (g_many (by decide)) (fun _ _ _ _ h => h) dL_areSymbolsRight_231 gL_areSymbolsRight_X7_many jm_X7_many rfl (by decide) 0 jq_0 rfl rfl rfl (Nat.le_of_ble_eq_true rfl) ⟨by show _ ≤ 420; omega, by show _ ≤ 2520; omega⟩ ?_
        refine jj_iload_n (pc := 234) 1 dL_areSymbolsRight_234 rfl rfl ?_
        refine jj_aload_n (pc := 235) 0 dL_areSymbolsRight_235 rfl rfl ?_
        refine jj_iconst (pc := 236) (v := 4) dL_areSymbolsRight_236 rfl ?_
        refine jj_callXr (pc := 237) _ (c_X7_many l hl0 D cA ob ro ar _ _) (g_many (by decide)) (fun _ _ _ _ h => h) dL_areSymbolsRight_237 gL_areSymbolsRight_X7_many jm_X7_many rfl (by decide) 0 jq_0 rfl rfl rfl (Nat.le_of_ble_eq_true rfl) ⟨by show _ ≤ 420; omega, by show _ ≤ 2520; omega⟩ ?_
        refine jj_iadd (pc := 240) dL_areSymbolsRight_240 ?_
        refine jj_aload_n (pc := 241) 0 dL_areSymbolsRight_241 rfl rfl ?_
        refine jj_iconst (pc := 242) (v := 5) dL_areSymbolsRight_242 rfl ?_
        refine jj_callXr (pc := 243) _ (c_X7_many l hl0 D cA ob ro ar _ _) (g_many (by decide)) (fun _ _ _ _ h => h) dL_areSymbolsRight_243 gL_areSymbolsRight_X7_many jm_X7_many rfl (by decide) 0 jq_0 rfl rfl rfl (Nat.le_of_ble_eq_true rfl) ⟨by show _ ≤ 420; omega, by show _ ≤ 2520; omega⟩ ?_
        refine jj_iadd (pc := 246) dL_areSymbolsRight_246 ?_
        refine jj_icmp_ne (pc := 247) 254 dL_areSymbolsRight_247 (by decide) (fun h247 => ?_) (fun h247 => ?_)
        · exact absurd H.e h247
        · refine jj_iconst (pc := 250) (v := 1) dL_areSymbolsRight_250 rfl ?_
          refine jj_goto (pc := 251) 255 dL_areSymbolsRight_251 (by decide) ?_
          refine jj_widen (k' := 420) (n' := 2520) (by omega) (by omega) ?_
          refine jj_zret (pc := 255) rfl dL_areSymbolsRight_255 ?_
          exact ⟨rfl, rfl⟩
      · exact absurd (by decide) h67
    · refine jj_iload_n (pc := 64) 2 dL_areSymbolsRight_64 rfl rfl ?_
      refine jj_bipush (pc := 65) (v := 16) dL_areSymbolsRight_65 rfl ?_
      refine jj_icmp_ge (pc := 67) 229 dL_areSymbolsRight_67 (by decide) (fun h67 => ?_) (fun h67 => ?_)
      · exact absurd h67 (nI_ge hi (by decide))
      · refine jj_aload_n (pc := 70) 0 dL_areSymbolsRight_70 rfl rfl ?_
        refine jj_iload_n (pc := 71) 2 dL_areSymbolsRight_71 rfl rfl ?_
        refine jj_iconst (pc := 72) (v := 0) dL_areSymbolsRight_72 rfl ?_
        refine jj_callXr (pc := 73) _ (c_X7_ofSymbol l hl0 D cA ob ro ar _ _ _) (g_ofSymbol (ms_i hi) (by decide)) (fun _ _ _ _ h => h) dL_areSymbolsRight_73 gL_areSymbolsRight_X7_ofSymbol jm_X7_ofSymbol rfl (by decide) 0 jq_0 rfl rfl rfl (Nat.le_of_ble_eq_true rfl) ⟨by show _ ≤ 420; omega, by show _ ≤ 2520; omega⟩ ?_
        refine jj_istore_n_3 (pc := 76) dL_areSymbolsRight_76 rfl rfl (by decide) ?_
        refine jj_aload_n (pc := 77) 0 dL_areSymbolsRight_77 rfl rfl ?_
        refine jj_iload_n (pc := 78) 2 dL_areSymbolsRight_78 rfl rfl ?_
        refine jj_iconst (pc := 79) (v := 1) dL_areSymbolsRight_79 rfl ?_
        refine jj_callXr (pc := 80) _ (c_X7_ofSymbol l hl0 D cA ob ro ar _ _ _) (g_ofSymbol (ms_i hi) (by decide)) (fun _ _ _ _ h => h) dL_areSymbolsRight_80 gL_areSymbolsRight_X7_ofSymbol jm_X7_ofSymbol rfl (by decide) 0 jq_0 rfl rfl rfl (Nat.le_of_ble_eq_true rfl) ⟨by show _ ≤ 420; omega, by show _ ≤ 2520; omega⟩ ?_
        refine jj_istore_4 (pc := 83) dL_areSymbolsRight_83 rfl (by decide) ?_
        refine jj_aload_n (pc := 85) 0 dL_areSymbolsRight_85 rfl rfl ?_
        refine jj_iload_n (pc := 86) 2 dL_areSymbolsRight_86 rfl rfl ?_
        refine jj_iconst (pc := 87) (v := 2) dL_areSymbolsRight_87 rfl ?_
        refine jj_callXr (pc := 88) _ (c_X7_ofSymbol l hl0 D cA ob ro ar _ _ _) (g_ofSymbol (ms_i hi) (by decide)) (fun _ _ _ _ h => h) dL_areSymbolsRight_88 gL_areSymbolsRight_X7_ofSymbol jm_X7_ofSymbol rfl (by decide) 0 jq_0 rfl rfl rfl (Nat.le_of_ble_eq_true rfl) ⟨by show _ ≤ 420; omega, by show _ ≤ 2520; omega⟩ ?_
        refine jj_istore_5 (pc := 91) dL_areSymbolsRight_91 rfl (by decide) ?_
        refine jj_iload_n (pc := 93) 3 dL_areSymbolsRight_93 rfl rfl ?_
        refine jj_if_ge (pc := 94) 120 dL_areSymbolsRight_94 (by decide) (fun h94 => ?_) (fun h94 => ?_)
        · refine jj_iload_n (pc := 120) 3 dL_areSymbolsRight_120 rfl rfl ?_
          refine jj_if_lt (pc := 121) 194 dL_areSymbolsRight_121 (by decide) (fun h121 => ?_) (fun h121 => ?_)
          · exact absurd h94 (by rw [Int32.not_le]; exact h121)
          · refine jj_aload_n (pc := 124) 0 dL_areSymbolsRight_124 rfl rfl ?_
            refine jj_iload_n (pc := 125) 3 dL_areSymbolsRight_125 rfl rfl ?_
            refine jj_iconst (pc := 126) (v := 1) dL_areSymbolsRight_126 rfl ?_
            refine jj_callXr (pc := 127) _ (c_X7_ofPiece l hl0 D cA ob ro ar _ _ _) (g_ofPiece (H.c i hi h121).p (by decide)) (fun _ _ _ _ h => h) dL_areSymbolsRight_127 gL_areSymbolsRight_X7_ofPiece jm_X7_ofPiece rfl (by decide) 0 jq_0 rfl rfl rfl (Nat.le_of_ble_eq_true rfl) ⟨by show _ ≤ 420; omega, by show _ ≤ 2520; omega⟩ ?_
            refine jj_iload_n (pc := 130) 2 dL_areSymbolsRight_130 rfl rfl ?_
            refine jj_icmp_ne (pc := 131) 192 dL_areSymbolsRight_131 (by decide) (fun h131 => ?_) (fun h131 => ?_)
            · exact absurd (H.c i hi h121).c1 h131
            · refine jj_aload_n (pc := 134) 0 dL_areSymbolsRight_134 rfl rfl ?_
              refine jj_iload_n (pc := 135) 3 dL_areSymbolsRight_135 rfl rfl ?_
              refine jj_iconst (pc := 136) (v := 5) dL_areSymbolsRight_136 rfl ?_
              refine jj_callXr (pc := 137) _ (c_X7_ofPiece l hl0 D cA ob ro ar _ _ _) (g_ofPiece (H.c i hi h121).p (by decide)) (fun _ _ _ _ h => h) dL_areSymbolsRight_137 gL_areSymbolsRight_X7_ofPiece jm_X7_ofPiece rfl (by decide) 0 jq_0 rfl rfl rfl (Nat.le_of_ble_eq_true rfl) ⟨by show _ ≤ 420; omega, by show _ ≤ 2520; omega⟩ ?_
              refine jj_iload (pc := 140) dL_areSymbolsRight_140 rfl ?_
              refine jj_icmp_ne (pc := 142) 192 dL_areSymbolsRight_142 (by decide) (fun h142 => ?_) (fun h142 => ?_)
              · exact absurd (H.c i hi h121).c2 h142
              · refine jj_iload (pc := 145) dL_areSymbolsRight_145 rfl ?_
                refine jj_if_lt (pc := 147) 192 dL_areSymbolsRight_147 (by decide) (fun h147 => ?_) (fun h147 => ?_)
                · exact absurd h147 (H.c i hi h121).c3
                · refine jj_aload_n (pc := 150) 0 dL_areSymbolsRight_150 rfl rfl ?_
                  refine jj_iload (pc := 151) dL_areSymbolsRight_151 rfl ?_
                  refine jj_iconst (pc := 153) (v := 0) dL_areSymbolsRight_153 rfl ?_
                  refine jj_callXr (pc := 154) _ (c_X7_map l hl0 D cA ob ro ar _ _ _) (g_map (H.c i hi h121).c4 (by decide)) (fun _ _ _ _ h => h) dL_areSymbolsRight_154 gL_areSymbolsRight_X7_map jm_X7_map rfl (by decide) 0 jq_0 rfl rfl rfl (Nat.le_of_ble_eq_true rfl) ⟨by show _ ≤ 420; omega, by show _ ≤ 2520; omega⟩ ?_
                  refine jj_iconst (pc := 157) (v := 1) dL_areSymbolsRight_157 rfl ?_
                  refine jj_icmp_ne (pc := 158) 192 dL_areSymbolsRight_158 (by decide) (fun h158 => ?_) (fun h158 => ?_)
                  · exact absurd (H.c i hi h121).c5 h158
                  · refine jj_aload_n (pc := 161) 0 dL_areSymbolsRight_161 rfl rfl ?_
                    refine jj_iload (pc := 162) dL_areSymbolsRight_162 rfl ?_
                    refine jj_iconst (pc := 164) (v := 1) dL_areSymbolsRight_164 rfl ?_
                    refine jj_callXr (pc := 165) _ (c_X7_map l hl0 D cA ob ro ar _ _ _) (g_map (H.c i hi h121).c4 (by decide)) (fun _ _ _ _ h => h) dL_areSymbolsRight_165 gL_areSymbolsRight_X7_map jm_X7_map rfl (by decide) 0 jq_0 rfl rfl rfl (Nat.le_of_ble_eq_true rfl) ⟨by show _ ≤ 420; omega, by show _ ≤ 2520; omega⟩ ?_
                    refine jj_iload_n (pc := 168) 3 dL_areSymbolsRight_168 rfl rfl ?_
                    refine jj_icmp_ne (pc := 169) 192 dL_areSymbolsRight_169 (by decide) (fun h169 => ?_) (fun h169 => ?_)
                    · exact absurd (H.c i hi h121).c6 h169
                    · refine jj_aload_n (pc := 172) 0 dL_areSymbolsRight_172 rfl rfl ?_
                      refine jj_iload (pc := 173) dL_areSymbolsRight_173 rfl ?_
                      refine jj_aload_n (pc := 175) 0 dL_areSymbolsRight_175 rfl rfl ?_
                      refine jj_iload_n (pc := 176) 3 dL_areSymbolsRight_176 rfl rfl ?_
                      refine jj_iconst (pc := 177) (v := 2) dL_areSymbolsRight_177 rfl ?_
                      refine jj_callXr (pc := 178) _ (c_X7_ofPiece l hl0 D cA ob ro ar _ _ _) (g_ofPiece (H.c i hi h121).p (by decide)) (fun _ _ _ _ h => h) dL_areSymbolsRight_178 gL_areSymbolsRight_X7_ofPiece jm_X7_ofPiece rfl (by decide) 0 jq_0 rfl rfl rfl (Nat.le_of_ble_eq_true rfl) ⟨by show _ ≤ 420; omega, by show _ ≤ 2520; omega⟩ ?_
                      refine jj_iadd (pc := 181) dL_areSymbolsRight_181 ?_
                      refine jj_iconst (pc := 182) (v := 1) dL_areSymbolsRight_182 rfl ?_
                      refine jj_isub (pc := 183) dL_areSymbolsRight_183 ?_
                      refine jj_iconst (pc := 184) (v := 1) dL_areSymbolsRight_184 rfl ?_
                      refine jj_callXr (pc := 185) _ (c_X7_map l hl0 D cA ob ro ar _ _ _) (g_map (H.c i hi h121).c7 (by decide)) (fun _ _ _ _ h => h) dL_areSymbolsRight_185 gL_areSymbolsRight_X7_map jm_X7_map rfl (by decide) 0 jq_0 rfl rfl rfl (Nat.le_of_ble_eq_true rfl) ⟨by show _ ≤ 420; omega, by show _ ≤ 2520; omega⟩ ?_
                      refine jj_iload_n (pc := 188) 3 dL_areSymbolsRight_188 rfl rfl ?_
                      refine jj_icmp_eq (pc := 189) 194 dL_areSymbolsRight_189 (by decide) (fun h189 => ?_) (fun h189 => ?_)
                      · refine jj_iload (pc := 194) dL_areSymbolsRight_194 rfl ?_
                        refine jj_if_lt (pc := 196) 223 dL_areSymbolsRight_196 (by decide) (fun h196 => ?_) (fun h196 => ?_)
                        · refine jj_iinc_2 (pc := 223) (z := 1) dL_areSymbolsRight_223 rfl rfl (by decide) ?_
                          refine jj_goto (pc := 226) 64 dL_areSymbolsRight_226 (by decide) ?_
                          refine jj_widen (k' := 205 + 12 * (i + 1)) (n' := 1230 + 72 * (i + 1)) (by omega) (by omega) ?_
                          refine jj_sub (lv' := [some (.ref (ob 0)), some (.int (mUsed S (S.1 2).toNatClampNeg)), some (.int (nI i + 1)), none, none, none]) (jjLe_some (jjLe_some (jjLe_some (jjLe_none (jjLe_none (jjLe_none jjLe_nil)))))) ?_
                          rw [nI_succ] at ih
                          exact ih
                        · refine jj_aload_n (pc := 199) 0 dL_areSymbolsRight_199 rfl rfl ?_
                          refine jj_iload (pc := 200) dL_areSymbolsRight_200 rfl ?_
                          refine jj_iconst (pc := 202) (v := 0) dL_areSymbolsRight_202 rfl ?_
                          refine jj_callXr (pc := 203) _ (c_X7_map l hl0 D cA ob ro ar _ _ _) (g_map (H.d i hi h196).1 (by decide)) (fun _ _ _ _ h => h) dL_areSymbolsRight_203 gL_areSymbolsRight_X7_map jm_X7_map rfl (by decide) 0 jq_0 rfl rfl rfl (Nat.le_of_ble_eq_true rfl) ⟨by show _ ≤ 420; omega, by show _ ≤ 2520; omega⟩ ?_
                          refine jj_iconst (pc := 206) (v := 3) dL_areSymbolsRight_206 rfl ?_
                          refine jj_icmp_ne (pc := 207) 221 dL_areSymbolsRight_207 (by decide) (fun h207 => ?_) (fun h207 => ?_)
                          · exact absurd (H.d i hi h196).2.1 h207
                          · refine jj_aload_n (pc := 210) 0 dL_areSymbolsRight_210 rfl rfl ?_
                            refine jj_iload (pc := 211) dL_areSymbolsRight_211 rfl ?_
                            refine jj_iconst (pc := 213) (v := 1) dL_areSymbolsRight_213 rfl ?_
                            refine jj_callXr (pc := 214) _ (c_X7_map l hl0 D cA ob ro ar _ _ _) (g_map (H.d i hi h196).1 (by decide)) (fun _ _ _ _ h => h) dL_areSymbolsRight_214 gL_areSymbolsRight_X7_map jm_X7_map rfl (by decide) 0 jq_0 rfl rfl rfl (Nat.le_of_ble_eq_true rfl) ⟨by show _ ≤ 420; omega, by show _ ≤ 2520; omega⟩ ?_
                            refine jj_iload_n (pc := 217) 2 dL_areSymbolsRight_217 rfl rfl ?_
                            refine jj_icmp_eq (pc := 218) 223 dL_areSymbolsRight_218 (by decide) (fun h218 => ?_) (fun h218 => ?_)
                            · refine jj_iinc_2 (pc := 223) (z := 1) dL_areSymbolsRight_223 rfl rfl (by decide) ?_
                              refine jj_goto (pc := 226) 64 dL_areSymbolsRight_226 (by decide) ?_
                              refine jj_widen (k' := 205 + 12 * (i + 1)) (n' := 1230 + 72 * (i + 1)) (by omega) (by omega) ?_
                              refine jj_sub (lv' := [some (.ref (ob 0)), some (.int (mUsed S (S.1 2).toNatClampNeg)), some (.int (nI i + 1)), none, none, none]) (jjLe_some (jjLe_some (jjLe_some (jjLe_none (jjLe_none (jjLe_none jjLe_nil)))))) ?_
                              rw [nI_succ] at ih
                              exact ih
                            · exact absurd (H.d i hi h196).2.2 h218
                      · exact absurd (H.c i hi h121).c8 h189
        · refine jj_iload (pc := 97) dL_areSymbolsRight_97 rfl ?_
          refine jj_iconst (pc := 99) (v := (-1)) dL_areSymbolsRight_99 rfl ?_
          refine jj_icmp_ne (pc := 100) 118 dL_areSymbolsRight_100 (by decide) (fun h100 => ?_) (fun h100 => ?_)
          · exact absurd (H.b i hi h94).1 h100
          · refine jj_iload (pc := 103) dL_areSymbolsRight_103 rfl ?_
            refine jj_iconst (pc := 105) (v := (-1)) dL_areSymbolsRight_105 rfl ?_
            refine jj_icmp_ne (pc := 106) 118 dL_areSymbolsRight_106 (by decide) (fun h106 => ?_) (fun h106 => ?_)
            · exact absurd (H.b i hi h94).2.1 h106
            · refine jj_aload_n (pc := 109) 0 dL_areSymbolsRight_109 rfl rfl ?_
              refine jj_iload_n (pc := 110) 2 dL_areSymbolsRight_110 rfl rfl ?_
              refine jj_iconst (pc := 111) (v := 3) dL_areSymbolsRight_111 rfl ?_
              refine jj_callXr (pc := 112) _ (c_X7_ofSymbol l hl0 D cA ob ro ar _ _ _) (g_ofSymbol (ms_i hi) (by decide)) (fun _ _ _ _ h => h) dL_areSymbolsRight_112 gL_areSymbolsRight_X7_ofSymbol jm_X7_ofSymbol rfl (by decide) 0 jq_0 rfl rfl rfl (Nat.le_of_ble_eq_true rfl) ⟨by show _ ≤ 420; omega, by show _ ≤ 2520; omega⟩ ?_
              refine jj_if_eq (pc := 115) 120 dL_areSymbolsRight_115 (by decide) (fun h115 => ?_) (fun h115 => ?_)
              · refine jj_iload_n (pc := 120) 3 dL_areSymbolsRight_120 rfl rfl ?_
                refine jj_if_lt (pc := 121) 194 dL_areSymbolsRight_121 (by decide) (fun h121 => ?_) (fun h121 => ?_)
                · refine jj_iload (pc := 194) dL_areSymbolsRight_194 rfl ?_
                  refine jj_if_lt (pc := 196) 223 dL_areSymbolsRight_196 (by decide) (fun h196 => ?_) (fun h196 => ?_)
                  · refine jj_iinc_2 (pc := 223) (z := 1) dL_areSymbolsRight_223 rfl rfl (by decide) ?_
                    refine jj_goto (pc := 226) 64 dL_areSymbolsRight_226 (by decide) ?_
                    refine jj_widen (k' := 205 + 12 * (i + 1)) (n' := 1230 + 72 * (i + 1)) (by omega) (by omega) ?_
                    refine jj_sub (lv' := [some (.ref (ob 0)), some (.int (mUsed S (S.1 2).toNatClampNeg)), some (.int (nI i + 1)), none, none, none]) (jjLe_some (jjLe_some (jjLe_some (jjLe_none (jjLe_none (jjLe_none jjLe_nil)))))) ?_
                    rw [nI_succ] at ih
                    exact ih
                  · refine jj_aload_n (pc := 199) 0 dL_areSymbolsRight_199 rfl rfl ?_
                    refine jj_iload (pc := 200) dL_areSymbolsRight_200 rfl ?_
                    refine jj_iconst (pc := 202) (v := 0) dL_areSymbolsRight_202 rfl ?_
                    refine jj_callXr (pc := 203) _ (c_X7_map l hl0 D cA ob ro ar _ _ _) (g_map (H.d i hi h196).1 (by decide)) (fun _ _ _ _ h => h) dL_areSymbolsRight_203 gL_areSymbolsRight_X7_map jm_X7_map rfl (by decide) 0 jq_0 rfl rfl rfl (Nat.le_of_ble_eq_true rfl) ⟨by show _ ≤ 420; omega, by show _ ≤ 2520; omega⟩ ?_
                    refine jj_iconst (pc := 206) (v := 3) dL_areSymbolsRight_206 rfl ?_
                    refine jj_icmp_ne (pc := 207) 221 dL_areSymbolsRight_207 (by decide) (fun h207 => ?_) (fun h207 => ?_)
                    · exact absurd (H.d i hi h196).2.1 h207
                    · refine jj_aload_n (pc := 210) 0 dL_areSymbolsRight_210 rfl rfl ?_
                      refine jj_iload (pc := 211) dL_areSymbolsRight_211 rfl ?_
                      refine jj_iconst (pc := 213) (v := 1) dL_areSymbolsRight_213 rfl ?_
                      refine jj_callXr (pc := 214) _ (c_X7_map l hl0 D cA ob ro ar _ _ _) (g_map (H.d i hi h196).1 (by decide)) (fun _ _ _ _ h => h) dL_areSymbolsRight_214 gL_areSymbolsRight_X7_map jm_X7_map rfl (by decide) 0 jq_0 rfl rfl rfl (Nat.le_of_ble_eq_true rfl) ⟨by show _ ≤ 420; omega, by show _ ≤ 2520; omega⟩ ?_
                      refine jj_iload_n (pc := 217) 2 dL_areSymbolsRight_217 rfl rfl ?_
                      refine jj_icmp_eq (pc := 218) 223 dL_areSymbolsRight_218 (by decide) (fun h218 => ?_) (fun h218 => ?_)
                      · refine jj_iinc_2 (pc := 223) (z := 1) dL_areSymbolsRight_223 rfl rfl (by decide) ?_
                        refine jj_goto (pc := 226) 64 dL_areSymbolsRight_226 (by decide) ?_
                        refine jj_widen (k' := 205 + 12 * (i + 1)) (n' := 1230 + 72 * (i + 1)) (by omega) (by omega) ?_
                        refine jj_sub (lv' := [some (.ref (ob 0)), some (.int (mUsed S (S.1 2).toNatClampNeg)), some (.int (nI i + 1)), none, none, none]) (jjLe_some (jjLe_some (jjLe_some (jjLe_none (jjLe_none (jjLe_none jjLe_nil)))))) ?_
                        rw [nI_succ] at ih
                        exact ih
                      · exact absurd (H.d i hi h196).2.2 h218
                · exact absurd (by rw [Int32.not_lt] at h121; exact h121) h94
              · exact absurd (H.b i hi h94).2.2 h115
  have K1 : ∀ i, i ≤ (S.1 2).toNatClampNeg → jjV l RL cL_areSymbolsRight 6 (some .boolean) jIf wsL_areSymbolsRight (jjRm 7 420 2520) D cA (jjEnd D (fun r0 w0 => r0 = some (.int 1) ∧ w0 = jW cA ob ro ar S) 420 2520) (5 * i) (30 * i) (jW cA ob ro ar S) 4 [some (.ref (ob 0)), some (.int (mUsed S i)), some (.int (nI i)), none, none, none] [] := by
    refine jdown ((S.1 2).toNatClampNeg) ?_ (fun i hi ih => ?_)
    · refine jj_iload_n (pc := 4) 2 dL_areSymbolsRight_4 rfl rfl ?_
      refine jj_aload_n (pc := 5) 0 dL_areSymbolsRight_5 rfl rfl ?_
      refine jj_iconst (pc := 6) (v := 1) dL_areSymbolsRight_6 rfl ?_
      refine jj_callXr (pc := 7) _ (c_X7_many l hl0 D cA ob ro ar _ _) (g_many (by decide)) (fun _ _ _ _ h => h) dL_areSymbolsRight_7 gL_areSymbolsRight_X7_many jm_X7_many rfl (by decide) 0 jq_0 rfl rfl rfl (Nat.le_of_ble_eq_true rfl) ⟨by show _ ≤ 420; omega, by show _ ≤ 2520; omega⟩ ?_
      refine jj_icmp_ge (pc := 10) 62 dL_areSymbolsRight_10 (by decide) (fun h10 => ?_) (fun h10 => ?_)
      · refine jj_iconst (pc := 62) (v := 0) dL_areSymbolsRight_62 rfl ?_
        refine jj_istore_n_2 (pc := 63) dL_areSymbolsRight_63 rfl rfl (by decide) ?_
        refine jj_widen (k' := 205 + 12 * 0) (n' := 1230 + 72 * 0) (by omega) (by omega) ?_
        exact K2 0 (Nat.zero_le _)
      · exact absurd (jb_ge rfl) h10
    · refine jj_iload_n (pc := 4) 2 dL_areSymbolsRight_4 rfl rfl ?_
      refine jj_aload_n (pc := 5) 0 dL_areSymbolsRight_5 rfl rfl ?_
      refine jj_iconst (pc := 6) (v := 1) dL_areSymbolsRight_6 rfl ?_
      refine jj_callXr (pc := 7) _ (c_X7_many l hl0 D cA ob ro ar _ _) (g_many (by decide)) (fun _ _ _ _ h => h) dL_areSymbolsRight_7 gL_areSymbolsRight_X7_many jm_X7_many rfl (by decide) 0 jq_0 rfl rfl rfl (Nat.le_of_ble_eq_true rfl) ⟨by show _ ≤ 420; omega, by show _ ≤ 2520; omega⟩ ?_
      refine jj_icmp_ge (pc := 10) 62 dL_areSymbolsRight_10 (by decide) (fun h10 => ?_) (fun h10 => ?_)
      · exact absurd h10 (jb_lt rfl hi)
      · refine jj_iload_n (pc := 13) 1 dL_areSymbolsRight_13 rfl rfl ?_
        refine jj_aload_n (pc := 14) 0 dL_areSymbolsRight_14 rfl rfl ?_
        refine jj_iload_n (pc := 15) 2 dL_areSymbolsRight_15 rfl rfl ?_
        refine jj_iconst (pc := 16) (v := 5) dL_areSymbolsRight_16 rfl ?_
        refine jj_callXr (pc := 17) _ (c_X7_ofPiece l hl0 D cA ob ro ar _ _ _) (g_ofPiece (mw_i rfl hi) (by decide)) (fun _ _ _ _ h => h) dL_areSymbolsRight_17 gL_areSymbolsRight_X7_ofPiece jm_X7_ofPiece rfl (by decide) 0 jq_0 rfl rfl rfl (Nat.le_of_ble_eq_true rfl) ⟨by show _ ≤ 420; omega, by show _ ≤ 2520; omega⟩ ?_
        refine jj_if_lt (pc := 20) 32 dL_areSymbolsRight_20 (by decide) (fun h20 => ?_) (fun h20 => ?_)
        · refine jj_iconst (pc := 32) (v := 0) dL_areSymbolsRight_32 rfl ?_
          refine jj_iadd (pc := 33) dL_areSymbolsRight_33 ?_
          refine jj_istore_n_1 (pc := 34) dL_areSymbolsRight_34 rfl rfl (by decide) ?_
          refine jj_aload_n (pc := 35) 0 dL_areSymbolsRight_35 rfl rfl ?_
          refine jj_iload_n (pc := 36) 2 dL_areSymbolsRight_36 rfl rfl ?_
          refine jj_bipush (pc := 37) (v := 6) dL_areSymbolsRight_37 rfl ?_
          refine jj_callXr (pc := 39) _ (c_X7_ofPiece l hl0 D cA ob ro ar _ _ _) (g_ofPiece (mw_i rfl hi) (by decide)) (fun _ _ _ _ h => h) dL_areSymbolsRight_39 gL_areSymbolsRight_X7_ofPiece jm_X7_ofPiece rfl (by decide) 0 jq_0 rfl rfl rfl (Nat.le_of_ble_eq_true rfl) ⟨by show _ ≤ 420; omega, by show _ ≤ 2520; omega⟩ ?_
          refine jj_if_le (pc := 42) 56 dL_areSymbolsRight_42 (by decide) (fun h42 => ?_) (fun h42 => ?_)
          · refine jj_iinc_2 (pc := 56) (z := 1) dL_areSymbolsRight_56 rfl rfl (by decide) ?_
            refine jj_goto (pc := 59) 4 dL_areSymbolsRight_59 (by decide) ?_
            refine jj_widen (k' := 5 * (i + 1)) (n' := 30 * (i + 1)) (by omega) (by omega) ?_
            rw [mUsed, if_pos h20, nI_succ] at ih
            exact ih
          · refine jj_aload_n (pc := 45) 0 dL_areSymbolsRight_45 rfl rfl ?_
            refine jj_iload_n (pc := 46) 2 dL_areSymbolsRight_46 rfl rfl ?_
            refine jj_iconst (pc := 47) (v := 5) dL_areSymbolsRight_47 rfl ?_
            refine jj_callXr (pc := 48) _ (c_X7_ofPiece l hl0 D cA ob ro ar _ _ _) (g_ofPiece (mw_i rfl hi) (by decide)) (fun _ _ _ _ h => h) dL_areSymbolsRight_48 gL_areSymbolsRight_X7_ofPiece jm_X7_ofPiece rfl (by decide) 0 jq_0 rfl rfl rfl (Nat.le_of_ble_eq_true rfl) ⟨by show _ ≤ 420; omega, by show _ ≤ 2520; omega⟩ ?_
            refine jj_if_ge (pc := 51) 56 dL_areSymbolsRight_51 (by decide) (fun h51 => ?_) (fun h51 => ?_)
            · refine jj_iinc_2 (pc := 56) (z := 1) dL_areSymbolsRight_56 rfl rfl (by decide) ?_
              refine jj_goto (pc := 59) 4 dL_areSymbolsRight_59 (by decide) ?_
              refine jj_widen (k' := 5 * (i + 1)) (n' := 30 * (i + 1)) (by omega) (by omega) ?_
              rw [mUsed, if_pos h20, nI_succ] at ih
              exact ih
            · exact (H.a i hi).elim (fun h => absurd h h42) (fun h => absurd h h51)
        · refine jj_aload_n (pc := 23) 0 dL_areSymbolsRight_23 rfl rfl ?_
          refine jj_iload_n (pc := 24) 2 dL_areSymbolsRight_24 rfl rfl ?_
          refine jj_iconst (pc := 25) (v := 2) dL_areSymbolsRight_25 rfl ?_
          refine jj_callXr (pc := 26) _ (c_X7_ofPiece l hl0 D cA ob ro ar _ _ _) (g_ofPiece (mw_i rfl hi) (by decide)) (fun _ _ _ _ h => h) dL_areSymbolsRight_26 gL_areSymbolsRight_X7_ofPiece jm_X7_ofPiece rfl (by decide) 0 jq_0 rfl rfl rfl (Nat.le_of_ble_eq_true rfl) ⟨by show _ ≤ 420; omega, by show _ ≤ 2520; omega⟩ ?_
          refine jj_goto (pc := 29) 33 dL_areSymbolsRight_29 (by decide) ?_
          refine jj_iadd (pc := 33) dL_areSymbolsRight_33 ?_
          refine jj_istore_n_1 (pc := 34) dL_areSymbolsRight_34 rfl rfl (by decide) ?_
          refine jj_aload_n (pc := 35) 0 dL_areSymbolsRight_35 rfl rfl ?_
          refine jj_iload_n (pc := 36) 2 dL_areSymbolsRight_36 rfl rfl ?_
          refine jj_bipush (pc := 37) (v := 6) dL_areSymbolsRight_37 rfl ?_
          refine jj_callXr (pc := 39) _ (c_X7_ofPiece l hl0 D cA ob ro ar _ _ _) (g_ofPiece (mw_i rfl hi) (by decide)) (fun _ _ _ _ h => h) dL_areSymbolsRight_39 gL_areSymbolsRight_X7_ofPiece jm_X7_ofPiece rfl (by decide) 0 jq_0 rfl rfl rfl (Nat.le_of_ble_eq_true rfl) ⟨by show _ ≤ 420; omega, by show _ ≤ 2520; omega⟩ ?_
          refine jj_if_le (pc := 42) 56 dL_areSymbolsRight_42 (by decide) (fun h42 => ?_) (fun h42 => ?_)
          · refine jj_iinc_2 (pc := 56) (z := 1) dL_areSymbolsRight_56 rfl rfl (by decide) ?_
            refine jj_goto (pc := 59) 4 dL_areSymbolsRight_59 (by decide) ?_
            refine jj_widen (k' := 5 * (i + 1)) (n' := 30 * (i + 1)) (by omega) (by omega) ?_
            rw [mUsed, if_neg h20, nI_succ] at ih
            exact ih
          · refine jj_aload_n (pc := 45) 0 dL_areSymbolsRight_45 rfl rfl ?_
            refine jj_iload_n (pc := 46) 2 dL_areSymbolsRight_46 rfl rfl ?_
            refine jj_iconst (pc := 47) (v := 5) dL_areSymbolsRight_47 rfl ?_
            refine jj_callXr (pc := 48) _ (c_X7_ofPiece l hl0 D cA ob ro ar _ _ _) (g_ofPiece (mw_i rfl hi) (by decide)) (fun _ _ _ _ h => h) dL_areSymbolsRight_48 gL_areSymbolsRight_X7_ofPiece jm_X7_ofPiece rfl (by decide) 0 jq_0 rfl rfl rfl (Nat.le_of_ble_eq_true rfl) ⟨by show _ ≤ 420; omega, by show _ ≤ 2520; omega⟩ ?_
            refine jj_if_ge (pc := 51) 56 dL_areSymbolsRight_51 (by decide) (fun h51 => ?_) (fun h51 => ?_)
            · refine jj_iinc_2 (pc := 56) (z := 1) dL_areSymbolsRight_56 rfl rfl (by decide) ?_
              refine jj_goto (pc := 59) 4 dL_areSymbolsRight_59 (by decide) ?_
              refine jj_widen (k' := 5 * (i + 1)) (n' := 30 * (i + 1)) (by omega) (by omega) ?_
              rw [mUsed, if_neg h20, nI_succ] at ih
              exact ih
            · exact (H.a i hi).elim (fun h => absurd h h42) (fun h => absurd h h51)
  refine jj_iconst (pc := 0) (v := 0) dL_areSymbolsRight_0 rfl ?_
  refine jj_istore_n_1 (pc := 1) dL_areSymbolsRight_1 rfl rfl (by decide) ?_
  refine jj_iconst (pc := 2) (v := 0) dL_areSymbolsRight_2 rfl ?_
  refine jj_istore_n_2 (pc := 3) dL_areSymbolsRight_3 rfl rfl (by decide) ?_
  exact K1 0 (Nat.zero_le _)
def mWaitN (S : jS) : Nat → Int32
  | 0 => 0
  | i + 1 => if tPatch S (nI i) 3 ≤ 0 then mWaitN S i + 1 else mWaitN S i
def mFirst (S : jS) (y : Int32) : Nat → Int32
  | 0 => 1
  | j + 1 => if tPatch S (nI j) 3 = 0 then (if tPatch S (nI j) 0 = y then mFirst S y j &&& 0 else mFirst S y j &&& 1) else mFirst S y j &&& 1
abbrev bkF (S : jS) (k : Int32) : Int32 := mBackT S (mStand S 1 (mPSym S k)) 4
/-- what arePatchesRight asks for -/
def PatR (S : jS) : Prop :=
  ((S.1 18).toNatClampNeg ≤ 8) ∧
  (∀ i, i < (S.1 18).toNatClampNeg → ¬ tPatch S (nI i) 3 < 0) ∧
  (∀ i, i < (S.1 18).toNatClampNeg → ¬ 2 < tPatch S (nI i) 3) ∧
  (∀ i, i < (S.1 18).toNatClampNeg → mWithin (tPatch S (nI i) 1) (S.1 2) = true) ∧
  (∀ i, i < (S.1 18).toNatClampNeg → mSym (tPatch S (nI i) 0) = true) ∧
  (∀ i, i < (S.1 18).toNatClampNeg → ¬ tPatch S (nI i) 3 = 1 → tPiece S (tPatch S (nI i) 1) 5 = -1) ∧
  (∀ i, i < (S.1 18).toNatClampNeg → tPatch S (nI i) 3 = 1 → tPatch S (nI i) 1 ≤ tSymbol S (tPatch S (nI i) 0) 0) ∧
  (∀ i, i < (S.1 18).toNatClampNeg → tPatch S (nI i) 3 ≤ 0 → ¬ tSymbol S (tPatch S (nI i) 0) 3 < 1 ∧ gBacksFor S (nI i) = none ∧ ¬ bkF S (nI i) < 0 ∧ bkF S (nI i) ≤ 32) ∧
  (∀ i, i < (S.1 18).toNatClampNeg → tPatch S (nI i) 3 ≤ 0 → tPatch S (nI i) 2 = 0 → ¬ mFirst S (tPatch S (nI i) 0) i = 0 → bkF S (nI i) = 0 → gPlace S (tPiece S (tPatch S (nI i) 1) 2) = none ∧ mRoom S 23 (tPiece S (tPatch S (nI i) 1) 2) < 0) ∧
  (tMany S 8 = mWaitN S (S.1 18).toNatClampNeg)
theorem PatR.n {S : jS} (h : PatR S) : (S.1 18).toNatClampNeg ≤ 8 := h.1
theorem PatR.s0 {S : jS} (h : PatR S) : ∀ i, i < (S.1 18).toNatClampNeg → ¬ tPatch S (nI i) 3 < 0 := h.2.1
theorem PatR.s2 {S : jS} (h : PatR S) : ∀ i, i < (S.1 18).toNatClampNeg → ¬ 2 < tPatch S (nI i) 3 := h.2.2.1
theorem PatR.p {S : jS} (h : PatR S) : ∀ i, i < (S.1 18).toNatClampNeg → mWithin (tPatch S (nI i) 1) (S.1 2) = true := h.2.2.2.1
theorem PatR.y {S : jS} (h : PatR S) : ∀ i, i < (S.1 18).toNatClampNeg → mSym (tPatch S (nI i) 0) = true := h.2.2.2.2.1
theorem PatR.l {S : jS} (h : PatR S) : ∀ i, i < (S.1 18).toNatClampNeg → ¬ tPatch S (nI i) 3 = 1 → tPiece S (tPatch S (nI i) 1) 5 = -1 := h.2.2.2.2.2.1
theorem PatR.t {S : jS} (h : PatR S) : ∀ i, i < (S.1 18).toNatClampNeg → tPatch S (nI i) 3 = 1 → tPatch S (nI i) 1 ≤ tSymbol S (tPatch S (nI i) 0) 0 := h.2.2.2.2.2.2.1
theorem PatR.w {S : jS} (h : PatR S) : ∀ i, i < (S.1 18).toNatClampNeg → tPatch S (nI i) 3 ≤ 0 → ¬ tSymbol S (tPatch S (nI i) 0) 3 < 1 ∧ gBacksFor S (nI i) = none ∧ ¬ bkF S (nI i) < 0 ∧ bkF S (nI i) ≤ 32 := h.2.2.2.2.2.2.2.1
theorem PatR.q {S : jS} (h : PatR S) : ∀ i, i < (S.1 18).toNatClampNeg → tPatch S (nI i) 3 ≤ 0 → tPatch S (nI i) 2 = 0 → ¬ mFirst S (tPatch S (nI i) 0) i = 0 → bkF S (nI i) = 0 → gPlace S (tPiece S (tPatch S (nI i) 1) 2) = none ∧ mRoom S 23 (tPiece S (tPatch S (nI i) 1) 2) < 0 := h.2.2.2.2.2.2.2.2.1
theorem PatR.e {S : jS} (h : PatR S) : tMany S 8 = mWaitN S (S.1 18).toNatClampNeg := h.2.2.2.2.2.2.2.2.2
set_option maxHeartbeats 4000000 in
theorem c_L_arePatchesRight (l : Launch) (hl0 : l.stackTraces = false) (D : va_G) (cA : ClassId) (ob ro ar : Nat → Nat) (S : jS) (H : PatR S) : jjConL l yL_arePatchesRight wsL_arePatchesRight 7 D cA [.ref (ob 0)] (jW cA ob ro ar S) 260 1560 (fun r0 w0 => r0 = some (.int 1) ∧ w0 = jW cA ob ro ar S) := by
  refine jjConL_of (own := RL) (cc := cL_arePatchesRight) (nL := 8) (rt := (some .boolean)) [some (.ref (ob 0)), none, none, none, none, none, none, none] jm_L_arePatchesRight (by decide +kernel) rfl (Nat.le_of_ble_eq_true rfl) rfl ?_
  have hN := H.n
  have K1 : ∀ i, i ≤ (S.1 18).toNatClampNeg → jjV l RL cL_arePatchesRight 8 (some .boolean) jIf wsL_arePatchesRight (jjRm 7 260 1560) D cA (jjEnd D (fun r0 w0 => r0 = some (.int 1) ∧ w0 = jW cA ob ro ar S) 260 1560) (30 * i) (180 * i) (jW cA ob ro ar S) 4 [some (.ref (ob 0)), some (.int (mWaitN S i)), some (.int (nI i)), none, none, none, none, none] [] := by
    refine jdown ((S.1 18).toNatClampNeg) ?_ (fun i hi ih => ?_)
    · refine jj_iload_n (pc := 4) 2 dL_arePatchesRight_4 rfl rfl ?_
      refine jj_aload_n (pc := 5) 0 dL_arePatchesRight_5 rfl rfl ?_
      refine jj_bipush (pc := 6) (v := 7) dL_arePatchesRight_6 rfl ?_
      refine jj_callXr (pc := 8) _ (c_X7_many l hl0 D cA ob ro ar _ _) (g_many (by decide)) (fun _ _ _ _ h => h) dL_arePatchesRight_8 gL_arePatchesRight_X7_many jm_X7_many rfl (by decide) 0 jq_0 rfl rfl rfl (Nat.le_of_ble_eq_true rfl) ⟨by show _ ≤ 260; omega, by show _ ≤ 1560; omega⟩ ?_
      refine jj_icmp_ge (pc := 11) 218 dL_arePatchesRight_11 (by decide) (fun h11 => ?_) (fun h11 => ?_)
      · refine jj_aload_n (pc := 218) 0 dL_arePatchesRight_218 rfl rfl ?_
        refine jj_bipush (pc := 219) (v := 8) dL_arePatchesRight_219 rfl ?_
        refine jj_callXr (pc := 221) _ (c_X7_many l hl0 D cA ob ro ar _ _) (g_many (by decide)) (fun _ _ _ _ h => h) dL_arePatchesRight_221 gL_arePatchesRight_X7_many jm_X7_many rfl (by decide) 0 jq_0 rfl rfl rfl (Nat.le_of_ble_eq_true rfl) ⟨by show _ ≤ 260; omega, by show _ ≤ 1560; omega⟩ ?_
        refine jj_iload_n (pc := 224) 1 dL_arePatchesRight_224 rfl rfl ?_
        refine jj_icmp_ne (pc := 225) 232 dL_arePatchesRight_225 (by decide) (fun h225 => ?_) (fun h225 => ?_)
        · exact absurd H.e h225
        · refine jj_iconst (pc := 228) (v := 1) dL_arePatchesRight_228 rfl ?_
          refine jj_goto (pc := 229) 233 dL_arePatchesRight_229 (by decide) ?_
          refine jj_widen (k' := 260) (n' := 1560) (by omega) (by omega) ?_
          refine jj_zret (pc := 233) rfl dL_arePatchesRight_233 ?_
          exact ⟨rfl, rfl⟩
      · exact absurd (jb_ge rfl) h11
    · refine jj_iload_n (pc := 4) 2 dL_arePatchesRight_4 rfl rfl ?_
      refine jj_aload_n (pc := 5) 0 dL_arePatchesRight_5 rfl rfl ?_
      refine jj_bipush (pc := 6) (v := 7) dL_arePatchesRight_6 rfl ?_
      refine jj_callXr (pc := 8) _ (c_X7_many l hl0 D cA ob ro ar _ _) (g_many (by decide)) (fun _ _ _ _ h => h) dL_arePatchesRight_8 gL_arePatchesRight_X7_many jm_X7_many rfl (by decide) 0 jq_0 rfl rfl rfl (Nat.le_of_ble_eq_true rfl) ⟨by show _ ≤ 260; omega, by show _ ≤ 1560; omega⟩ ?_
      refine jj_icmp_ge (pc := 11) 218 dL_arePatchesRight_11 (by decide) (fun h11 => ?_) (fun h11 => ?_)
      · exact absurd h11 (jb_lt rfl hi)
      · refine jj_aload_n (pc := 14) 0 dL_arePatchesRight_14 rfl rfl ?_
        refine jj_iload_n (pc := 15) 2 dL_arePatchesRight_15 rfl rfl ?_
        refine jj_iconst (pc := 16) (v := 3) dL_arePatchesRight_16 rfl ?_
        refine jj_callXr (pc := 17) _ (c_X7_ofPatch l hl0 D cA ob ro ar _ _ _) (g_ofPatch (mw_i rfl hi) (by decide)) (fun _ _ _ _ h => h) dL_arePatchesRight_17 gL_arePatchesRight_X7_ofPatch jm_X7_ofPatch rfl (by decide) 0 jq_0 rfl rfl rfl (Nat.le_of_ble_eq_true rfl) ⟨by show _ ≤ 260; omega, by show _ ≤ 1560; omega⟩ ?_
        refine jj_istore_n_3 (pc := 20) dL_arePatchesRight_20 rfl rfl (by decide) ?_
        refine jj_aload_n (pc := 21) 0 dL_arePatchesRight_21 rfl rfl ?_
        refine jj_iload_n (pc := 22) 2 dL_arePatchesRight_22 rfl rfl ?_
        refine jj_iconst (pc := 23) (v := 1) dL_arePatchesRight_23 rfl ?_
        refine jj_callXr (pc := 24) _ (c_X7_ofPatch l hl0 D cA ob ro ar _ _ _) (g_ofPatch (mw_i rfl hi) (by decide)) (fun _ _ _ _ h => h) dL_arePatchesRight_24 gL_arePatchesRight_X7_ofPatch jm_X7_ofPatch rfl (by decide) 0 jq_0 rfl rfl rfl (Nat.le_of_ble_eq_true rfl) ⟨by show _ ≤ 260; omega, by show _ ≤ 1560; omega⟩ ?_
        refine jj_istore_4 (pc := 27) dL_arePatchesRight_27 rfl (by decide) ?_
        refine jj_aload_n (pc := 29) 0 dL_arePatchesRight_29 rfl rfl ?_
        refine jj_iload_n (pc := 30) 2 dL_arePatchesRight_30 rfl rfl ?_
        refine jj_iconst (pc := 31) (v := 0) dL_arePatchesRight_31 rfl ?_
        refine jj_callXr (pc := 32) _ (c_X7_ofPatch l hl0 D cA ob ro ar _ _ _) (g_ofPatch (mw_i rfl hi) (by decide)) (fun _ _ _ _ h => h) dL_arePatchesRight_32 gL_arePatchesRight_X7_ofPatch jm_X7_ofPatch rfl (by decide) 0 jq_0 rfl rfl rfl (Nat.le_of_ble_eq_true rfl) ⟨by show _ ≤ 260; omega, by show _ ≤ 1560; omega⟩ ?_
        refine jj_istore_5 (pc := 35) dL_arePatchesRight_35 rfl (by decide) ?_
        refine jj_iload_n (pc := 37) 3 dL_arePatchesRight_37 rfl rfl ?_
        refine jj_if_lt (pc := 38) 62 dL_arePatchesRight_38 (by decide) (fun h38 => ?_) (fun h38 => ?_)
        · exact absurd h38 (H.s0 i hi)
        · refine jj_iload_n (pc := 41) 3 dL_arePatchesRight_41 rfl rfl ?_
          refine jj_iconst (pc := 42) (v := 2) dL_arePatchesRight_42 rfl ?_
          refine jj_icmp_gt (pc := 43) 62 dL_arePatchesRight_43 (by decide) (fun h43 => ?_) (fun h43 => ?_)
          · exact absurd h43 (H.s2 i hi)
          · refine jj_iload_n (pc := 46) 3 dL_arePatchesRight_46 rfl rfl ?_
            refine jj_iconst (pc := 47) (v := 1) dL_arePatchesRight_47 rfl ?_
            refine jj_icmp_eq (pc := 48) 64 dL_arePatchesRight_48 (by decide) (fun h48 => ?_) (fun h48 => ?_)
            · refine jj_iload_n (pc := 64) 3 dL_arePatchesRight_64 rfl rfl ?_
              refine jj_iconst (pc := 65) (v := 1) dL_arePatchesRight_65 rfl ?_
              refine jj_icmp_ne (pc := 66) 83 dL_arePatchesRight_66 (by decide) (fun h66 => ?_) (fun h66 => ?_)
              · exact absurd h48 h66
              · refine jj_aload_n (pc := 69) 0 dL_arePatchesRight_69 rfl rfl ?_
                refine jj_iload (pc := 70) dL_arePatchesRight_70 rfl ?_
                refine jj_iconst (pc := 72) (v := 0) dL_arePatchesRight_72 rfl ?_
                refine jj_callXr (pc := 73) _ (c_X7_ofSymbol l hl0 D cA ob ro ar _ _ _) (g_ofSymbol (H.y i hi) (by decide)) (fun _ _ _ _ h => h) dL_arePatchesRight_73 gL_arePatchesRight_X7_ofSymbol jm_X7_ofSymbol rfl (by decide) 0 jq_0 rfl rfl rfl (Nat.le_of_ble_eq_true rfl) ⟨by show _ ≤ 260; omega, by show _ ≤ 1560; omega⟩ ?_
                refine jj_iload (pc := 76) dL_arePatchesRight_76 rfl ?_
                refine jj_icmp_ge (pc := 78) 83 dL_arePatchesRight_78 (by decide) (fun h78 => ?_) (fun h78 => ?_)
                · refine jj_iload_n (pc := 83) 3 dL_arePatchesRight_83 rfl rfl ?_
                  refine jj_if_le (pc := 84) 90 dL_arePatchesRight_84 (by decide) (fun h84 => ?_) (fun h84 => ?_)
                  · exact absurd h84 (by rw [h48]; decide)
                  · refine jj_goto (pc := 87) 212 dL_arePatchesRight_87 (by decide) ?_
                    refine jj_iinc_2 (pc := 212) (z := 1) dL_arePatchesRight_212 rfl rfl (by decide) ?_
                    refine jj_goto (pc := 215) 4 dL_arePatchesRight_215 (by decide) ?_
                    refine jj_widen (k' := 30 * (i + 1)) (n' := 180 * (i + 1)) (by omega) (by omega) ?_
                    refine jj_sub (lv' := [some (.ref (ob 0)), some (.int (mWaitN S i)), some (.int (nI i + 1)), none, none, none, none, none]) (jjLe_some (jjLe_some (jjLe_some (jjLe_none (jjLe_none (jjLe_none (jjLe_none (jjLe_none jjLe_nil)))))))) ?_
                    rw [mWaitN, if_neg h84, nI_succ] at ih
                    exact ih
                · exact absurd (H.t i hi h66) h78
            · refine jj_aload_n (pc := 51) 0 dL_arePatchesRight_51 rfl rfl ?_
              refine jj_iload (pc := 52) dL_arePatchesRight_52 rfl ?_
              refine jj_iconst (pc := 54) (v := 5) dL_arePatchesRight_54 rfl ?_
              refine jj_callXr (pc := 55) _ (c_X7_ofPiece l hl0 D cA ob ro ar _ _ _) (g_ofPiece (H.p i hi) (by decide)) (fun _ _ _ _ h => h) dL_arePatchesRight_55 gL_arePatchesRight_X7_ofPiece jm_X7_ofPiece rfl (by decide) 0 jq_0 rfl rfl rfl (Nat.le_of_ble_eq_true rfl) ⟨by show _ ≤ 260; omega, by show _ ≤ 1560; omega⟩ ?_
              refine jj_iconst (pc := 58) (v := (-1)) dL_arePatchesRight_58 rfl ?_
              refine jj_icmp_eq (pc := 59) 64 dL_arePatchesRight_59 (by decide) (fun h59 => ?_) (fun h59 => ?_)
              · refine jj_iload_n (pc := 64) 3 dL_arePatchesRight_64 rfl rfl ?_
                refine jj_iconst (pc := 65) (v := 1) dL_arePatchesRight_65 rfl ?_
                refine jj_icmp_ne (pc := 66) 83 dL_arePatchesRight_66 (by decide) (fun h66 => ?_) (fun h66 => ?_)
                · refine jj_iload_n (pc := 83) 3 dL_arePatchesRight_83 rfl rfl ?_
                  refine jj_if_le (pc := 84) 90 dL_arePatchesRight_84 (by decide) (fun h84 => ?_) (fun h84 => ?_)
                  · refine jj_iinc_1 (pc := 90) (z := 1) dL_arePatchesRight_90 rfl rfl (by decide) ?_
                    refine jj_aload_n (pc := 93) 0 dL_arePatchesRight_93 rfl rfl ?_
                    refine jj_iload (pc := 94) dL_arePatchesRight_94 rfl ?_
                    refine jj_iconst (pc := 96) (v := 3) dL_arePatchesRight_96 rfl ?_
                    refine jj_callXr (pc := 97) _ (c_X7_ofSymbol l hl0 D cA ob ro ar _ _ _) (g_ofSymbol (H.y i hi) (by decide)) (fun _ _ _ _ h => h) dL_arePatchesRight_97 gL_arePatchesRight_X7_ofSymbol jm_X7_ofSymbol rfl (by decide) 0 jq_0 rfl rfl rfl (Nat.le_of_ble_eq_true rfl) ⟨by show _ ≤ 260; omega, by show _ ≤ 1560; omega⟩ ?_
                    refine jj_iconst (pc := 100) (v := 1) dL_arePatchesRight_100 rfl ?_
                    refine jj_icmp_lt (pc := 101) 122 dL_arePatchesRight_101 (by decide) (fun h101 => ?_) (fun h101 => ?_)
                    · exact absurd h101 (H.w i hi h84).1
                    · refine jj_aload_n (pc := 104) 0 dL_arePatchesRight_104 rfl rfl ?_
                      refine jj_iload_n (pc := 105) 2 dL_arePatchesRight_105 rfl rfl ?_
                      refine jj_callXr (pc := 106) _ (c_X7_backsFor l hl0 D cA ob ro ar _ _) (H.w i hi h84).2.1 (fun _ _ _ _ h => h) dL_arePatchesRight_106 gL_arePatchesRight_X7_backsFor jm_X7_backsFor rfl (by decide) 0 jq_0 rfl rfl rfl (Nat.le_of_ble_eq_true rfl) ⟨by show _ ≤ 260; omega, by show _ ≤ 1560; omega⟩ ?_
                      refine jj_if_lt (pc := 109) 122 dL_arePatchesRight_109 (by decide) (fun h109 => ?_) (fun h109 => ?_)
                      · exact absurd h109 (H.w i hi h84).2.2.1
                      · refine jj_aload_n (pc := 112) 0 dL_arePatchesRight_112 rfl rfl ?_
                        refine jj_iload_n (pc := 113) 2 dL_arePatchesRight_113 rfl rfl ?_
                        refine jj_callXr (pc := 114) _ (c_X7_backsFor l hl0 D cA ob ro ar _ _) (H.w i hi h84).2.1 (fun _ _ _ _ h => h) dL_arePatchesRight_114 gL_arePatchesRight_X7_backsFor jm_X7_backsFor rfl (by decide) 0 jq_0 rfl rfl rfl (Nat.le_of_ble_eq_true rfl) ⟨by show _ ≤ 260; omega, by show _ ≤ 1560; omega⟩ ?_
                        refine jj_bipush (pc := 117) (v := 32) dL_arePatchesRight_117 rfl ?_
                        refine jj_icmp_le (pc := 119) 124 dL_arePatchesRight_119 (by decide) (fun h119 => ?_) (fun h119 => ?_)
                        · refine jj_iconst (pc := 124) (v := 1) dL_arePatchesRight_124 rfl ?_
                          refine jj_istore_6 (pc := 125) dL_arePatchesRight_125 rfl (by decide) ?_
                          have K3 : ∀ j, j ≤ i → jjV l RL cL_arePatchesRight 8 (some .boolean) jIf wsL_arePatchesRight (jjRm 7 260 1560) D cA (jjEnd D (fun r0 w0 => r0 = some (.int 1) ∧ w0 = jW cA ob ro ar S) 260 1560) (30 * i + 9 + 2 * j) (180 * i + 54 + 12 * j) (jW cA ob ro ar S) 130 [some (.ref (ob 0)), some (.int (mWaitN S i + 1)), some (.int (nI i)), none, some (.int (tPatch S (nI i) 1)), some (.int (tPatch S (nI i) 0)), some (.int (mFirst S (tPatch S (nI i) 0) j)), some (.int (nI j))] [] := by
                            refine jdown i ?_ (fun j hj ih3 => ?_)
                            · refine jj_iload (pc := 130) dL_arePatchesRight_130 rfl ?_
                              refine jj_iload_n (pc := 132) 2 dL_arePatchesRight_132 rfl rfl ?_
                              refine jj_icmp_ge (pc := 133) 174 dL_arePatchesRight_133 (by decide) (fun h133 => ?_) (fun h133 => ?_)
                              · refine jj_aload_n (pc := 174) 0 dL_arePatchesRight_174 rfl rfl ?_
                                refine jj_iload_n (pc := 175) 2 dL_arePatchesRight_175 rfl rfl ?_
                                refine jj_iconst (pc := 176) (v := 2) dL_arePatchesRight_176 rfl ?_
                                refine jj_callXr (pc := 177) _ (c_X7_ofPatch l hl0 D cA ob ro ar _ _ _) (g_ofPatch (mw_i rfl hi) (by decide)) (fun _ _ _ _ h => h) dL_arePatchesRight_177 gL_arePatchesRight_X7_ofPatch jm_X7_ofPatch rfl (by decide) 0 jq_0 rfl rfl rfl (Nat.le_of_ble_eq_true rfl) ⟨by show _ ≤ 260; omega, by show _ ≤ 1560; omega⟩ ?_
                                refine jj_if_ne (pc := 180) 212 dL_arePatchesRight_180 (by decide) (fun h180 => ?_) (fun h180 => ?_)
                                · refine jj_iinc_2 (pc := 212) (z := 1) dL_arePatchesRight_212 rfl rfl (by decide) ?_
                                  refine jj_goto (pc := 215) 4 dL_arePatchesRight_215 (by decide) ?_
                                  refine jj_widen (k' := 30 * (i + 1)) (n' := 180 * (i + 1)) (by omega) (by omega) ?_
                                  refine jj_sub (lv' := [some (.ref (ob 0)), some (.int (mWaitN S i + 1)), some (.int (nI i + 1)), none, none, none, none, none]) (jjLe_some (jjLe_some (jjLe_some (jjLe_none (jjLe_none (jjLe_none (jjLe_none (jjLe_none jjLe_nil)))))))) ?_
                                  rw [mWaitN, if_pos h84, nI_succ] at ih
                                  exact ih
                                · refine jj_iload (pc := 183) dL_arePatchesRight_183 rfl ?_
                                  refine jj_if_eq (pc := 185) 212 dL_arePatchesRight_185 (by decide) (fun h185 => ?_) (fun h185 => ?_)
                                  · refine jj_iinc_2 (pc := 212) (z := 1) dL_arePatchesRight_212 rfl rfl (by decide) ?_
                                    refine jj_goto (pc := 215) 4 dL_arePatchesRight_215 (by decide) ?_
                                    refine jj_widen (k' := 30 * (i + 1)) (n' := 180 * (i + 1)) (by omega) (by omega) ?_
                                    refine jj_sub (lv' := [some (.ref (ob 0)), some (.int (mWaitN S i + 1)), some (.int (nI i + 1)), none, none, none, none, none]) (jjLe_some (jjLe_some (jjLe_some (jjLe_none (jjLe_none (jjLe_none (jjLe_none (jjLe_none jjLe_nil)))))))) ?_
                                    rw [mWaitN, if_pos h84, nI_succ] at ih
                                    exact ih
                                  · refine jj_aload_n (pc := 188) 0 dL_arePatchesRight_188 rfl rfl ?_
                                    refine jj_iload_n (pc := 189) 2 dL_arePatchesRight_189 rfl rfl ?_
                                    refine jj_callXr (pc := 190) _ (c_X7_backsFor l hl0 D cA ob ro ar _ _) (H.w i hi h84).2.1 (fun _ _ _ _ h => h) dL_arePatchesRight_190 gL_arePatchesRight_X7_backsFor jm_X7_backsFor rfl (by decide) 0 jq_0 rfl rfl rfl (Nat.le_of_ble_eq_true rfl) ⟨by show _ ≤ 260; omega, by show _ ≤ 1560; omega⟩ ?_
                                    refine jj_if_ne (pc := 193) 212 dL_arePatchesRight_193 (by decide) (fun h193 => ?_) (fun h193 => ?_)
                                    · refine jj_iinc_2 (pc := 212) (z := 1) dL_arePatchesRight_212 rfl rfl (by decide) ?_
                                      refine jj_goto (pc := 215) 4 dL_arePatchesRight_215 (by decide) ?_
                                      refine jj_widen (k' := 30 * (i + 1)) (n' := 180 * (i + 1)) (by omega) (by omega) ?_
                                      refine jj_sub (lv' := [some (.ref (ob 0)), some (.int (mWaitN S i + 1)), some (.int (nI i + 1)), none, none, none, none, none]) (jjLe_some (jjLe_some (jjLe_some (jjLe_none (jjLe_none (jjLe_none (jjLe_none (jjLe_none jjLe_nil)))))))) ?_
                                      rw [mWaitN, if_pos h84, nI_succ] at ih
                                      exact ih
                                    · refine jj_aload_n (pc := 196) 0 dL_arePatchesRight_196 rfl rfl ?_
                                      refine jj_aload_n (pc := 197) 0 dL_arePatchesRight_197 rfl rfl ?_
                                      refine jj_iload (pc := 198) dL_arePatchesRight_198 rfl ?_
                                      refine jj_iconst (pc := 200) (v := 2) dL_arePatchesRight_200 rfl ?_
                                      refine jj_callXr (pc := 201) _ (c_X7_ofPiece l hl0 D cA ob ro ar _ _ _) (g_ofPiece (H.p i hi) (by decide)) (fun _ _ _ _ h => h) dL_arePatchesRight_201 gL_arePatchesRight_X7_ofPiece jm_X7_ofPiece rfl (by decide) 0 jq_0 rfl rfl rfl (Nat.le_of_ble_eq_true rfl) ⟨by show _ ≤ 260; omega, by show _ ≤ 1560; omega⟩ ?_
                                      refine jj_callXr (pc := 204) _ (c_X7_place l hl0 D cA ob ro ar _ _) (H.q i hi h84 h180 h185 h193).1 (fun _ _ _ _ h => h) dL_arePatchesRight_204 gL_arePatchesRight_X7_place jm_X7_place rfl (by decide) 0 jq_0 rfl rfl rfl (Nat.le_of_ble_eq_true rfl) ⟨by show _ ≤ 260; omega, by show _ ≤ 1560; omega⟩ ?_
                                      refine jj_if_lt (pc := 207) 212 dL_arePatchesRight_207 (by decide) (fun h207 => ?_) (fun h207 => ?_)
                                      · refine jj_iinc_2 (pc := 212) (z := 1) dL_arePatchesRight_212 rfl rfl (by decide) ?_
                                        refine jj_goto (pc := 215) 4 dL_arePatchesRight_215 (by decide) ?_
                                        refine jj_widen (k' := 30 * (i + 1)) (n' := 180 * (i + 1)) (by omega) (by omega) ?_
                                        refine jj_sub (lv' := [some (.ref (ob 0)), some (.int (mWaitN S i + 1)), some (.int (nI i + 1)), none, none, none, none, none]) (jjLe_some (jjLe_some (jjLe_some (jjLe_none (jjLe_none (jjLe_none (jjLe_none (jjLe_none jjLe_nil)))))))) ?_
                                        rw [mWaitN, if_pos h84, nI_succ] at ih
                                        exact ih
                                      · exact absurd (H.q i hi h84 h180 h185 h193).2 h207
                              · exact absurd (nI_le (Nat.le_refl i) (by omega)) h133
                            · refine jj_iload (pc := 130) dL_arePatchesRight_130 rfl ?_
                              refine jj_iload_n (pc := 132) 2 dL_arePatchesRight_132 rfl rfl ?_
                              refine jj_icmp_ge (pc := 133) 174 dL_arePatchesRight_133 (by decide) (fun h133 => ?_) (fun h133 => ?_)
                              · exact absurd h133 (nI_ge hj (by omega))
                              · refine jj_iload (pc := 136) dL_arePatchesRight_136 rfl ?_
                                refine jj_aload_n (pc := 138) 0 dL_arePatchesRight_138 rfl rfl ?_
                                refine jj_iload (pc := 139) dL_arePatchesRight_139 rfl ?_
                                refine jj_iconst (pc := 141) (v := 3) dL_arePatchesRight_141 rfl ?_
                                refine jj_callXr (pc := 142) _ (c_X7_ofPatch l hl0 D cA ob ro ar _ _ _) (g_ofPatch (mw_i rfl (Nat.lt_trans hj hi)) (by decide)) (fun _ _ _ _ h => h) dL_arePatchesRight_142 gL_arePatchesRight_X7_ofPatch jm_X7_ofPatch rfl (by decide) 0 jq_0 rfl rfl rfl (Nat.le_of_ble_eq_true rfl) ⟨by show _ ≤ 260; omega, by show _ ≤ 1560; omega⟩ ?_
                                refine jj_if_ne (pc := 145) 160 dL_arePatchesRight_145 (by decide) (fun h145 => ?_) (fun h145 => ?_)
                                · refine jj_iconst (pc := 160) (v := 1) dL_arePatchesRight_160 rfl ?_
                                  refine jj_goto (pc := 161) 165 dL_arePatchesRight_161 (by decide) ?_
                                  refine jj_iand (pc := 165) dL_arePatchesRight_165 ?_
                                  refine jj_istore_6 (pc := 166) dL_arePatchesRight_166 rfl (by decide) ?_
                                  refine jj_iinc_7 (pc := 168) (z := 1) dL_arePatchesRight_168 rfl rfl (by decide) ?_
                                  refine jj_goto (pc := 171) 130 dL_arePatchesRight_171 (by decide) ?_
                                  refine jj_widen (k' := 30 * i + 9 + 2 * (j + 1)) (n' := 180 * i + 54 + 12 * (j + 1)) (by omega) (by omega) ?_
                                  rw [mFirst, if_neg h145, nI_succ] at ih3
                                  exact ih3
                                · refine jj_aload_n (pc := 148) 0 dL_arePatchesRight_148 rfl rfl ?_
                                  refine jj_iload (pc := 149) dL_arePatchesRight_149 rfl ?_
                                  refine jj_iconst (pc := 151) (v := 0) dL_arePatchesRight_151 rfl ?_
                                  refine jj_callXr (pc := 152) _ (c_X7_ofPatch l hl0 D cA ob ro ar _ _ _) (g_ofPatch (mw_i rfl (Nat.lt_trans hj hi)) (by decide)) (fun _ _ _ _ h => h) dL_arePatchesRight_152 gL_arePatchesRight_X7_ofPatch jm_X7_ofPatch rfl (by decide) 0 jq_0 rfl rfl rfl (Nat.le_of_ble_eq_true rfl) ⟨by show _ ≤ 260; omega, by show _ ≤ 1560; omega⟩ ?_
                                  refine jj_iload (pc := 155) dL_arePatchesRight_155 rfl ?_
                                  refine jj_icmp_eq (pc := 157) 164 dL_arePatchesRight_157 (by decide) (fun h157 => ?_) (fun h157 => ?_)
                                  · refine jj_iconst (pc := 164) (v := 0) dL_arePatchesRight_164 rfl ?_
                                    refine jj_iand (pc := 165) dL_arePatchesRight_165 ?_
                                    refine jj_istore_6 (pc := 166) dL_arePatchesRight_166 rfl (by decide) ?_
                                    refine jj_iinc_7 (pc := 168) (z := 1) dL_arePatchesRight_168 rfl rfl (by decide) ?_
                                    refine jj_goto (pc := 171) 130 dL_arePatchesRight_171 (by decide) ?_
                                    refine jj_widen (k' := 30 * i + 9 + 2 * (j + 1)) (n' := 180 * i + 54 + 12 * (j + 1)) (by omega) (by omega) ?_
                                    rw [mFirst, if_pos h145, if_pos h157, nI_succ] at ih3
                                    exact ih3
                                  · refine jj_iconst (pc := 160) (v := 1) dL_arePatchesRight_160 rfl ?_
                                    refine jj_goto (pc := 161) 165 dL_arePatchesRight_161 (by decide) ?_
                                    refine jj_iand (pc := 165) dL_arePatchesRight_165 ?_
                                    refine jj_istore_6 (pc := 166) dL_arePatchesRight_166 rfl (by decide) ?_
                                    refine jj_iinc_7 (pc := 168) (z := 1) dL_arePatchesRight_168 rfl rfl (by decide) ?_
                                    refine jj_goto (pc := 171) 130 dL_arePatchesRight_171 (by decide) ?_
                                    refine jj_widen (k' := 30 * i + 9 + 2 * (j + 1)) (n' := 180 * i + 54 + 12 * (j + 1)) (by omega) (by omega) ?_
                                    rw [mFirst, if_pos h145, if_neg h157, nI_succ] at ih3
                                    exact ih3
                          refine jj_iconst (pc := 127) (v := 0) dL_arePatchesRight_127 rfl ?_
                          refine jj_istore_7 (pc := 128) dL_arePatchesRight_128 rfl (by decide) ?_
                          refine jj_widen (k' := 30 * i + 9 + 2 * 0) (n' := 180 * i + 54 + 12 * 0) (by omega) (by omega) ?_
                          refine jj_sub ?_ (K3 0 (Nat.zero_le _))
                          exact (jjLe_some (jjLe_some (jjLe_some (jjLe_none (jjLe_some (jjLe_some (jjLe_some (jjLe_some jjLe_nil))))))))
                        · exact absurd (H.w i hi h84).2.2.2 h119
                  · refine jj_goto (pc := 87) 212 dL_arePatchesRight_87 (by decide) ?_
                    refine jj_iinc_2 (pc := 212) (z := 1) dL_arePatchesRight_212 rfl rfl (by decide) ?_
                    refine jj_goto (pc := 215) 4 dL_arePatchesRight_215 (by decide) ?_
                    refine jj_widen (k' := 30 * (i + 1)) (n' := 180 * (i + 1)) (by omega) (by omega) ?_
                    refine jj_sub (lv' := [some (.ref (ob 0)), some (.int (mWaitN S i)), some (.int (nI i + 1)), none, none, none, none, none]) (jjLe_some (jjLe_some (jjLe_some (jjLe_none (jjLe_none (jjLe_none (jjLe_none (jjLe_none jjLe_nil)))))))) ?_
                    rw [mWaitN, if_neg h84, nI_succ] at ih
                    exact ih
                · exact absurd h66 h48
              · exact absurd (H.l i hi h48) h59
  refine jj_iconst (pc := 0) (v := 0) dL_arePatchesRight_0 rfl ?_
  refine jj_istore_n_1 (pc := 1) dL_arePatchesRight_1 rfl rfl (by decide) ?_
  refine jj_iconst (pc := 2) (v := 0) dL_arePatchesRight_2 rfl ?_
  refine jj_istore_n_2 (pc := 3) dL_arePatchesRight_3 rfl rfl (by decide) ?_
  exact K1 0 (Nat.zero_le _)
def nuZ (x : Int32) : Int32 := (1 : Int32) + blw (x >>> (3 &&& 31)) 60
def nu1 (S : jS) : jS := lkTry S 100 (-1)
def nu2 (S : jS) : jS := lkTry (nu1 S) 5 (-1)
def nu3 (S : jS) (x : Int32) : jS := lkTry (nu2 S) ((nu2 S).1 0) (blw x 3)
/-- what areNumbersRight asks for -/
def NumR (S : jS) (x : Int32) : Prop :=
  ((nuZ x).toNatClampNeg ≤ 60) ∧
  (gPlace S (nuZ x) = none) ∧
  (∀ j, j < (nuZ x).toNatClampNeg → ¬ mRoom S 23 (nuZ x) < 0 → ¬ mRoom S 23 (nuZ x) + nuZ x ≤ mRoom S 23 (nuZ x) + nI j) ∧
  (mRoom S 23 (nuZ x) + nuZ x ≤ mRoom S 23 (nuZ x) + nI (nuZ x).toNatClampNeg ∨ mRoom S 23 (nuZ x) < 0) ∧
  (∀ j, j < (nuZ x).toNatClampNeg → ¬ mRoom S 23 (nuZ x) < 0 → mWithin (mRoom S 23 (nuZ x) + nI j) 200 = true ∧ tWord S (mRoom S 23 (nuZ x) + nI j) 0 = 0) ∧
  (¬ mRoom S 23 (nuZ x) ≤ 0 → tMany S 9 = 1 → mWithin (mRoom S 23 (nuZ x) - 1) 200 = true ∧ ¬ tWord S (mRoom S 23 (nuZ x) - 1) 0 = 0) ∧
  (¬ (nu1 S).1 9 < 0) ∧
  (¬ (nu2 S).1 9 < 0) ∧
  (mWithin (blw x 3) ((nu2 S).1 1) = true) ∧
  (¬ (nu3 S x).1 3 < 0) ∧
  (¬ mRuns (nu3 S x) = 0 → vf_n64 (FP.ddiv (FP.i2d (mEnts (nu3 S x) 4)) (FP.i2d (mRuns (nu3 S x))))) ∧
  (tMany (nu3 S x) 6 = 0 → Op.cmpValue (FP.dcmp (mMean (nu3 S x)) FP.dconst0) .l = 0) ∧
  (¬ tMany (nu3 S x) 6 = 0 → ¬ Op.cmpValue (FP.dcmp (mMean (nu3 S x)) FP.dconst0) .l = 0) ∧
  (¬ 0 < Op.cmpValue (FP.dcmp (mMean (nu3 S x)) 4620693217682128896) .g)
theorem NumR.z {S : jS} {x : Int32} (h : NumR S x) : (nuZ x).toNatClampNeg ≤ 60 := h.1
theorem NumR.g {S : jS} {x : Int32} (h : NumR S x) : gPlace S (nuZ x) = none := h.2.1
theorem NumR.lt {S : jS} {x : Int32} (h : NumR S x) : ∀ j, j < (nuZ x).toNatClampNeg → ¬ mRoom S 23 (nuZ x) < 0 → ¬ mRoom S 23 (nuZ x) + nuZ x ≤ mRoom S 23 (nuZ x) + nI j := h.2.2.1
theorem NumR.ge {S : jS} {x : Int32} (h : NumR S x) : mRoom S 23 (nuZ x) + nuZ x ≤ mRoom S 23 (nuZ x) + nI (nuZ x).toNatClampNeg ∨ mRoom S 23 (nuZ x) < 0 := h.2.2.2.1
theorem NumR.f {S : jS} {x : Int32} (h : NumR S x) : ∀ j, j < (nuZ x).toNatClampNeg → ¬ mRoom S 23 (nuZ x) < 0 → mWithin (mRoom S 23 (nuZ x) + nI j) 200 = true ∧ tWord S (mRoom S 23 (nuZ x) + nI j) 0 = 0 := h.2.2.2.2.1
theorem NumR.b {S : jS} {x : Int32} (h : NumR S x) : ¬ mRoom S 23 (nuZ x) ≤ 0 → tMany S 9 = 1 → mWithin (mRoom S 23 (nuZ x) - 1) 200 = true ∧ ¬ tWord S (mRoom S 23 (nuZ x) - 1) 0 = 0 := h.2.2.2.2.2.1
theorem NumR.i1 {S : jS} {x : Int32} (h : NumR S x) : ¬ (nu1 S).1 9 < 0 := h.2.2.2.2.2.2.1
theorem NumR.i2 {S : jS} {x : Int32} (h : NumR S x) : ¬ (nu2 S).1 9 < 0 := h.2.2.2.2.2.2.2.1
theorem NumR.o3 {S : jS} {x : Int32} (h : NumR S x) : mWithin (blw x 3) ((nu2 S).1 1) = true := h.2.2.2.2.2.2.2.2.1
theorem NumR.i3 {S : jS} {x : Int32} (h : NumR S x) : ¬ (nu3 S x).1 3 < 0 := h.2.2.2.2.2.2.2.2.2.1
theorem NumR.nn {S : jS} {x : Int32} (h : NumR S x) : ¬ mRuns (nu3 S x) = 0 → vf_n64 (FP.ddiv (FP.i2d (mEnts (nu3 S x) 4)) (FP.i2d (mRuns (nu3 S x)))) := h.2.2.2.2.2.2.2.2.2.2.1
theorem NumR.m0 {S : jS} {x : Int32} (h : NumR S x) : tMany (nu3 S x) 6 = 0 → Op.cmpValue (FP.dcmp (mMean (nu3 S x)) FP.dconst0) .l = 0 := h.2.2.2.2.2.2.2.2.2.2.2.1
theorem NumR.m1 {S : jS} {x : Int32} (h : NumR S x) : ¬ tMany (nu3 S x) 6 = 0 → ¬ Op.cmpValue (FP.dcmp (mMean (nu3 S x)) FP.dconst0) .l = 0 := h.2.2.2.2.2.2.2.2.2.2.2.2.1
theorem NumR.m8 {S : jS} {x : Int32} (h : NumR S x) : ¬ 0 < Op.cmpValue (FP.dcmp (mMean (nu3 S x)) 4620693217682128896) .g := h.2.2.2.2.2.2.2.2.2.2.2.2.2
set_option maxHeartbeats 4000000 in
theorem c_L_areNumbersRight (l : Launch) (hl0 : l.stackTraces = false) (D : va_G) (cA : ClassId) (ob ro ar : Nat → Nat) (S : jS) (x : Int32) (H : NumR S x) : jjConL l yL_areNumbersRight wsL_areNumbersRight 7 D cA [.ref (ob 0), .int x] (jW cA ob ro ar S) 80 480 (fun r0 w0 => r0 = some (.int 1) ∧ w0 = jW cA ob ro ar (nu3 S x)) := by
  refine jjConL_of (own := RL) (cc := cL_areNumbersRight) (nL := 5) (rt := (some .boolean)) [some (.ref (ob 0)), some (.int x), none, none, none] jm_L_areNumbersRight (by decide +kernel) rfl (Nat.le_of_ble_eq_true rfl) rfl ?_
  have hN := H.z
  have K50 : jjV l RL cL_areNumbersRight 5 (some .boolean) jIf wsL_areNumbersRight (jjRm 7 80 480) D cA (jjEnd D (fun r0 w0 => r0 = some (.int 1) ∧ w0 = jW cA ob ro ar (nu3 S x)) 80 480) (61) (366) (jW cA ob ro ar S) 50 [some (.ref (ob 0)), some (.int x), some (.int (nuZ x)), some (.int (mRoom S 23 (nuZ x))), none] [] := by
    refine jj_iload_n (pc := 50) 3 dL_areNumbersRight_50 rfl rfl ?_
    refine jj_if_le (pc := 51) 77 dL_areNumbersRight_51 (by decide) (fun h51 => ?_) (fun h51 => ?_)
    · refine jj_aload_n (pc := 77) 0 dL_areNumbersRight_77 rfl rfl ?_
      refine jj_bipush (pc := 78) (v := 100) dL_areNumbersRight_78 rfl ?_
      refine jj_callXr (pc := 80) _ (c_X7_islandsWith l hl0 D cA ob ro ar _ _) (if_pos (by decide)) (fun _ _ _ _ h => h) dL_areNumbersRight_80 gL_areNumbersRight_X7_islandsWith jm_X7_islandsWith rfl (by decide) 0 jq_0 rfl rfl rfl (Nat.le_of_ble_eq_true rfl) ⟨by show _ ≤ 80; omega, by show _ ≤ 480; omega⟩ ?_
      refine jj_if_lt (pc := 83) 152 dL_areNumbersRight_83 (by decide) (fun h83 => ?_) (fun h83 => ?_)
      · exact absurd h83 H.i1
      · refine jj_aload_n (pc := 86) 0 dL_areNumbersRight_86 rfl rfl ?_
        refine jj_iconst (pc := 87) (v := 5) dL_areNumbersRight_87 rfl ?_
        refine jj_callXr (pc := 88) _ (c_X7_islandsWith l hl0 D cA ob ro ar _ _) (if_pos (by decide)) (fun _ _ _ _ h => h) dL_areNumbersRight_88 gL_areNumbersRight_X7_islandsWith jm_X7_islandsWith rfl (by decide) 0 jq_0 rfl rfl rfl (Nat.le_of_ble_eq_true rfl) ⟨by show _ ≤ 80; omega, by show _ ≤ 480; omega⟩ ?_
        refine jj_if_lt (pc := 91) 152 dL_areNumbersRight_91 (by decide) (fun h91 => ?_) (fun h91 => ?_)
        · exact absurd h91 H.i2
        · refine jj_aload_n (pc := 94) 0 dL_areNumbersRight_94 rfl rfl ?_
          refine jj_iload_n (pc := 95) 1 dL_areNumbersRight_95 rfl rfl ?_
          refine jj_iconst (pc := 96) (v := 3) dL_areNumbersRight_96 rfl ?_
          refine jj_callSr (pc := 97) _ (c_L_below l D cA _ _ _ (by decide)) dL_areNumbersRight_97 gL_areNumbersRight_L_below jm_L_below (by decide) rfl rfl (Nat.le_of_ble_eq_true rfl) ⟨by show _ ≤ 80; omega, by show _ ≤ 480; omega⟩ ?_
          refine jj_callXr (pc := 100) _ (c_X7_faultsWithout l hl0 D cA ob ro ar _ _) (if_pos H.o3) (fun _ _ _ _ h => h) dL_areNumbersRight_100 gL_areNumbersRight_X7_faultsWithout jm_X7_faultsWithout rfl (by decide) 0 jq_0 rfl rfl rfl (Nat.le_of_ble_eq_true rfl) ⟨by show _ ≤ 80; omega, by show _ ≤ 480; omega⟩ ?_
          refine jj_if_lt (pc := 103) 152 dL_areNumbersRight_103 (by decide) (fun h103 => ?_) (fun h103 => ?_)
          · exact absurd h103 H.i3
          · refine jj_aload_n (pc := 106) 0 dL_areNumbersRight_106 rfl rfl ?_
            refine jj_bipush (pc := 107) (v := 6) dL_areNumbersRight_107 rfl ?_
            refine jj_callXr (pc := 109) _ (c_X7_many l hl0 D cA ob ro ar _ _) (g_many (by decide)) (fun _ _ _ _ h => h) dL_areNumbersRight_109 gL_areNumbersRight_X7_many jm_X7_many rfl (by decide) 0 jq_0 rfl rfl rfl (Nat.le_of_ble_eq_true rfl) ⟨by show _ ≤ 80; omega, by show _ ≤ 480; omega⟩ ?_
            refine jj_if_ne (pc := 112) 119 dL_areNumbersRight_112 (by decide) (fun h112 => ?_) (fun h112 => ?_)
            · refine jj_iconst (pc := 119) (v := 0) dL_areNumbersRight_119 rfl ?_
              refine jj_aload_n (pc := 120) 0 dL_areNumbersRight_120 rfl rfl ?_
              refine jj_callVr (pc := 121) _ (c_X7_meanStack l D cA ob ro ar (nu3 S x) H.nn) dL_areNumbersRight_121 gL_areNumbersRight_X7_meanStack jm_X7_meanStack rfl (by decide) 0 jq_0 rfl rfl rfl (Nat.le_of_ble_eq_true rfl) ⟨by show _ ≤ 80; omega, by show _ ≤ 480; omega⟩ ?_
              refine jj_dconst0 (pc := 124) dL_areNumbersRight_124 ?_
              refine jj_dcmp (pc := 125) dL_areNumbersRight_125 ?_
              refine jj_if_ne (pc := 126) 133 dL_areNumbersRight_126 (by decide) (fun h126 => ?_) (fun h126 => ?_)
              · refine jj_iconst (pc := 133) (v := 0) dL_areNumbersRight_133 rfl ?_
                refine jj_icmp_ne (pc := 134) 152 dL_areNumbersRight_134 (by decide) (fun h134 => ?_) (fun h134 => ?_)
                · exact absurd rfl h134
                · refine jj_aload_n (pc := 137) 0 dL_areNumbersRight_137 rfl rfl ?_
                  refine jj_callVr (pc := 138) _ (c_X7_meanStack l D cA ob ro ar (nu3 S x) H.nn) dL_areNumbersRight_138 gL_areNumbersRight_X7_meanStack jm_X7_meanStack rfl (by decide) 0 jq_0 rfl rfl rfl (Nat.le_of_ble_eq_true rfl) ⟨by show _ ≤ 80; omega, by show _ ≤ 480; omega⟩ ?_
                  refine jj_ldc2d (pc := 141) (v := 4620693217682128896) dL_areNumbersRight_141 (by decide +kernel) ?_
                  refine jj_dcmp (pc := 144) dL_areNumbersRight_144 ?_
                  refine jj_if_gt (pc := 145) 152 dL_areNumbersRight_145 (by decide) (fun h145 => ?_) (fun h145 => ?_)
                  · exact absurd h145 H.m8
                  · refine jj_iconst (pc := 148) (v := 1) dL_areNumbersRight_148 rfl ?_
                    refine jj_goto (pc := 149) 153 dL_areNumbersRight_149 (by decide) ?_
                    refine jj_widen (k' := 80) (n' := 480) (by omega) (by omega) ?_
                    refine jj_zret (pc := 153) rfl dL_areNumbersRight_153 ?_
                    exact ⟨rfl, rfl⟩
              · exact absurd h126 (H.m1 h112)
            · refine jj_iconst (pc := 115) (v := 1) dL_areNumbersRight_115 rfl ?_
              refine jj_goto (pc := 116) 120 dL_areNumbersRight_116 (by decide) ?_
              refine jj_aload_n (pc := 120) 0 dL_areNumbersRight_120 rfl rfl ?_
              refine jj_callVr (pc := 121) _ (c_X7_meanStack l D cA ob ro ar (nu3 S x) H.nn) dL_areNumbersRight_121 gL_areNumbersRight_X7_meanStack jm_X7_meanStack rfl (by decide) 0 jq_0 rfl rfl rfl (Nat.le_of_ble_eq_true rfl) ⟨by show _ ≤ 80; omega, by show _ ≤ 480; omega⟩ ?_
              refine jj_dconst0 (pc := 124) dL_areNumbersRight_124 ?_
              refine jj_dcmp (pc := 125) dL_areNumbersRight_125 ?_
              refine jj_if_ne (pc := 126) 133 dL_areNumbersRight_126 (by decide) (fun h126 => ?_) (fun h126 => ?_)
              · exact absurd (H.m0 h112) h126
              · refine jj_iconst (pc := 129) (v := 1) dL_areNumbersRight_129 rfl ?_
                refine jj_goto (pc := 130) 134 dL_areNumbersRight_130 (by decide) ?_
                refine jj_icmp_ne (pc := 134) 152 dL_areNumbersRight_134 (by decide) (fun h134 => ?_) (fun h134 => ?_)
                · exact absurd rfl h134
                · refine jj_aload_n (pc := 137) 0 dL_areNumbersRight_137 rfl rfl ?_
                  refine jj_callVr (pc := 138) _ (c_X7_meanStack l D cA ob ro ar (nu3 S x) H.nn) dL_areNumbersRight_138 gL_areNumbersRight_X7_meanStack jm_X7_meanStack rfl (by decide) 0 jq_0 rfl rfl rfl (Nat.le_of_ble_eq_true rfl) ⟨by show _ ≤ 80; omega, by show _ ≤ 480; omega⟩ ?_
                  refine jj_ldc2d (pc := 141) (v := 4620693217682128896) dL_areNumbersRight_141 (by decide +kernel) ?_
                  refine jj_dcmp (pc := 144) dL_areNumbersRight_144 ?_
                  refine jj_if_gt (pc := 145) 152 dL_areNumbersRight_145 (by decide) (fun h145 => ?_) (fun h145 => ?_)
                  · exact absurd h145 H.m8
                  · refine jj_iconst (pc := 148) (v := 1) dL_areNumbersRight_148 rfl ?_
                    refine jj_goto (pc := 149) 153 dL_areNumbersRight_149 (by decide) ?_
                    refine jj_widen (k' := 80) (n' := 480) (by omega) (by omega) ?_
                    refine jj_zret (pc := 153) rfl dL_areNumbersRight_153 ?_
                    exact ⟨rfl, rfl⟩
    · refine jj_aload_n (pc := 54) 0 dL_areNumbersRight_54 rfl rfl ?_
      refine jj_bipush (pc := 55) (v := 9) dL_areNumbersRight_55 rfl ?_
      refine jj_callXr (pc := 57) _ (c_X7_many l hl0 D cA ob ro ar _ _) (g_many (by decide)) (fun _ _ _ _ h => h) dL_areNumbersRight_57 gL_areNumbersRight_X7_many jm_X7_many rfl (by decide) 0 jq_0 rfl rfl rfl (Nat.le_of_ble_eq_true rfl) ⟨by show _ ≤ 80; omega, by show _ ≤ 480; omega⟩ ?_
      refine jj_iconst (pc := 60) (v := 1) dL_areNumbersRight_60 rfl ?_
      refine jj_icmp_ne (pc := 61) 77 dL_areNumbersRight_61 (by decide) (fun h61 => ?_) (fun h61 => ?_)
      · refine jj_aload_n (pc := 77) 0 dL_areNumbersRight_77 rfl rfl ?_
        refine jj_bipush (pc := 78) (v := 100) dL_areNumbersRight_78 rfl ?_
        refine jj_callXr (pc := 80) _ (c_X7_islandsWith l hl0 D cA ob ro ar _ _) (if_pos (by decide)) (fun _ _ _ _ h => h) dL_areNumbersRight_80 gL_areNumbersRight_X7_islandsWith jm_X7_islandsWith rfl (by decide) 0 jq_0 rfl rfl rfl (Nat.le_of_ble_eq_true rfl) ⟨by show _ ≤ 80; omega, by show _ ≤ 480; omega⟩ ?_
        refine jj_if_lt (pc := 83) 152 dL_areNumbersRight_83 (by decide) (fun h83 => ?_) (fun h83 => ?_)
        · exact absurd h83 H.i1
        · refine jj_aload_n (pc := 86) 0 dL_areNumbersRight_86 rfl rfl ?_
          refine jj_iconst (pc := 87) (v := 5) dL_areNumbersRight_87 rfl ?_
          refine jj_callXr (pc := 88) _ (c_X7_islandsWith l hl0 D cA ob ro ar _ _) (if_pos (by decide)) (fun _ _ _ _ h => h) dL_areNumbersRight_88 gL_areNumbersRight_X7_islandsWith jm_X7_islandsWith rfl (by decide) 0 jq_0 rfl rfl rfl (Nat.le_of_ble_eq_true rfl) ⟨by show _ ≤ 80; omega, by show _ ≤ 480; omega⟩ ?_
          refine jj_if_lt (pc := 91) 152 dL_areNumbersRight_91 (by decide) (fun h91 => ?_) (fun h91 => ?_)
          · exact absurd h91 H.i2
          · refine jj_aload_n (pc := 94) 0 dL_areNumbersRight_94 rfl rfl ?_
            refine jj_iload_n (pc := 95) 1 dL_areNumbersRight_95 rfl rfl ?_
            refine jj_iconst (pc := 96) (v := 3) dL_areNumbersRight_96 rfl ?_
            refine jj_callSr (pc := 97) _ (c_L_below l D cA _ _ _ (by decide)) dL_areNumbersRight_97 gL_areNumbersRight_L_below jm_L_below (by decide) rfl rfl (Nat.le_of_ble_eq_true rfl) ⟨by show _ ≤ 80; omega, by show _ ≤ 480; omega⟩ ?_
            refine jj_callXr (pc := 100) _ (c_X7_faultsWithout l hl0 D cA ob ro ar _ _) (if_pos H.o3) (fun _ _ _ _ h => h) dL_areNumbersRight_100 gL_areNumbersRight_X7_faultsWithout jm_X7_faultsWithout rfl (by decide) 0 jq_0 rfl rfl rfl (Nat.le_of_ble_eq_true rfl) ⟨by show _ ≤ 80; omega, by show _ ≤ 480; omega⟩ ?_
            refine jj_if_lt (pc := 103) 152 dL_areNumbersRight_103 (by decide) (fun h103 => ?_) (fun h103 => ?_)
            · exact absurd h103 H.i3
            · refine jj_aload_n (pc := 106) 0 dL_areNumbersRight_106 rfl rfl ?_
              refine jj_bipush (pc := 107) (v := 6) dL_areNumbersRight_107 rfl ?_
              refine jj_callXr (pc := 109) _ (c_X7_many l hl0 D cA ob ro ar _ _) (g_many (by decide)) (fun _ _ _ _ h => h) dL_areNumbersRight_109 gL_areNumbersRight_X7_many jm_X7_many rfl (by decide) 0 jq_0 rfl rfl rfl (Nat.le_of_ble_eq_true rfl) ⟨by show _ ≤ 80; omega, by show _ ≤ 480; omega⟩ ?_
              refine jj_if_ne (pc := 112) 119 dL_areNumbersRight_112 (by decide) (fun h112 => ?_) (fun h112 => ?_)
              · refine jj_iconst (pc := 119) (v := 0) dL_areNumbersRight_119 rfl ?_
                refine jj_aload_n (pc := 120) 0 dL_areNumbersRight_120 rfl rfl ?_
                refine jj_callVr (pc := 121) _ (c_X7_meanStack l D cA ob ro ar (nu3 S x) H.nn) dL_areNumbersRight_121 gL_areNumbersRight_X7_meanStack jm_X7_meanStack rfl (by decide) 0 jq_0 rfl rfl rfl (Nat.le_of_ble_eq_true rfl) ⟨by show _ ≤ 80; omega, by show _ ≤ 480; omega⟩ ?_
                refine jj_dconst0 (pc := 124) dL_areNumbersRight_124 ?_
                refine jj_dcmp (pc := 125) dL_areNumbersRight_125 ?_
                refine jj_if_ne (pc := 126) 133 dL_areNumbersRight_126 (by decide) (fun h126 => ?_) (fun h126 => ?_)
                · refine jj_iconst (pc := 133) (v := 0) dL_areNumbersRight_133 rfl ?_
                  refine jj_icmp_ne (pc := 134) 152 dL_areNumbersRight_134 (by decide) (fun h134 => ?_) (fun h134 => ?_)
                  · exact absurd rfl h134
                  · refine jj_aload_n (pc := 137) 0 dL_areNumbersRight_137 rfl rfl ?_
                    refine jj_callVr (pc := 138) _ (c_X7_meanStack l D cA ob ro ar (nu3 S x) H.nn) dL_areNumbersRight_138 gL_areNumbersRight_X7_meanStack jm_X7_meanStack rfl (by decide) 0 jq_0 rfl rfl rfl (Nat.le_of_ble_eq_true rfl) ⟨by show _ ≤ 80; omega, by show _ ≤ 480; omega⟩ ?_
                    refine jj_ldc2d (pc := 141) (v := 4620693217682128896) dL_areNumbersRight_141 (by decide +kernel) ?_
                    refine jj_dcmp (pc := 144) dL_areNumbersRight_144 ?_
                    refine jj_if_gt (pc := 145) 152 dL_areNumbersRight_145 (by decide) (fun h145 => ?_) (fun h145 => ?_)
                    · exact absurd h145 H.m8
                    · refine jj_iconst (pc := 148) (v := 1) dL_areNumbersRight_148 rfl ?_
                      refine jj_goto (pc := 149) 153 dL_areNumbersRight_149 (by decide) ?_
                      refine jj_widen (k' := 80) (n' := 480) (by omega) (by omega) ?_
                      refine jj_zret (pc := 153) rfl dL_areNumbersRight_153 ?_
                      exact ⟨rfl, rfl⟩
                · exact absurd h126 (H.m1 h112)
              · refine jj_iconst (pc := 115) (v := 1) dL_areNumbersRight_115 rfl ?_
                refine jj_goto (pc := 116) 120 dL_areNumbersRight_116 (by decide) ?_
                refine jj_aload_n (pc := 120) 0 dL_areNumbersRight_120 rfl rfl ?_
                refine jj_callVr (pc := 121) _ (c_X7_meanStack l D cA ob ro ar (nu3 S x) H.nn) dL_areNumbersRight_121 gL_areNumbersRight_X7_meanStack jm_X7_meanStack rfl (by decide) 0 jq_0 rfl rfl rfl (Nat.le_of_ble_eq_true rfl) ⟨by show _ ≤ 80; omega, by show _ ≤ 480; omega⟩ ?_
                refine jj_dconst0 (pc := 124) dL_areNumbersRight_124 ?_
                refine jj_dcmp (pc := 125) dL_areNumbersRight_125 ?_
                refine jj_if_ne (pc := 126) 133 dL_areNumbersRight_126 (by decide) (fun h126 => ?_) (fun h126 => ?_)
                · exact absurd (H.m0 h112) h126
                · refine jj_iconst (pc := 129) (v := 1) dL_areNumbersRight_129 rfl ?_
                  refine jj_goto (pc := 130) 134 dL_areNumbersRight_130 (by decide) ?_
                  refine jj_icmp_ne (pc := 134) 152 dL_areNumbersRight_134 (by decide) (fun h134 => ?_) (fun h134 => ?_)
                  · exact absurd rfl h134
                  · refine jj_aload_n (pc := 137) 0 dL_areNumbersRight_137 rfl rfl ?_
                    refine jj_callVr (pc := 138) _ (c_X7_meanStack l D cA ob ro ar (nu3 S x) H.nn) dL_areNumbersRight_138 gL_areNumbersRight_X7_meanStack jm_X7_meanStack rfl (by decide) 0 jq_0 rfl rfl rfl (Nat.le_of_ble_eq_true rfl) ⟨by show _ ≤ 80; omega, by show _ ≤ 480; omega⟩ ?_
                    refine jj_ldc2d (pc := 141) (v := 4620693217682128896) dL_areNumbersRight_141 (by decide +kernel) ?_
                    refine jj_dcmp (pc := 144) dL_areNumbersRight_144 ?_
                    refine jj_if_gt (pc := 145) 152 dL_areNumbersRight_145 (by decide) (fun h145 => ?_) (fun h145 => ?_)
                    · exact absurd h145 H.m8
                    · refine jj_iconst (pc := 148) (v := 1) dL_areNumbersRight_148 rfl ?_
                      refine jj_goto (pc := 149) 153 dL_areNumbersRight_149 (by decide) ?_
                      refine jj_widen (k' := 80) (n' := 480) (by omega) (by omega) ?_
                      refine jj_zret (pc := 153) rfl dL_areNumbersRight_153 ?_
                      exact ⟨rfl, rfl⟩
      · refine jj_aload_n (pc := 64) 0 dL_areNumbersRight_64 rfl rfl ?_
        refine jj_iload_n (pc := 65) 3 dL_areNumbersRight_65 rfl rfl ?_
        refine jj_iconst (pc := 66) (v := 1) dL_areNumbersRight_66 rfl ?_
        refine jj_isub (pc := 67) dL_areNumbersRight_67 ?_
        refine jj_iconst (pc := 68) (v := 0) dL_areNumbersRight_68 rfl ?_
        refine jj_callXr (pc := 69) _ (c_X7_map l hl0 D cA ob ro ar _ _ _) (g_map (H.b h51 h61).1 (by decide)) (fun _ _ _ _ h => h) dL_areNumbersRight_69 gL_areNumbersRight_X7_map jm_X7_map rfl (by decide) 0 jq_0 rfl rfl rfl (Nat.le_of_ble_eq_true rfl) ⟨by show _ ≤ 80; omega, by show _ ≤ 480; omega⟩ ?_
        refine jj_if_ne (pc := 72) 77 dL_areNumbersRight_72 (by decide) (fun h72 => ?_) (fun h72 => ?_)
        · refine jj_aload_n (pc := 77) 0 dL_areNumbersRight_77 rfl rfl ?_
          refine jj_bipush (pc := 78) (v := 100) dL_areNumbersRight_78 rfl ?_
          refine jj_callXr (pc := 80) _ (c_X7_islandsWith l hl0 D cA ob ro ar _ _) (if_pos (by decide)) (fun _ _ _ _ h => h) dL_areNumbersRight_80 gL_areNumbersRight_X7_islandsWith jm_X7_islandsWith rfl (by decide) 0 jq_0 rfl rfl rfl (Nat.le_of_ble_eq_true rfl) ⟨by show _ ≤ 80; omega, by show _ ≤ 480; omega⟩ ?_
          refine jj_if_lt (pc := 83) 152 dL_areNumbersRight_83 (by decide) (fun h83 => ?_) (fun h83 => ?_)
          · exact absurd h83 H.i1
          · refine jj_aload_n (pc := 86) 0 dL_areNumbersRight_86 rfl rfl ?_
            refine jj_iconst (pc := 87) (v := 5) dL_areNumbersRight_87 rfl ?_
            refine jj_callXr (pc := 88) _ (c_X7_islandsWith l hl0 D cA ob ro ar _ _) (if_pos (by decide)) (fun _ _ _ _ h => h) dL_areNumbersRight_88 gL_areNumbersRight_X7_islandsWith jm_X7_islandsWith rfl (by decide) 0 jq_0 rfl rfl rfl (Nat.le_of_ble_eq_true rfl) ⟨by show _ ≤ 80; omega, by show _ ≤ 480; omega⟩ ?_
            refine jj_if_lt (pc := 91) 152 dL_areNumbersRight_91 (by decide) (fun h91 => ?_) (fun h91 => ?_)
            · exact absurd h91 H.i2
            · refine jj_aload_n (pc := 94) 0 dL_areNumbersRight_94 rfl rfl ?_
              refine jj_iload_n (pc := 95) 1 dL_areNumbersRight_95 rfl rfl ?_
              refine jj_iconst (pc := 96) (v := 3) dL_areNumbersRight_96 rfl ?_
              refine jj_callSr (pc := 97) _ (c_L_below l D cA _ _ _ (by decide)) dL_areNumbersRight_97 gL_areNumbersRight_L_below jm_L_below (by decide) rfl rfl (Nat.le_of_ble_eq_true rfl) ⟨by show _ ≤ 80; omega, by show _ ≤ 480; omega⟩ ?_
              refine jj_callXr (pc := 100) _ (c_X7_faultsWithout l hl0 D cA ob ro ar _ _) (if_pos H.o3) (fun _ _ _ _ h => h) dL_areNumbersRight_100 gL_areNumbersRight_X7_faultsWithout jm_X7_faultsWithout rfl (by decide) 0 jq_0 rfl rfl rfl (Nat.le_of_ble_eq_true rfl) ⟨by show _ ≤ 80; omega, by show _ ≤ 480; omega⟩ ?_
              refine jj_if_lt (pc := 103) 152 dL_areNumbersRight_103 (by decide) (fun h103 => ?_) (fun h103 => ?_)
              · exact absurd h103 H.i3
              · refine jj_aload_n (pc := 106) 0 dL_areNumbersRight_106 rfl rfl ?_
                refine jj_bipush (pc := 107) (v := 6) dL_areNumbersRight_107 rfl ?_
                refine jj_callXr (pc := 109) _ (c_X7_many l hl0 D cA ob ro ar _ _) (g_many (by decide)) (fun _ _ _ _ h => h) dL_areNumbersRight_109 gL_areNumbersRight_X7_many jm_X7_many rfl (by decide) 0 jq_0 rfl rfl rfl (Nat.le_of_ble_eq_true rfl) ⟨by show _ ≤ 80; omega, by show _ ≤ 480; omega⟩ ?_
                refine jj_if_ne (pc := 112) 119 dL_areNumbersRight_112 (by decide) (fun h112 => ?_) (fun h112 => ?_)
                · refine jj_iconst (pc := 119) (v := 0) dL_areNumbersRight_119 rfl ?_
                  refine jj_aload_n (pc := 120) 0 dL_areNumbersRight_120 rfl rfl ?_
                  refine jj_callVr (pc := 121) _ (c_X7_meanStack l D cA ob ro ar (nu3 S x) H.nn) dL_areNumbersRight_121 gL_areNumbersRight_X7_meanStack jm_X7_meanStack rfl (by decide) 0 jq_0 rfl rfl rfl (Nat.le_of_ble_eq_true rfl) ⟨by show _ ≤ 80; omega, by show _ ≤ 480; omega⟩ ?_
                  refine jj_dconst0 (pc := 124) dL_areNumbersRight_124 ?_
                  refine jj_dcmp (pc := 125) dL_areNumbersRight_125 ?_
                  refine jj_if_ne (pc := 126) 133 dL_areNumbersRight_126 (by decide) (fun h126 => ?_) (fun h126 => ?_)
                  · refine jj_iconst (pc := 133) (v := 0) dL_areNumbersRight_133 rfl ?_
                    refine jj_icmp_ne (pc := 134) 152 dL_areNumbersRight_134 (by decide) (fun h134 => ?_) (fun h134 => ?_)
                    · exact absurd rfl h134
                    · refine jj_aload_n (pc := 137) 0 dL_areNumbersRight_137 rfl rfl ?_
                      refine jj_callVr (pc := 138) _ (c_X7_meanStack l D cA ob ro ar (nu3 S x) H.nn) dL_areNumbersRight_138 gL_areNumbersRight_X7_meanStack jm_X7_meanStack rfl (by decide) 0 jq_0 rfl rfl rfl (Nat.le_of_ble_eq_true rfl) ⟨by show _ ≤ 80; omega, by show _ ≤ 480; omega⟩ ?_
                      refine jj_ldc2d (pc := 141) (v := 4620693217682128896) dL_areNumbersRight_141 (by decide +kernel) ?_
                      refine jj_dcmp (pc := 144) dL_areNumbersRight_144 ?_
                      refine jj_if_gt (pc := 145) 152 dL_areNumbersRight_145 (by decide) (fun h145 => ?_) (fun h145 => ?_)
                      · exact absurd h145 H.m8
                      · refine jj_iconst (pc := 148) (v := 1) dL_areNumbersRight_148 rfl ?_
                        refine jj_goto (pc := 149) 153 dL_areNumbersRight_149 (by decide) ?_
                        refine jj_widen (k' := 80) (n' := 480) (by omega) (by omega) ?_
                        refine jj_zret (pc := 153) rfl dL_areNumbersRight_153 ?_
                        exact ⟨rfl, rfl⟩
                  · exact absurd h126 (H.m1 h112)
                · refine jj_iconst (pc := 115) (v := 1) dL_areNumbersRight_115 rfl ?_
                  refine jj_goto (pc := 116) 120 dL_areNumbersRight_116 (by decide) ?_
                  refine jj_aload_n (pc := 120) 0 dL_areNumbersRight_120 rfl rfl ?_
                  refine jj_callVr (pc := 121) _ (c_X7_meanStack l D cA ob ro ar (nu3 S x) H.nn) dL_areNumbersRight_121 gL_areNumbersRight_X7_meanStack jm_X7_meanStack rfl (by decide) 0 jq_0 rfl rfl rfl (Nat.le_of_ble_eq_true rfl) ⟨by show _ ≤ 80; omega, by show _ ≤ 480; omega⟩ ?_
                  refine jj_dconst0 (pc := 124) dL_areNumbersRight_124 ?_
                  refine jj_dcmp (pc := 125) dL_areNumbersRight_125 ?_
                  refine jj_if_ne (pc := 126) 133 dL_areNumbersRight_126 (by decide) (fun h126 => ?_) (fun h126 => ?_)
                  · exact absurd (H.m0 h112) h126
                  · refine jj_iconst (pc := 129) (v := 1) dL_areNumbersRight_129 rfl ?_
                    refine jj_goto (pc := 130) 134 dL_areNumbersRight_130 (by decide) ?_
                    refine jj_icmp_ne (pc := 134) 152 dL_areNumbersRight_134 (by decide) (fun h134 => ?_) (fun h134 => ?_)
                    · exact absurd rfl h134
                    · refine jj_aload_n (pc := 137) 0 dL_areNumbersRight_137 rfl rfl ?_
                      refine jj_callVr (pc := 138) _ (c_X7_meanStack l D cA ob ro ar (nu3 S x) H.nn) dL_areNumbersRight_138 gL_areNumbersRight_X7_meanStack jm_X7_meanStack rfl (by decide) 0 jq_0 rfl rfl rfl (Nat.le_of_ble_eq_true rfl) ⟨by show _ ≤ 80; omega, by show _ ≤ 480; omega⟩ ?_
                      refine jj_ldc2d (pc := 141) (v := 4620693217682128896) dL_areNumbersRight_141 (by decide +kernel) ?_
                      refine jj_dcmp (pc := 144) dL_areNumbersRight_144 ?_
                      refine jj_if_gt (pc := 145) 152 dL_areNumbersRight_145 (by decide) (fun h145 => ?_) (fun h145 => ?_)
                      · exact absurd h145 H.m8
                      · refine jj_iconst (pc := 148) (v := 1) dL_areNumbersRight_148 rfl ?_
                        refine jj_goto (pc := 149) 153 dL_areNumbersRight_149 (by decide) ?_
                        refine jj_widen (k' := 80) (n' := 480) (by omega) (by omega) ?_
                        refine jj_zret (pc := 153) rfl dL_areNumbersRight_153 ?_
                        exact ⟨rfl, rfl⟩
        · exact absurd h72 (H.b h51 h61).2
  have K1 : ∀ j, j ≤ (nuZ x).toNatClampNeg → jjV l RL cL_areNumbersRight 5 (some .boolean) jIf wsL_areNumbersRight (jjRm 7 80 480) D cA (jjEnd D (fun r0 w0 => r0 = some (.int 1) ∧ w0 = jW cA ob ro ar (nu3 S x)) 80 480) (1 + j) (6 + 6 * j) (jW cA ob ro ar S) 20 [some (.ref (ob 0)), some (.int x), some (.int (nuZ x)), some (.int (mRoom S 23 (nuZ x))), some (.int ((mRoom S 23 (nuZ x)) + nI j))] [] := by
    refine jdown (nuZ x).toNatClampNeg ?_ (fun j hj ih => ?_)
    · refine jj_iload_n (pc := 20) 3 dL_areNumbersRight_20 rfl rfl ?_
      refine jj_if_lt (pc := 21) 50 dL_areNumbersRight_21 (by decide) (fun h21 => ?_) (fun h21 => ?_)
      · refine jj_widen (k' := 61) (n' := 366) (by omega) (by omega) ?_
        refine jj_sub ?_ K50
        exact (jjLe_some (jjLe_some (jjLe_some (jjLe_some (jjLe_none jjLe_nil)))))
      · refine jj_iload (pc := 24) dL_areNumbersRight_24 rfl ?_
        refine jj_iload_n (pc := 26) 3 dL_areNumbersRight_26 rfl rfl ?_
        refine jj_iload_n (pc := 27) 2 dL_areNumbersRight_27 rfl rfl ?_
        refine jj_iadd (pc := 28) dL_areNumbersRight_28 ?_
        refine jj_icmp_ge (pc := 29) 50 dL_areNumbersRight_29 (by decide) (fun h29 => ?_) (fun h29 => ?_)
        · refine jj_widen (k' := 61) (n' := 366) (by omega) (by omega) ?_
          refine jj_sub ?_ K50
          exact (jjLe_some (jjLe_some (jjLe_some (jjLe_some (jjLe_none jjLe_nil)))))
        · exact (H.ge).elim (fun h => absurd h h29) (fun h => absurd h h21)
    · refine jj_iload_n (pc := 20) 3 dL_areNumbersRight_20 rfl rfl ?_
      refine jj_if_lt (pc := 21) 50 dL_areNumbersRight_21 (by decide) (fun h21 => ?_) (fun h21 => ?_)
      · refine jj_widen (k' := 61) (n' := 366) (by omega) (by omega) ?_
        refine jj_sub ?_ K50
        exact (jjLe_some (jjLe_some (jjLe_some (jjLe_some (jjLe_none jjLe_nil)))))
      · refine jj_iload (pc := 24) dL_areNumbersRight_24 rfl ?_
        refine jj_iload_n (pc := 26) 3 dL_areNumbersRight_26 rfl rfl ?_
        refine jj_iload_n (pc := 27) 2 dL_areNumbersRight_27 rfl rfl ?_
        refine jj_iadd (pc := 28) dL_areNumbersRight_28 ?_
        refine jj_icmp_ge (pc := 29) 50 dL_areNumbersRight_29 (by decide) (fun h29 => ?_) (fun h29 => ?_)
        · exact absurd h29 (H.lt j hj h21)
        · refine jj_aload_n (pc := 32) 0 dL_areNumbersRight_32 rfl rfl ?_
          refine jj_iload (pc := 33) dL_areNumbersRight_33 rfl ?_
          refine jj_iconst (pc := 35) (v := 0) dL_areNumbersRight_35 rfl ?_
          refine jj_callXr (pc := 36) _ (c_X7_map l hl0 D cA ob ro ar _ _ _) (g_map (H.f j hj h21).1 (by decide)) (fun _ _ _ _ h => h) dL_areNumbersRight_36 gL_areNumbersRight_X7_map jm_X7_map rfl (by decide) 0 jq_0 rfl rfl rfl (Nat.le_of_ble_eq_true rfl) ⟨by show _ ≤ 80; omega, by show _ ≤ 480; omega⟩ ?_
          refine jj_if_eq (pc := 39) 44 dL_areNumbersRight_39 (by decide) (fun h39 => ?_) (fun h39 => ?_)
          · refine jj_iinc_4 (pc := 44) (z := 1) dL_areNumbersRight_44 rfl rfl (by decide) ?_
            refine jj_goto (pc := 47) 20 dL_areNumbersRight_47 (by decide) ?_
            refine jj_widen (k' := 1 + (j + 1)) (n' := 6 + 6 * (j + 1)) (by omega) (by omega) ?_
            rw [nI_succ, ← Int32.add_assoc] at ih
            exact ih
          · exact absurd (H.f j hj h21).2 h39
  refine jj_iconst (pc := 0) (v := 1) dL_areNumbersRight_0 rfl ?_
  refine jj_iload_n (pc := 1) 1 dL_areNumbersRight_1 rfl rfl ?_
  refine jj_iconst (pc := 2) (v := 3) dL_areNumbersRight_2 rfl ?_
  refine jj_ishr (pc := 3) dL_areNumbersRight_3 ?_
  refine jj_bipush (pc := 4) (v := 60) dL_areNumbersRight_4 rfl ?_
  refine jj_callSr (pc := 6) _ (c_L_below l D cA _ _ _ (by decide)) dL_areNumbersRight_6 gL_areNumbersRight_L_below jm_L_below (by decide) rfl rfl (Nat.le_of_ble_eq_true rfl) ⟨by show _ ≤ 80; omega, by show _ ≤ 480; omega⟩ ?_
  refine jj_iadd (pc := 9) dL_areNumbersRight_9 ?_
  refine jj_istore_n_2 (pc := 10) dL_areNumbersRight_10 rfl rfl (by decide) ?_
  refine jj_aload_n (pc := 11) 0 dL_areNumbersRight_11 rfl rfl ?_
  refine jj_iload_n (pc := 12) 2 dL_areNumbersRight_12 rfl rfl ?_
  refine jj_callXr (pc := 13) _ (c_X7_place l hl0 D cA ob ro ar _ _) H.g (fun _ _ _ _ h => h) dL_areNumbersRight_13 gL_areNumbersRight_X7_place jm_X7_place rfl (by decide) 0 jq_0 rfl rfl rfl (Nat.le_of_ble_eq_true rfl) ⟨by show _ ≤ 80; omega, by show _ ≤ 480; omega⟩ ?_
  refine jj_istore_n_3 (pc := 16) dL_areNumbersRight_16 rfl rfl (by decide) ?_
  refine jj_iload_n (pc := 17) 3 dL_areNumbersRight_17 rfl rfl ?_
  refine jj_istore_4 (pc := 18) dL_areNumbersRight_18 rfl (by decide) ?_
  refine jj_widen (k' := 1 + 0) (n' := 6 + 6 * 0) (by omega) (by omega) ?_
  have h := K1 0 (Nat.zero_le _)
  rw [show nI 0 = (0 : Int32) from rfl, Int32.add_zero] at h
  exact h
