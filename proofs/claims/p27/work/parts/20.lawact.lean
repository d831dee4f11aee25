section JI
variable {l : Launch} {own : String} {cc : ByteArray} {nL : Nat} {rt : Option FieldType} {I : jjI} {ws : List Cond} {R : Room} {D : va_G} {cA : ClassId} {E : jjE} {k n : Nat} {w : va_W} {pc : Nat} {lv : List (Option Value)} {st : List Value}
theorem jj_istore_9 {o0 o1 o2 o3 o4 o5 o6 o7 o8 u : Option Value} {r : List (Option Value)} {x : Int32} (hd : decode cc pc = .ok (.istore 9, 2)) (hc : jjC o8 = true) (hn : 9 < nL) (kk : jjV l own cc nL rt I ws R D cA E k n w (pc + 2) (o0 :: o1 :: o2 :: o3 :: o4 :: o5 :: o6 :: o7 :: o8 :: some (.int x) :: r) st) : jjV l own cc nL rt I ws R D cA E k n w pc (o0 :: o1 :: o2 :: o3 :: o4 :: o5 :: o6 :: o7 :: o8 :: u :: r) (.int x :: st) := by
  intro p e s m args below meth c A H locs ls hF hI hA hK hP hD hS hl
  exact lv_istore hF.1 hF.2.1 hd hl hn rfl (fun ls' hl' => kk p e s m args below meth c A H locs ls' hF hI hA hK hP hD hS (jjL_has hl' (jjL_set1 (lv := (o0 :: o1 :: o2 :: o3 :: o4 :: o5 :: o6 :: o7 :: o8 :: u :: r)) (i := 9) (fun q h => h.elim (fun z => by cases z) (fun z => Or.inr (jjC_use hc z))))))
theorem jj_istore_10 {o0 o1 o2 o3 o4 o5 o6 o7 o8 o9 u : Option Value} {r : List (Option Value)} {x : Int32} (hd : decode cc pc = .ok (.istore 10, 2)) (hc : jjC o9 = true) (hn : 10 < nL) (kk : jjV l own cc nL rt I ws R D cA E k n w (pc + 2) (o0 :: o1 :: o2 :: o3 :: o4 :: o5 :: o6 :: o7 :: o8 :: o9 :: some (.int x) :: r) st) : jjV l own cc nL rt I ws R D cA E k n w pc (o0 :: o1 :: o2 :: o3 :: o4 :: o5 :: o6 :: o7 :: o8 :: o9 :: u :: r) (.int x :: st) := by
  intro p e s m args below meth c A H locs ls hF hI hA hK hP hD hS hl
  exact lv_istore hF.1 hF.2.1 hd hl hn rfl (fun ls' hl' => kk p e s m args below meth c A H locs ls' hF hI hA hK hP hD hS (jjL_has hl' (jjL_set1 (lv := (o0 :: o1 :: o2 :: o3 :: o4 :: o5 :: o6 :: o7 :: o8 :: o9 :: u :: r)) (i := 10) (fun q h => h.elim (fun z => by cases z) (fun z => Or.inr (jjC_use hc z))))))
end JI
/-! The law's act: one step of a script. -/
theorem jm_L_act : jjMA yL_act wsL_act cL_act 11 (some .boolean) 2 := ⟨⟨_, rfl⟩, by decide +kernel⟩
theorem gE_run {S : jS} {y : Int32} : ∀ E, gRun S y = some E → E = jISE ∨ E = jIOB := by
  intro E h; unfold gRun at h; split at h
  · split at h
    · cases h
    · exact Or.inl (Option.some.inj h).symm
  · exact Or.inr (Option.some.inj h).symm
theorem gE_call {S : jS} {r k : Int32} : ∀ E, gCall S r k = some E → E = jISE ∨ E = jIOB := by
  intro E h; unfold gCall at h; split at h
  · split at h
    · exact Or.inl (Option.some.inj h).symm
    · cases h
  · exact Or.inr (Option.some.inj h).symm
theorem gE_back {S : jS} {r : Int32} : ∀ E, gBack S r = some E → E = jISE ∨ E = jIOB := by
  intro E h; unfold gBack at h; split at h
  · cases h
  · exact Or.inr (Option.some.inj h).symm
theorem gE_link {S : jS} : ∀ E, gLink S = some E → E = jISE ∨ E = jIOB := by
  intro E h; unfold gLink at h; split at h
  · exact Or.inl (Option.some.inj h).symm
  · cases h
abbrev aY (x : Int32) : Int32 := blw (x >>> (4 &&& 31)) 6
abbrev aR (x : Int32) : Int32 := blw (x >>> (3 &&& 31)) 4
abbrev aK (x : Int32) : Int32 := blw (x >>> (5 &&& 31)) 3
abbrev aZ (x : Int32) : Int32 := (1 : Int32) + blw (x >>> (6 &&& 31)) 20
abbrev aT (x : Int32) : Int32 := blw (x >>> (7 &&& 31)) 7 - 1
abbrev aO (x : Int32) : Int32 := blw (x >>> (4 &&& 31)) 3
abbrev aY2 (x : Int32) : Int32 := blw (x >>> (5 &&& 31)) 6
def ActRun (S S' : jS) (x : Int32) : Prop :=
  (gStack S' (mFF S) 0 = none) ∧
  (mSym (aY x) = true) ∧
  (mEnt S' (mFF S) 0 = tSymbol S' (aY x) 0) ∧
  (tMany S' 6 = tMany S 6 + 1)
theorem ActRun.g1 {S S' : jS} {x : Int32} (h : ActRun S S' x) : gStack S' (mFF S) 0 = none := h.1
theorem ActRun.g2 {S S' : jS} {x : Int32} (h : ActRun S S' x) : mSym (aY x) = true := h.2.1
theorem ActRun.e1 {S S' : jS} {x : Int32} (h : ActRun S S' x) : mEnt S' (mFF S) 0 = tSymbol S' (aY x) 0 := h.2.2.1
theorem ActRun.e2 {S S' : jS} {x : Int32} (h : ActRun S S' x) : tMany S' 6 = tMany S 6 + 1 := h.2.2.2
def ActCall (S' : jS) (r : Int32) : Prop :=
  (mWithin (mTop S' r) (S'.1 2) = true) ∧
  (¬ tPiece S' (mTop S' r) 6 ≤ 0) ∧
  (mSym (tPiece S' (mTop S' r) 1) = true) ∧
  (tSymbol S' (tPiece S' (mTop S' r) 1) 0 = mTop S' r)
theorem ActCall.g1 {S' : jS} {r : Int32} (h : ActCall S' r) : mWithin (mTop S' r) (S'.1 2) = true := h.1
theorem ActCall.e1 {S' : jS} {r : Int32} (h : ActCall S' r) : ¬ tPiece S' (mTop S' r) 6 ≤ 0 := h.2.1
theorem ActCall.g2 {S' : jS} {r : Int32} (h : ActCall S' r) : mSym (tPiece S' (mTop S' r) 1) = true := h.2.2.1
theorem ActCall.e2 {S' : jS} {r : Int32} (h : ActCall S' r) : tSymbol S' (tPiece S' (mTop S' r) 1) 0 = mTop S' r := h.2.2.2
def ActPatch (S S' : jS) (y r0 : Int32) : Prop :=
  (r0 = tMany S 7) ∧
  (mWithin (tMany S 7) (S'.1 18) = true) ∧
  (tPatch S' (tMany S 7) 1 = tMany S 1) ∧
  (tPatch S' (tMany S 7) 0 = y) ∧
  (mWithin (tMany S 1) (S'.1 2) = true) ∧
  (tPiece S' (tMany S 1) 0 = -1)
theorem ActPatch.e0 {S S' : jS} {y r0 : Int32} (h : ActPatch S S' y r0) : r0 = tMany S 7 := h.1
theorem ActPatch.g1 {S S' : jS} {y r0 : Int32} (h : ActPatch S S' y r0) : mWithin (tMany S 7) (S'.1 18) = true := h.2.1
theorem ActPatch.e1 {S S' : jS} {y r0 : Int32} (h : ActPatch S S' y r0) : tPatch S' (tMany S 7) 1 = tMany S 1 := h.2.2.1
theorem ActPatch.e2 {S S' : jS} {y r0 : Int32} (h : ActPatch S S' y r0) : tPatch S' (tMany S 7) 0 = y := h.2.2.2.1
theorem ActPatch.g2 {S S' : jS} {y r0 : Int32} (h : ActPatch S S' y r0) : mWithin (tMany S 1) (S'.1 2) = true := h.2.2.2.2.1
theorem ActPatch.e3 {S S' : jS} {y r0 : Int32} (h : ActPatch S S' y r0) : tPiece S' (tMany S 1) 0 = -1 := h.2.2.2.2.2
def ActLink (S : jS) : Prop :=
  (¬ (lnk S).1 3 ≤ 0 → tMany (lnk S) 4 = tMany S 4) ∧
  (¬ (lnk S).1 3 ≤ 0 → gFault (lnk S) ((lnk S).1 3 - 1) 0 = none) ∧
  (¬ (lnk S).1 3 ≤ 0 → ¬ tFault (dS1 (lnk S)) ((lnk S).1 3 - 1) 0 ≤ 0) ∧
  ((lnk S).1 3 ≤ 0 → tMany (lnk S) 9 = 1) ∧
  ((lnk S).1 3 ≤ 0 → tMany (lnk S) 7 = 0) ∧
  ((lnk S).1 3 ≤ 0 → tMany (lnk S) 5 = 0) ∧
  ((lnk S).1 3 ≤ 0 → tMany (lnk S) 6 = 0)
theorem ActLink.f1 {S : jS} (h : ActLink S) : ¬ (lnk S).1 3 ≤ 0 → tMany (lnk S) 4 = tMany S 4 := h.1
theorem ActLink.f2 {S : jS} (h : ActLink S) : ¬ (lnk S).1 3 ≤ 0 → gFault (lnk S) ((lnk S).1 3 - 1) 0 = none := h.2.1
theorem ActLink.f3 {S : jS} (h : ActLink S) : ¬ (lnk S).1 3 ≤ 0 → ¬ tFault (dS1 (lnk S)) ((lnk S).1 3 - 1) 0 ≤ 0 := h.2.2.1
theorem ActLink.l9 {S : jS} (h : ActLink S) : (lnk S).1 3 ≤ 0 → tMany (lnk S) 9 = 1 := h.2.2.2.1
theorem ActLink.l7 {S : jS} (h : ActLink S) : (lnk S).1 3 ≤ 0 → tMany (lnk S) 7 = 0 := h.2.2.2.2.1
theorem ActLink.l5 {S : jS} (h : ActLink S) : (lnk S).1 3 ≤ 0 → tMany (lnk S) 5 = 0 := h.2.2.2.2.2.1
theorem ActLink.l6 {S : jS} (h : ActLink S) : (lnk S).1 3 ≤ 0 → tMany (lnk S) 6 = 0 := h.2.2.2.2.2.2
/-- what act asks for, and what it leaves -/
def ActR (S : jS) (x : Int32) (Nx : jS → Prop) : Prop :=
  (Nx S) ∧
  ((blw x 14 = 0 ∨ blw x 14 = 1) → gRun S (aY x) = none → ActRun S (jRun S (aY x)) x ∧ Nx (jRun S (aY x))) ∧
  ((blw x 14 = 2 ∨ blw x 14 = 3 ∨ blw x 14 = 4) → gCall S (aR x) (aK x) = none → ActCall (jCall S (aR x) (aK x)) (aR x) ∧ Nx (jCall S (aR x) (aK x))) ∧
  ((blw x 14 = 5 ∨ blw x 14 = 6 ∨ blw x 14 = 7) → gBack S (aR x) = none → (mTop (jBack S (aR x)) (aR x) = -1 → tMany (jBack S (aR x)) 6 = tMany S 6 - 1) ∧ (¬ mTop (jBack S (aR x)) (aR x) = -1 → tMany (jBack S (aR x)) 6 = tMany S 6) ∧ Nx (jBack S (aR x))) ∧
  (∀ E, gPatch S (aY x) (aZ x) (aK x) (aT x) = some E → E = jISE ∨ E = jIOB) ∧
  ((blw x 14 = 8 ∨ blw x 14 = 9 ∨ blw x 14 = 10) → gPatch S (aY x) (aZ x) (aK x) (aT x) = none → ActPatch S (jPat S (aY x) (aZ x) (aK x) (aT x)) (aY x) ((pt2 S (aY x) (aZ x) (aT x)).1 18 + 1 - 1) ∧ Nx (jPat S (aY x) (aZ x) (aK x) (aT x))) ∧
  (mSym (aY x) = true) ∧
  (blw x 14 = 11 → ∀ b : Int32, b = 0 ∨ b = 1 → bI (decide (jg (jset S 0 (aY x) (bz b)) 0 (aY x) = 1)) = b ∧ Nx (jset (jset S 0 (aY x) (bz b)) 0 (aY x) (bz b))) ∧
  (∀ E, gPiece S (aO x) (aY2 x) (aZ x) 1 = some E → E = jISE ∨ E = jIOB) ∧
  (blw x 14 = 12 → gPiece S (aO x) (aY2 x) (aZ x) 1 = none → S.1 2 + 1 - 1 = tMany (addPc S (aO x) (aY2 x) (aZ x) (bn 1)) 1 - 1 ∧ Nx (addPc S (aO x) (aY2 x) (aZ x) (bn 1))) ∧
  (¬ (blw x 14 = 0 ∨ blw x 14 = 1 ∨ blw x 14 = 2 ∨ blw x 14 = 3 ∨ blw x 14 = 4 ∨ blw x 14 = 5 ∨ blw x 14 = 6 ∨ blw x 14 = 7 ∨ blw x 14 = 8 ∨ blw x 14 = 9 ∨ blw x 14 = 10 ∨ blw x 14 = 11 ∨ blw x 14 = 12) → gLink S = none → ActLink S ∧ (¬ (lnk S).1 3 ≤ 0 → Nx (dS1 (lnk S))) ∧ ((lnk S).1 3 ≤ 0 → Nx (lnk S)))
theorem ActR.n0 {S : jS} {x : Int32} {Nx : jS → Prop} (h : ActR S x Nx) : Nx S := h.1
theorem ActR.run {S : jS} {x : Int32} {Nx : jS → Prop} (h : ActR S x Nx) : (blw x 14 = 0 ∨ blw x 14 = 1) → gRun S (aY x) = none → ActRun S (jRun S (aY x)) x ∧ Nx (jRun S (aY x)) := h.2.1
theorem ActR.call {S : jS} {x : Int32} {Nx : jS → Prop} (h : ActR S x Nx) : (blw x 14 = 2 ∨ blw x 14 = 3 ∨ blw x 14 = 4) → gCall S (aR x) (aK x) = none → ActCall (jCall S (aR x) (aK x)) (aR x) ∧ Nx (jCall S (aR x) (aK x)) := h.2.2.1
theorem ActR.back {S : jS} {x : Int32} {Nx : jS → Prop} (h : ActR S x Nx) : (blw x 14 = 5 ∨ blw x 14 = 6 ∨ blw x 14 = 7) → gBack S (aR x) = none → (mTop (jBack S (aR x)) (aR x) = -1 → tMany (jBack S (aR x)) 6 = tMany S 6 - 1) ∧ (¬ mTop (jBack S (aR x)) (aR x) = -1 → tMany (jBack S (aR x)) 6 = tMany S 6) ∧ Nx (jBack S (aR x)) := h.2.2.2.1
theorem ActR.patE {S : jS} {x : Int32} {Nx : jS → Prop} (h : ActR S x Nx) : ∀ E, gPatch S (aY x) (aZ x) (aK x) (aT x) = some E → E = jISE ∨ E = jIOB := h.2.2.2.2.1
theorem ActR.pat {S : jS} {x : Int32} {Nx : jS → Prop} (h : ActR S x Nx) : (blw x 14 = 8 ∨ blw x 14 = 9 ∨ blw x 14 = 10) → gPatch S (aY x) (aZ x) (aK x) (aT x) = none → ActPatch S (jPat S (aY x) (aZ x) (aK x) (aT x)) (aY x) ((pt2 S (aY x) (aZ x) (aT x)).1 18 + 1 - 1) ∧ Nx (jPat S (aY x) (aZ x) (aK x) (aT x)) := h.2.2.2.2.2.1
theorem ActR.gy {S : jS} {x : Int32} {Nx : jS → Prop} (h : ActR S x Nx) : mSym (aY x) = true := h.2.2.2.2.2.2.1
theorem ActR.gate {S : jS} {x : Int32} {Nx : jS → Prop} (h : ActR S x Nx) : blw x 14 = 11 → ∀ b : Int32, b = 0 ∨ b = 1 → bI (decide (jg (jset S 0 (aY x) (bz b)) 0 (aY x) = 1)) = b ∧ Nx (jset (jset S 0 (aY x) (bz b)) 0 (aY x) (bz b)) := h.2.2.2.2.2.2.2.1
theorem ActR.pceE {S : jS} {x : Int32} {Nx : jS → Prop} (h : ActR S x Nx) : ∀ E, gPiece S (aO x) (aY2 x) (aZ x) 1 = some E → E = jISE ∨ E = jIOB := h.2.2.2.2.2.2.2.2.1
theorem ActR.pce {S : jS} {x : Int32} {Nx : jS → Prop} (h : ActR S x Nx) : blw x 14 = 12 → gPiece S (aO x) (aY2 x) (aZ x) 1 = none → S.1 2 + 1 - 1 = tMany (addPc S (aO x) (aY2 x) (aZ x) (bn 1)) 1 - 1 ∧ Nx (addPc S (aO x) (aY2 x) (aZ x) (bn 1)) := h.2.2.2.2.2.2.2.2.2.1
theorem ActR.link {S : jS} {x : Int32} {Nx : jS → Prop} (h : ActR S x Nx) : ¬ (blw x 14 = 0 ∨ blw x 14 = 1 ∨ blw x 14 = 2 ∨ blw x 14 = 3 ∨ blw x 14 = 4 ∨ blw x 14 = 5 ∨ blw x 14 = 6 ∨ blw x 14 = 7 ∨ blw x 14 = 8 ∨ blw x 14 = 9 ∨ blw x 14 = 10 ∨ blw x 14 = 11 ∨ blw x 14 = 12) → gLink S = none → ActLink S ∧ (¬ (lnk S).1 3 ≤ 0 → Nx (dS1 (lnk S))) ∧ ((lnk S).1 3 ≤ 0 → Nx (lnk S)) := h.2.2.2.2.2.2.2.2.2.2
set_option maxHeartbeats 8000000 in
theorem c_L_act (l : Launch) (hl0 : l.stackTraces = false) (D : va_G) (cA : ClassId) (ob ro ar : Nat → Nat) (S : jS) (x : Int32) (Nx : jS → Prop) (H : ActR S x Nx) : jjConA l yL_act wsL_act 7 D cA [.ref (ob 0), .int x] (jW cA ob ro ar S) 14 84 (fun r0 w0 => r0 = some (.int 1) ∧ ∃ S', w0 = jW cA ob ro ar S' ∧ Nx S') := by
  refine jjConA_of (own := RL) (cc := cL_act) (nL := 11) (rt := (some .boolean)) [some (.ref (ob 0)), some (.int x), none, none, none, none, none, none, none, none, none] rfl (by decide +kernel) rfl (Nat.le_of_ble_eq_true rfl) rfl ?_
  refine jj_iload_n (pc := 0) 1 dL_act_0 rfl rfl ?_
  refine jj_iconst (pc := 1) (v := 4) dL_act_1 rfl ?_
  refine jj_ishr (pc := 2) dL_act_2 ?_
  refine jj_bipush (pc := 3) (v := 6) dL_act_3 rfl ?_
  refine jj_callSr (pc := 5) _ (c_L_below l D cA _ _ _ (by decide)) dL_act_5 gL_act_L_below jm_L_below (by decide) rfl rfl (Nat.le_of_ble_eq_true rfl) ⟨by show _ ≤ 14; omega, by show _ ≤ 84; omega⟩ ?_
  refine jj_istore_n_2 (pc := 8) dL_act_8 rfl rfl (by decide) ?_
  refine jj_iload_n (pc := 9) 1 dL_act_9 rfl rfl ?_
  refine jj_iconst (pc := 10) (v := 3) dL_act_10 rfl ?_
  refine jj_ishr (pc := 11) dL_act_11 ?_
  refine jj_iconst (pc := 12) (v := 4) dL_act_12 rfl ?_
  refine jj_callSr (pc := 13) _ (c_L_below l D cA _ _ _ (by decide)) dL_act_13 gL_act_L_below jm_L_below (by decide) rfl rfl (Nat.le_of_ble_eq_true rfl) ⟨by show _ ≤ 14; omega, by show _ ≤ 84; omega⟩ ?_
  refine jj_istore_n_3 (pc := 16) dL_act_16 rfl rfl (by decide) ?_
  refine jj_aload_n (pc := 17) 0 dL_act_17 rfl rfl ?_
  refine jj_bipush (pc := 18) (v := 6) dL_act_18 rfl ?_
  refine jj_callXr (pc := 20) _ (c_X7_many l hl0 D cA ob ro ar _ _) (g_many (by decide)) (fun _ _ _ _ h => h.1) dL_act_20 gL_act_X7_many jm_X7_many rfl (by decide) 0 jq_0 rfl rfl rfl (Nat.le_of_ble_eq_true rfl) ⟨by show _ ≤ 14; omega, by show _ ≤ 84; omega⟩ ?_
  refine jj_istore_4 (pc := 23) dL_act_23 rfl (by decide) ?_
  refine jj_iload_n (pc := 25) 1 dL_act_25 rfl rfl ?_
  refine jj_bipush (pc := 26) (v := 14) dL_act_26 rfl ?_
  refine jj_callSr (pc := 28) _ (c_L_below l D cA _ _ _ (by decide)) dL_act_28 gL_act_L_below jm_L_below (by decide) rfl rfl (Nat.le_of_ble_eq_true rfl) ⟨by show _ ≤ 14; omega, by show _ ≤ 84; omega⟩ ?_
  obtain ⟨w9, hbw⟩ : ∃ w9, w9 = blw x 14 := ⟨_, rfl⟩
  rw [← hbw]
  by_cases hw0 : w9 = 0
  · subst hw0
    have hcase : blw x 14 = 0 ∨ blw x 14 = 1 := Or.inl hbw.symm
    refine jj_tabIn (pc := 31) 96 dL_act_31 (by decide) (by decide) rfl (by decide) ?_
    refine jj_aload_n (pc := 96) 0 dL_act_96 rfl rfl ?_
    refine jj_aload_n (pc := 97) 0 dL_act_97 rfl rfl ?_
    refine jj_iload_n (pc := 98) 2 dL_act_98 rfl rfl ?_
    refine jj_callXc (pc := 99) _ 0 (c_X7_run l hl0 D cA ob ro ar _ _) gE_run (fun _ _ _ _ h => h) (by decide +kernel) (by decide +kernel) (by decide +kernel) dL_act_99 gL_act_X7_run jm_X7_run rfl (by decide) 0 jq_0 rfl rfl rfl (Nat.le_of_ble_eq_true rfl) ⟨by show _ ≤ 14; omega, by show _ ≤ 84; omega⟩ (fun _ q9 => ?_) (fun _ q9 => ?_) (fun hg9 => ?_)
    · refine jj_astore_5 (pc := 523) dL_act_523 rfl (by decide) ?_
      refine jj_aload_n (pc := 525) 0 dL_act_525 rfl rfl ?_
      refine jj_bipush (pc := 526) (v := 6) dL_act_526 rfl ?_
      refine jj_callXr (pc := 528) _ (c_X7_many l hl0 D cA ob ro ar _ _) (g_many (by decide)) (fun _ _ _ _ h => h.1) dL_act_528 gL_act_X7_many jm_X7_many rfl (by decide) 0 jq_0 rfl rfl rfl (Nat.le_of_ble_eq_true rfl) ⟨by show _ ≤ 14; omega, by show _ ≤ 84; omega⟩ ?_
      refine jj_iload (pc := 531) dL_act_531 rfl ?_
      refine jj_icmp_ne (pc := 533) 540 dL_act_533 (by decide) (fun h533 => ?_) (fun h533 => ?_)
      · exact absurd rfl h533
      · refine jj_iconst (pc := 536) (v := 1) dL_act_536 rfl ?_
        refine jj_goto (pc := 537) 541 dL_act_537 (by decide) ?_
        refine jj_widen (k' := 14) (n' := 84) (by omega) (by omega) ?_
        refine jj_zret (pc := 541) rfl dL_act_541 ?_
        exact ⟨rfl, S, rfl, H.n0⟩
    · refine jj_astore_5 (pc := 504) dL_act_504 rfl (by decide) ?_
      refine jj_aload_n (pc := 506) 0 dL_act_506 rfl rfl ?_
      refine jj_bipush (pc := 507) (v := 6) dL_act_507 rfl ?_
      refine jj_callXr (pc := 509) _ (c_X7_many l hl0 D cA ob ro ar _ _) (g_many (by decide)) (fun _ _ _ _ h => h.1) dL_act_509 gL_act_X7_many jm_X7_many rfl (by decide) 0 jq_0 rfl rfl rfl (Nat.le_of_ble_eq_true rfl) ⟨by show _ ≤ 14; omega, by show _ ≤ 84; omega⟩ ?_
      refine jj_iload (pc := 512) dL_act_512 rfl ?_
      refine jj_icmp_ne (pc := 514) 521 dL_act_514 (by decide) (fun h514 => ?_) (fun h514 => ?_)
      · exact absurd rfl h514
      · refine jj_iconst (pc := 517) (v := 1) dL_act_517 rfl ?_
        refine jj_goto (pc := 518) 522 dL_act_518 (by decide) ?_
        refine jj_widen (k' := 14) (n' := 84) (by omega) (by omega) ?_
        refine jj_zret (pc := 522) rfl dL_act_522 ?_
        exact ⟨rfl, S, rfl, H.n0⟩
    have F := H.run hcase hg9
    refine jj_iconst (pc := 102) (v := 0) dL_act_102 rfl ?_
    refine jj_callXr (pc := 103) _ (c_X7_stack l hl0 D cA ob ro ar _ _ _) F.1.g1 (fun _ _ _ _ h => h.1) dL_act_103 gL_act_X7_stack jm_X7_stack rfl (by decide) 0 jq_0 rfl rfl rfl (Nat.le_of_ble_eq_true rfl) ⟨by show _ ≤ 14; omega, by show _ ≤ 84; omega⟩ ?_
    refine jj_aload_n (pc := 106) 0 dL_act_106 rfl rfl ?_
    refine jj_iload_n (pc := 107) 2 dL_act_107 rfl rfl ?_
    refine jj_iconst (pc := 108) (v := 0) dL_act_108 rfl ?_
    refine jj_callXr (pc := 109) _ (c_X7_ofSymbol l hl0 D cA ob ro ar _ _ _) (g_ofSymbol F.1.g2 (by decide)) (fun _ _ _ _ h => h.1) dL_act_109 gL_act_X7_ofSymbol jm_X7_ofSymbol rfl (by decide) 0 jq_0 rfl rfl rfl (Nat.le_of_ble_eq_true rfl) ⟨by show _ ≤ 14; omega, by show _ ≤ 84; omega⟩ ?_
    refine jj_icmp_ne (pc := 112) 132 dL_act_112 (by decide) (fun h112 => ?_) (fun h112 => ?_)
    · exact absurd F.1.e1 h112
    · refine jj_aload_n (pc := 115) 0 dL_act_115 rfl rfl ?_
      refine jj_bipush (pc := 116) (v := 6) dL_act_116 rfl ?_
      refine jj_callXr (pc := 118) _ (c_X7_many l hl0 D cA ob ro ar _ _) (g_many (by decide)) (fun _ _ _ _ h => h.1) dL_act_118 gL_act_X7_many jm_X7_many rfl (by decide) 0 jq_0 rfl rfl rfl (Nat.le_of_ble_eq_true rfl) ⟨by show _ ≤ 14; omega, by show _ ≤ 84; omega⟩ ?_
      refine jj_iload (pc := 121) dL_act_121 rfl ?_
      refine jj_iconst (pc := 123) (v := 1) dL_act_123 rfl ?_
      refine jj_iadd (pc := 124) dL_act_124 ?_
      refine jj_icmp_ne (pc := 125) 132 dL_act_125 (by decide) (fun h125 => ?_) (fun h125 => ?_)
      · exact absurd F.1.e2 h125
      · refine jj_iconst (pc := 128) (v := 1) dL_act_128 rfl ?_
        refine jj_goto (pc := 129) 133 dL_act_129 (by decide) ?_
        refine jj_widen (k' := 14) (n' := 84) (by omega) (by omega) ?_
        refine jj_zret (pc := 133) rfl dL_act_133 ?_
        exact ⟨rfl, _, rfl, F.2⟩
  · by_cases hw1 : w9 = 1
    · subst hw1
      have hcase : blw x 14 = 0 ∨ blw x 14 = 1 := Or.inr hbw.symm
      refine jj_tabIn (pc := 31) 96 dL_act_31 (by decide) (by decide) rfl (by decide) ?_
      refine jj_aload_n (pc := 96) 0 dL_act_96 rfl rfl ?_
      refine jj_aload_n (pc := 97) 0 dL_act_97 rfl rfl ?_
      refine jj_iload_n (pc := 98) 2 dL_act_98 rfl rfl ?_
      refine jj_callXc (pc := 99) _ 0 (c_X7_run l hl0 D cA ob ro ar _ _) gE_run (fun _ _ _ _ h => h) (by decide +kernel) (by decide +kernel) (by decide +kernel) dL_act_99 gL_act_X7_run jm_X7_run rfl (by decide) 0 jq_0 rfl rfl rfl (Nat.le_of_ble_eq_true rfl) ⟨by show _ ≤ 14; omega, by show _ ≤ 84; omega⟩ (fun _ q9 => ?_) (fun _ q9 => ?_) (fun hg9 => ?_)
      · refine jj_astore_5 (pc := 523) dL_act_523 rfl (by decide) ?_
        refine jj_aload_n (pc := 525) 0 dL_act_525 rfl rfl ?_
        refine jj_bipush (pc := 526) (v := 6) dL_act_526 rfl ?_
        refine jj_callXr (pc := 528) _ (c_X7_many l hl0 D cA ob ro ar _ _) (g_many (by decide)) (fun _ _ _ _ h => h.1) dL_act_528 gL_act_X7_many jm_X7_many rfl (by decide) 0 jq_0 rfl rfl rfl (Nat.le_of_ble_eq_true rfl) ⟨by show _ ≤ 14; omega, by show _ ≤ 84; omega⟩ ?_
        refine jj_iload (pc := 531) dL_act_531 rfl ?_
        refine jj_icmp_ne (pc := 533) 540 dL_act_533 (by decide) (fun h533 => ?_) (fun h533 => ?_)
        · exact absurd rfl h533
        · refine jj_iconst (pc := 536) (v := 1) dL_act_536 rfl ?_
          refine jj_goto (pc := 537) 541 dL_act_537 (by decide) ?_
          refine jj_widen (k' := 14) (n' := 84) (by omega) (by omega) ?_
          refine jj_zret (pc := 541) rfl dL_act_541 ?_
          exact ⟨rfl, S, rfl, H.n0⟩
      · refine jj_astore_5 (pc := 504) dL_act_504 rfl (by decide) ?_
        refine jj_aload_n (pc := 506) 0 dL_act_506 rfl rfl ?_
        refine jj_bipush (pc := 507) (v := 6) dL_act_507 rfl ?_
        refine jj_callXr (pc := 509) _ (c_X7_many l hl0 D cA ob ro ar _ _) (g_many (by decide)) (fun _ _ _ _ h => h.1) dL_act_509 gL_act_X7_many jm_X7_many rfl (by decide) 0 jq_0 rfl rfl rfl (Nat.le_of_ble_eq_true rfl) ⟨by show _ ≤ 14; omega, by show _ ≤ 84; omega⟩ ?_
        refine jj_iload (pc := 512) dL_act_512 rfl ?_
        refine jj_icmp_ne (pc := 514) 521 dL_act_514 (by decide) (fun h514 => ?_) (fun h514 => ?_)
        · exact absurd rfl h514
        · refine jj_iconst (pc := 517) (v := 1) dL_act_517 rfl ?_
          refine jj_goto (pc := 518) 522 dL_act_518 (by decide) ?_
          refine jj_widen (k' := 14) (n' := 84) (by omega) (by omega) ?_
          refine jj_zret (pc := 522) rfl dL_act_522 ?_
          exact ⟨rfl, S, rfl, H.n0⟩
      have F := H.run hcase hg9
      refine jj_iconst (pc := 102) (v := 0) dL_act_102 rfl ?_
      refine jj_callXr (pc := 103) _ (c_X7_stack l hl0 D cA ob ro ar _ _ _) F.1.g1 (fun _ _ _ _ h => h.1) dL_act_103 gL_act_X7_stack jm_X7_stack rfl (by decide) 0 jq_0 rfl rfl rfl (Nat.le_of_ble_eq_true rfl) ⟨by show _ ≤ 14; omega, by show _ ≤ 84; omega⟩ ?_
      refine jj_aload_n (pc := 106) 0 dL_act_106 rfl rfl ?_
      refine jj_iload_n (pc := 107) 2 dL_act_107 rfl rfl ?_
      refine jj_iconst (pc := 108) (v := 0) dL_act_108 rfl ?_
      refine jj_callXr (pc := 109) _ (c_X7_ofSymbol l hl0 D cA ob ro ar _ _ _) (g_ofSymbol F.1.g2 (by decide)) (fun _ _ _ _ h => h.1) dL_act_109 gL_act_X7_ofSymbol jm_X7_ofSymbol rfl (by decide) 0 jq_0 rfl rfl rfl (Nat.le_of_ble_eq_true rfl) ⟨by show _ ≤ 14; omega, by show _ ≤ 84; omega⟩ ?_
      refine jj_icmp_ne (pc := 112) 132 dL_act_112 (by decide) (fun h112 => ?_) (fun h112 => ?_)
      · exact absurd F.1.e1 h112
      · refine jj_aload_n (pc := 115) 0 dL_act_115 rfl rfl ?_
        refine jj_bipush (pc := 116) (v := 6) dL_act_116 rfl ?_
        refine jj_callXr (pc := 118) _ (c_X7_many l hl0 D cA ob ro ar _ _) (g_many (by decide)) (fun _ _ _ _ h => h.1) dL_act_118 gL_act_X7_many jm_X7_many rfl (by decide) 0 jq_0 rfl rfl rfl (Nat.le_of_ble_eq_true rfl) ⟨by show _ ≤ 14; omega, by show _ ≤ 84; omega⟩ ?_
        refine jj_iload (pc := 121) dL_act_121 rfl ?_
        refine jj_iconst (pc := 123) (v := 1) dL_act_123 rfl ?_
        refine jj_iadd (pc := 124) dL_act_124 ?_
        refine jj_icmp_ne (pc := 125) 132 dL_act_125 (by decide) (fun h125 => ?_) (fun h125 => ?_)
        · exact absurd F.1.e2 h125
        · refine jj_iconst (pc := 128) (v := 1) dL_act_128 rfl ?_
          refine jj_goto (pc := 129) 133 dL_act_129 (by decide) ?_
          refine jj_widen (k' := 14) (n' := 84) (by omega) (by omega) ?_
          refine jj_zret (pc := 133) rfl dL_act_133 ?_
          exact ⟨rfl, _, rfl, F.2⟩
    · by_cases hw2 : w9 = 2
      · subst hw2
        have hcase : blw x 14 = 2 ∨ blw x 14 = 3 ∨ blw x 14 = 4 := Or.inl hbw.symm
        refine jj_tabIn (pc := 31) 134 dL_act_31 (by decide) (by decide) rfl (by decide) ?_
        refine jj_aload_n (pc := 134) 0 dL_act_134 rfl rfl ?_
        refine jj_iload_n (pc := 135) 3 dL_act_135 rfl rfl ?_
        refine jj_iload_n (pc := 136) 1 dL_act_136 rfl rfl ?_
        refine jj_iconst (pc := 137) (v := 5) dL_act_137 rfl ?_
        refine jj_ishr (pc := 138) dL_act_138 ?_
        refine jj_iconst (pc := 139) (v := 3) dL_act_139 rfl ?_
        refine jj_callSr (pc := 140) _ (c_L_below l D cA _ _ _ (by decide)) dL_act_140 gL_act_L_below jm_L_below (by decide) rfl rfl (Nat.le_of_ble_eq_true rfl) ⟨by show _ ≤ 14; omega, by show _ ≤ 84; omega⟩ ?_
        refine jj_callXc (pc := 143) _ 1 (c_X7_call l hl0 D cA ob ro ar _ _ _) gE_call (fun _ _ _ _ h => h) (by decide +kernel) (by decide +kernel) (by decide +kernel) dL_act_143 gL_act_X7_call jm_X7_call rfl (by decide) 0 jq_0 rfl rfl rfl (Nat.le_of_ble_eq_true rfl) ⟨by show _ ≤ 14; omega, by show _ ≤ 84; omega⟩ (fun _ q9 => ?_) (fun _ q9 => ?_) (fun hg9 => ?_)
        · refine jj_astore_5 (pc := 523) dL_act_523 rfl (by decide) ?_
          refine jj_aload_n (pc := 525) 0 dL_act_525 rfl rfl ?_
          refine jj_bipush (pc := 526) (v := 6) dL_act_526 rfl ?_
          refine jj_callXr (pc := 528) _ (c_X7_many l hl0 D cA ob ro ar _ _) (g_many (by decide)) (fun _ _ _ _ h => h.1) dL_act_528 gL_act_X7_many jm_X7_many rfl (by decide) 0 jq_0 rfl rfl rfl (Nat.le_of_ble_eq_true rfl) ⟨by show _ ≤ 14; omega, by show _ ≤ 84; omega⟩ ?_
          refine jj_iload (pc := 531) dL_act_531 rfl ?_
          refine jj_icmp_ne (pc := 533) 540 dL_act_533 (by decide) (fun h533 => ?_) (fun h533 => ?_)
          · exact absurd rfl h533
          · refine jj_iconst (pc := 536) (v := 1) dL_act_536 rfl ?_
            refine jj_goto (pc := 537) 541 dL_act_537 (by decide) ?_
            refine jj_widen (k' := 14) (n' := 84) (by omega) (by omega) ?_
            refine jj_zret (pc := 541) rfl dL_act_541 ?_
            exact ⟨rfl, S, rfl, H.n0⟩
        · refine jj_astore_5 (pc := 504) dL_act_504 rfl (by decide) ?_
          refine jj_aload_n (pc := 506) 0 dL_act_506 rfl rfl ?_
          refine jj_bipush (pc := 507) (v := 6) dL_act_507 rfl ?_
          refine jj_callXr (pc := 509) _ (c_X7_many l hl0 D cA ob ro ar _ _) (g_many (by decide)) (fun _ _ _ _ h => h.1) dL_act_509 gL_act_X7_many jm_X7_many rfl (by decide) 0 jq_0 rfl rfl rfl (Nat.le_of_ble_eq_true rfl) ⟨by show _ ≤ 14; omega, by show _ ≤ 84; omega⟩ ?_
          refine jj_iload (pc := 512) dL_act_512 rfl ?_
          refine jj_icmp_ne (pc := 514) 521 dL_act_514 (by decide) (fun h514 => ?_) (fun h514 => ?_)
          · exact absurd rfl h514
          · refine jj_iconst (pc := 517) (v := 1) dL_act_517 rfl ?_
            refine jj_goto (pc := 518) 522 dL_act_518 (by decide) ?_
            refine jj_widen (k' := 14) (n' := 84) (by omega) (by omega) ?_
            refine jj_zret (pc := 522) rfl dL_act_522 ?_
            exact ⟨rfl, S, rfl, H.n0⟩
        have F := H.call hcase hg9
        refine jj_istore_5 (pc := 146) dL_act_146 rfl (by decide) ?_
        refine jj_aload_n (pc := 148) 0 dL_act_148 rfl rfl ?_
        refine jj_iload (pc := 149) dL_act_149 rfl ?_
        refine jj_bipush (pc := 151) (v := 6) dL_act_151 rfl ?_
        refine jj_callXr (pc := 153) _ (c_X7_ofPiece l hl0 D cA ob ro ar _ _ _) (g_ofPiece F.1.g1 (by decide)) (fun _ _ _ _ h => h.1) dL_act_153 gL_act_X7_ofPiece jm_X7_ofPiece rfl (by decide) 0 jq_0 rfl rfl rfl (Nat.le_of_ble_eq_true rfl) ⟨by show _ ≤ 14; omega, by show _ ≤ 84; omega⟩ ?_
        refine jj_if_le (pc := 156) 180 dL_act_156 (by decide) (fun h156 => ?_) (fun h156 => ?_)
        · exact absurd h156 F.1.e1
        · refine jj_aload_n (pc := 159) 0 dL_act_159 rfl rfl ?_
          refine jj_aload_n (pc := 160) 0 dL_act_160 rfl rfl ?_
          refine jj_iload (pc := 161) dL_act_161 rfl ?_
          refine jj_iconst (pc := 163) (v := 1) dL_act_163 rfl ?_
          refine jj_callXr (pc := 164) _ (c_X7_ofPiece l hl0 D cA ob ro ar _ _ _) (g_ofPiece F.1.g1 (by decide)) (fun _ _ _ _ h => h.1) dL_act_164 gL_act_X7_ofPiece jm_X7_ofPiece rfl (by decide) 0 jq_0 rfl rfl rfl (Nat.le_of_ble_eq_true rfl) ⟨by show _ ≤ 14; omega, by show _ ≤ 84; omega⟩ ?_
          refine jj_iconst (pc := 167) (v := 0) dL_act_167 rfl ?_
          refine jj_callXr (pc := 168) _ (c_X7_ofSymbol l hl0 D cA ob ro ar _ _ _) (g_ofSymbol F.1.g2 (by decide)) (fun _ _ _ _ h => h.1) dL_act_168 gL_act_X7_ofSymbol jm_X7_ofSymbol rfl (by decide) 0 jq_0 rfl rfl rfl (Nat.le_of_ble_eq_true rfl) ⟨by show _ ≤ 14; omega, by show _ ≤ 84; omega⟩ ?_
          refine jj_iload (pc := 171) dL_act_171 rfl ?_
          refine jj_icmp_ne (pc := 173) 180 dL_act_173 (by decide) (fun h173 => ?_) (fun h173 => ?_)
          · exact absurd F.1.e2 h173
          · refine jj_iconst (pc := 176) (v := 1) dL_act_176 rfl ?_
            refine jj_goto (pc := 177) 181 dL_act_177 (by decide) ?_
            refine jj_widen (k' := 14) (n' := 84) (by omega) (by omega) ?_
            refine jj_zret (pc := 181) rfl dL_act_181 ?_
            exact ⟨rfl, _, rfl, F.2⟩
      · by_cases hw3 : w9 = 3
        · subst hw3
          have hcase : blw x 14 = 2 ∨ blw x 14 = 3 ∨ blw x 14 = 4 := Or.inr (Or.inl hbw.symm)
          refine jj_tabIn (pc := 31) 134 dL_act_31 (by decide) (by decide) rfl (by decide) ?_
          refine jj_aload_n (pc := 134) 0 dL_act_134 rfl rfl ?_
          refine jj_iload_n (pc := 135) 3 dL_act_135 rfl rfl ?_
          refine jj_iload_n (pc := 136) 1 dL_act_136 rfl rfl ?_
          refine jj_iconst (pc := 137) (v := 5) dL_act_137 rfl ?_
          refine jj_ishr (pc := 138) dL_act_138 ?_
          refine jj_iconst (pc := 139) (v := 3) dL_act_139 rfl ?_
          refine jj_callSr (pc := 140) _ (c_L_below l D cA _ _ _ (by decide)) dL_act_140 gL_act_L_below jm_L_below (by decide) rfl rfl (Nat.le_of_ble_eq_true rfl) ⟨by show _ ≤ 14; omega, by show _ ≤ 84; omega⟩ ?_
          refine jj_callXc (pc := 143) _ 1 (c_X7_call l hl0 D cA ob ro ar _ _ _) gE_call (fun _ _ _ _ h => h) (by decide +kernel) (by decide +kernel) (by decide +kernel) dL_act_143 gL_act_X7_call jm_X7_call rfl (by decide) 0 jq_0 rfl rfl rfl (Nat.le_of_ble_eq_true rfl) ⟨by show _ ≤ 14; omega, by show _ ≤ 84; omega⟩ (fun _ q9 => ?_) (fun _ q9 => ?_) (fun hg9 => ?_)
          · refine jj_astore_5 (pc := 523) dL_act_523 rfl (by decide) ?_
            refine jj_aload_n (pc := 525) 0 dL_act_525 rfl rfl ?_
            refine jj_bipush (pc := 526) (v := 6) dL_act_526 rfl ?_
            refine jj_callXr (pc := 528) _ (c_X7_many l hl0 D cA ob ro ar _ _) (g_many (by decide)) (fun _ _ _ _ h => h.1) dL_act_528 gL_act_X7_many jm_X7_many rfl (by decide) 0 jq_0 rfl rfl rfl (Nat.le_of_ble_eq_true rfl) ⟨by show _ ≤ 14; omega, by show _ ≤ 84; omega⟩ ?_
            refine jj_iload (pc := 531) dL_act_531 rfl ?_
            refine jj_icmp_ne (pc := 533) 540 dL_act_533 (by decide) (fun h533 => ?_) (fun h533 => ?_)
            · exact absurd rfl h533
            · refine jj_iconst (pc := 536) (v := 1) dL_act_536 rfl ?_
              refine jj_goto (pc := 537) 541 dL_act_537 (by decide) ?_
              refine jj_widen (k' := 14) (n' := 84) (by omega) (by omega) ?_
              refine jj_zret (pc := 541) rfl dL_act_541 ?_
              exact ⟨rfl, S, rfl, H.n0⟩
          · refine jj_astore_5 (pc := 504) dL_act_504 rfl (by decide) ?_
            refine jj_aload_n (pc := 506) 0 dL_act_506 rfl rfl ?_
            refine jj_bipush (pc := 507) (v := 6) dL_act_507 rfl ?_
            refine jj_callXr (pc := 509) _ (c_X7_many l hl0 D cA ob ro ar _ _) (g_many (by decide)) (fun _ _ _ _ h => h.1) dL_act_509 gL_act_X7_many jm_X7_many rfl (by decide) 0 jq_0 rfl rfl rfl (Nat.le_of_ble_eq_true rfl) ⟨by show _ ≤ 14; omega, by show _ ≤ 84; omega⟩ ?_
            refine jj_iload (pc := 512) dL_act_512 rfl ?_
            refine jj_icmp_ne (pc := 514) 521 dL_act_514 (by decide) (fun h514 => ?_) (fun h514 => ?_)
            · exact absurd rfl h514
            · refine jj_iconst (pc := 517) (v := 1) dL_act_517 rfl ?_
              refine jj_goto (pc := 518) 522 dL_act_518 (by decide) ?_
              refine jj_widen (k' := 14) (n' := 84) (by omega) (by omega) ?_
              refine jj_zret (pc := 522) rfl dL_act_522 ?_
              exact ⟨rfl, S, rfl, H.n0⟩
          have F := H.call hcase hg9
          refine jj_istore_5 (pc := 146) dL_act_146 rfl (by decide) ?_
          refine jj_aload_n (pc := 148) 0 dL_act_148 rfl rfl ?_
          refine jj_iload (pc := 149) dL_act_149 rfl ?_
          refine jj_bipush (pc := 151) (v := 6) dL_act_151 rfl ?_
          refine jj_callXr (pc := 153) _ (c_X7_ofPiece l hl0 D cA ob ro ar _ _ _) (g_ofPiece F.1.g1 (by decide)) (fun _ _ _ _ h => h.1) dL_act_153 gL_act_X7_ofPiece jm_X7_ofPiece rfl (by decide) 0 jq_0 rfl rfl rfl (Nat.le_of_ble_eq_true rfl) ⟨by show _ ≤ 14; omega, by show _ ≤ 84; omega⟩ ?_
          refine jj_if_le (pc := 156) 180 dL_act_156 (by decide) (fun h156 => ?_) (fun h156 => ?_)
          · exact absurd h156 F.1.e1
          · refine jj_aload_n (pc := 159) 0 dL_act_159 rfl rfl ?_
            refine jj_aload_n (pc := 160) 0 dL_act_160 rfl rfl ?_
            refine jj_iload (pc := 161) dL_act_161 rfl ?_
            refine jj_iconst (pc := 163) (v := 1) dL_act_163 rfl ?_
            refine jj_callXr (pc := 164) _ (c_X7_ofPiece l hl0 D cA ob ro ar _ _ _) (g_ofPiece F.1.g1 (by decide)) (fun _ _ _ _ h => h.1) dL_act_164 gL_act_X7_ofPiece jm_X7_ofPiece rfl (by decide) 0 jq_0 rfl rfl rfl (Nat.le_of_ble_eq_true rfl) ⟨by show _ ≤ 14; omega, by show _ ≤ 84; omega⟩ ?_
            refine jj_iconst (pc := 167) (v := 0) dL_act_167 rfl ?_
            refine jj_callXr (pc := 168) _ (c_X7_ofSymbol l hl0 D cA ob ro ar _ _ _) (g_ofSymbol F.1.g2 (by decide)) (fun _ _ _ _ h => h.1) dL_act_168 gL_act_X7_ofSymbol jm_X7_ofSymbol rfl (by decide) 0 jq_0 rfl rfl rfl (Nat.le_of_ble_eq_true rfl) ⟨by show _ ≤ 14; omega, by show _ ≤ 84; omega⟩ ?_
            refine jj_iload (pc := 171) dL_act_171 rfl ?_
            refine jj_icmp_ne (pc := 173) 180 dL_act_173 (by decide) (fun h173 => ?_) (fun h173 => ?_)
            · exact absurd F.1.e2 h173
            · refine jj_iconst (pc := 176) (v := 1) dL_act_176 rfl ?_
              refine jj_goto (pc := 177) 181 dL_act_177 (by decide) ?_
              refine jj_widen (k' := 14) (n' := 84) (by omega) (by omega) ?_
              refine jj_zret (pc := 181) rfl dL_act_181 ?_
              exact ⟨rfl, _, rfl, F.2⟩
        · by_cases hw4 : w9 = 4
          · subst hw4
            have hcase : blw x 14 = 2 ∨ blw x 14 = 3 ∨ blw x 14 = 4 := Or.inr (Or.inr hbw.symm)
            refine jj_tabIn (pc := 31) 134 dL_act_31 (by decide) (by decide) rfl (by decide) ?_
            refine jj_aload_n (pc := 134) 0 dL_act_134 rfl rfl ?_
            refine jj_iload_n (pc := 135) 3 dL_act_135 rfl rfl ?_
            refine jj_iload_n (pc := 136) 1 dL_act_136 rfl rfl ?_
            refine jj_iconst (pc := 137) (v := 5) dL_act_137 rfl ?_
            refine jj_ishr (pc := 138) dL_act_138 ?_
            refine jj_iconst (pc := 139) (v := 3) dL_act_139 rfl ?_
            refine jj_callSr (pc := 140) _ (c_L_below l D cA _ _ _ (by decide)) dL_act_140 gL_act_L_below jm_L_below (by decide) rfl rfl (Nat.le_of_ble_eq_true rfl) ⟨by show _ ≤ 14; omega, by show _ ≤ 84; omega⟩ ?_
            refine jj_callXc (pc := 143) _ 1 (c_X7_call l hl0 D cA ob ro ar _ _ _) gE_call (fun _ _ _ _ h => h) (by decide +kernel) (by decide +kernel) (by decide +kernel) dL_act_143 gL_act_X7_call jm_X7_call rfl (by decide) 0 jq_0 rfl rfl rfl (Nat.le_of_ble_eq_true rfl) ⟨by show _ ≤ 14; omega, by show _ ≤ 84; omega⟩ (fun _ q9 => ?_) (fun _ q9 => ?_) (fun hg9 => ?_)
            · refine jj_astore_5 (pc := 523) dL_act_523 rfl (by decide) ?_
              refine jj_aload_n (pc := 525) 0 dL_act_525 rfl rfl ?_
              refine jj_bipush (pc := 526) (v := 6) dL_act_526 rfl ?_
              refine jj_callXr (pc := 528) _ (c_X7_many l hl0 D cA ob ro ar _ _) (g_many (by decide)) (fun _ _ _ _ h => h.1) dL_act_528 gL_act_X7_many jm_X7_many rfl (by decide) 0 jq_0 rfl rfl rfl (Nat.le_of_ble_eq_true rfl) ⟨by show _ ≤ 14; omega, by show _ ≤ 84; omega⟩ ?_
              refine jj_iload (pc := 531) dL_act_531 rfl ?_
              refine jj_icmp_ne (pc := 533) 540 dL_act_533 (by decide) (fun h533 => ?_) (fun h533 => ?_)
              · exact absurd rfl h533
              · refine jj_iconst (pc := 536) (v := 1) dL_act_536 rfl ?_
                refine jj_goto (pc := 537) 541 dL_act_537 (by decide) ?_
                refine jj_widen (k' := 14) (n' := 84) (by omega) (by omega) ?_
                refine jj_zret (pc := 541) rfl dL_act_541 ?_
                exact ⟨rfl, S, rfl, H.n0⟩
            · refine jj_astore_5 (pc := 504) dL_act_504 rfl (by decide) ?_
              refine jj_aload_n (pc := 506) 0 dL_act_506 rfl rfl ?_
              refine jj_bipush (pc := 507) (v := 6) dL_act_507 rfl ?_
              refine jj_callXr (pc := 509) _ (c_X7_many l hl0 D cA ob ro ar _ _) (g_many (by decide)) (fun _ _ _ _ h => h.1) dL_act_509 gL_act_X7_many jm_X7_many rfl (by decide) 0 jq_0 rfl rfl rfl (Nat.le_of_ble_eq_true rfl) ⟨by show _ ≤ 14; omega, by show _ ≤ 84; omega⟩ ?_
              refine jj_iload (pc := 512) dL_act_512 rfl ?_
              refine jj_icmp_ne (pc := 514) 521 dL_act_514 (by decide) (fun h514 => ?_) (fun h514 => ?_)
              · exact absurd rfl h514
              · refine jj_iconst (pc := 517) (v := 1) dL_act_517 rfl ?_
                refine jj_goto (pc := 518) 522 dL_act_518 (by decide) ?_
                refine jj_widen (k' := 14) (n' := 84) (by omega) (by omega) ?_
                refine jj_zret (pc := 522) rfl dL_act_522 ?_
                exact ⟨rfl, S, rfl, H.n0⟩
            have F := H.call hcase hg9
            refine jj_istore_5 (pc := 146) dL_act_146 rfl (by decide) ?_
            refine jj_aload_n (pc := 148) 0 dL_act_148 rfl rfl ?_
            refine jj_iload (pc := 149) dL_act_149 rfl ?_
            refine jj_bipush (pc := 151) (v := 6) dL_act_151 rfl ?_
            refine jj_callXr (pc := 153) _ (c_X7_ofPiece l hl0 D cA ob ro ar _ _ _) (g_ofPiece F.1.g1 (by decide)) (fun _ _ _ _ h => h.1) dL_act_153 gL_act_X7_ofPiece jm_X7_ofPiece rfl (by decide) 0 jq_0 rfl rfl rfl (Nat.le_of_ble_eq_true rfl) ⟨by show _ ≤ 14; omega, by show _ ≤ 84; omega⟩ ?_
            refine jj_if_le (pc := 156) 180 dL_act_156 (by decide) (fun h156 => ?_) (fun h156 => ?_)
            · exact absurd h156 F.1.e1
            · refine jj_aload_n (pc := 159) 0 dL_act_159 rfl rfl ?_
              refine jj_aload_n (pc := 160) 0 dL_act_160 rfl rfl ?_
              refine jj_iload (pc := 161) dL_act_161 rfl ?_
              refine jj_iconst (pc := 163) (v := 1) dL_act_163 rfl ?_
              refine jj_callXr (pc := 164) _ (c_X7_ofPiece l hl0 D cA ob ro ar _ _ _) (g_ofPiece F.1.g1 (by decide)) (fun _ _ _ _ h => h.1) dL_act_164 gL_act_X7_ofPiece jm_X7_ofPiece rfl (by decide) 0 jq_0 rfl rfl rfl (Nat.le_of_ble_eq_true rfl) ⟨by show _ ≤ 14; omega, by show _ ≤ 84; omega⟩ ?_
              refine jj_iconst (pc := 167) (v := 0) dL_act_167 rfl ?_
              refine jj_callXr (pc := 168) _ (c_X7_ofSymbol l hl0 D cA ob ro ar _ _ _) (g_ofSymbol F.1.g2 (by decide)) (fun _ _ _ _ h => h.1) dL_act_168 gL_act_X7_ofSymbol jm_X7_ofSymbol rfl (by decide) 0 jq_0 rfl rfl rfl (Nat.le_of_ble_eq_true rfl) ⟨by show _ ≤ 14; omega, by show _ ≤ 84; omega⟩ ?_
              refine jj_iload (pc := 171) dL_act_171 rfl ?_
              refine jj_icmp_ne (pc := 173) 180 dL_act_173 (by decide) (fun h173 => ?_) (fun h173 => ?_)
              · exact absurd F.1.e2 h173
              · refine jj_iconst (pc := 176) (v := 1) dL_act_176 rfl ?_
                refine jj_goto (pc := 177) 181 dL_act_177 (by decide) ?_
                refine jj_widen (k' := 14) (n' := 84) (by omega) (by omega) ?_
                refine jj_zret (pc := 181) rfl dL_act_181 ?_
                exact ⟨rfl, _, rfl, F.2⟩
          · by_cases hw5 : w9 = 5
            · subst hw5
              have hcase : blw x 14 = 5 ∨ blw x 14 = 6 ∨ blw x 14 = 7 := Or.inl hbw.symm
              refine jj_tabIn (pc := 31) 182 dL_act_31 (by decide) (by decide) rfl (by decide) ?_
              refine jj_aload_n (pc := 182) 0 dL_act_182 rfl rfl ?_
              refine jj_iload_n (pc := 183) 3 dL_act_183 rfl rfl ?_
              refine jj_callXc (pc := 184) _ 2 (c_X7_back l hl0 D cA ob ro ar _ _) gE_back (fun _ _ _ _ h => h) (by decide +kernel) (by decide +kernel) (by decide +kernel) dL_act_184 gL_act_X7_back jm_X7_back rfl (by decide) 0 jq_0 rfl rfl rfl (Nat.le_of_ble_eq_true rfl) ⟨by show _ ≤ 14; omega, by show _ ≤ 84; omega⟩ (fun _ q9 => ?_) (fun _ q9 => ?_) (fun hg9 => ?_)
              · refine jj_astore_5 (pc := 523) dL_act_523 rfl (by decide) ?_
                refine jj_aload_n (pc := 525) 0 dL_act_525 rfl rfl ?_
                refine jj_bipush (pc := 526) (v := 6) dL_act_526 rfl ?_
                refine jj_callXr (pc := 528) _ (c_X7_many l hl0 D cA ob ro ar _ _) (g_many (by decide)) (fun _ _ _ _ h => h.1) dL_act_528 gL_act_X7_many jm_X7_many rfl (by decide) 0 jq_0 rfl rfl rfl (Nat.le_of_ble_eq_true rfl) ⟨by show _ ≤ 14; omega, by show _ ≤ 84; omega⟩ ?_
                refine jj_iload (pc := 531) dL_act_531 rfl ?_
                refine jj_icmp_ne (pc := 533) 540 dL_act_533 (by decide) (fun h533 => ?_) (fun h533 => ?_)
                · exact absurd rfl h533
                · refine jj_iconst (pc := 536) (v := 1) dL_act_536 rfl ?_
                  refine jj_goto (pc := 537) 541 dL_act_537 (by decide) ?_
                  refine jj_widen (k' := 14) (n' := 84) (by omega) (by omega) ?_
                  refine jj_zret (pc := 541) rfl dL_act_541 ?_
                  exact ⟨rfl, S, rfl, H.n0⟩
              · refine jj_astore_5 (pc := 504) dL_act_504 rfl (by decide) ?_
                refine jj_aload_n (pc := 506) 0 dL_act_506 rfl rfl ?_
                refine jj_bipush (pc := 507) (v := 6) dL_act_507 rfl ?_
                refine jj_callXr (pc := 509) _ (c_X7_many l hl0 D cA ob ro ar _ _) (g_many (by decide)) (fun _ _ _ _ h => h.1) dL_act_509 gL_act_X7_many jm_X7_many rfl (by decide) 0 jq_0 rfl rfl rfl (Nat.le_of_ble_eq_true rfl) ⟨by show _ ≤ 14; omega, by show _ ≤ 84; omega⟩ ?_
                refine jj_iload (pc := 512) dL_act_512 rfl ?_
                refine jj_icmp_ne (pc := 514) 521 dL_act_514 (by decide) (fun h514 => ?_) (fun h514 => ?_)
                · exact absurd rfl h514
                · refine jj_iconst (pc := 517) (v := 1) dL_act_517 rfl ?_
                  refine jj_goto (pc := 518) 522 dL_act_518 (by decide) ?_
                  refine jj_widen (k' := 14) (n' := 84) (by omega) (by omega) ?_
                  refine jj_zret (pc := 522) rfl dL_act_522 ?_
                  exact ⟨rfl, S, rfl, H.n0⟩
              have F := H.back hcase hg9
              refine jj_iconst (pc := 187) (v := (-1)) dL_act_187 rfl ?_
              refine jj_icmp_ne (pc := 188) 212 dL_act_188 (by decide) (fun h188 => ?_) (fun h188 => ?_)
              · refine jj_aload_n (pc := 212) 0 dL_act_212 rfl rfl ?_
                refine jj_bipush (pc := 213) (v := 6) dL_act_213 rfl ?_
                refine jj_callXr (pc := 215) _ (c_X7_many l hl0 D cA ob ro ar _ _) (g_many (by decide)) (fun _ _ _ _ h => h.1) dL_act_215 gL_act_X7_many jm_X7_many rfl (by decide) 0 jq_0 rfl rfl rfl (Nat.le_of_ble_eq_true rfl) ⟨by show _ ≤ 14; omega, by show _ ≤ 84; omega⟩ ?_
                refine jj_iload (pc := 218) dL_act_218 rfl ?_
                refine jj_icmp_ne (pc := 220) 227 dL_act_220 (by decide) (fun h220 => ?_) (fun h220 => ?_)
                · exact absurd (F.2.1 h188) h220
                · refine jj_iconst (pc := 223) (v := 1) dL_act_223 rfl ?_
                  refine jj_goto (pc := 224) 228 dL_act_224 (by decide) ?_
                  refine jj_widen (k' := 14) (n' := 84) (by omega) (by omega) ?_
                  refine jj_zret (pc := 228) rfl dL_act_228 ?_
                  exact ⟨rfl, _, rfl, F.2.2⟩
              · refine jj_aload_n (pc := 191) 0 dL_act_191 rfl rfl ?_
                refine jj_bipush (pc := 192) (v := 6) dL_act_192 rfl ?_
                refine jj_callXr (pc := 194) _ (c_X7_many l hl0 D cA ob ro ar _ _) (g_many (by decide)) (fun _ _ _ _ h => h.1) dL_act_194 gL_act_X7_many jm_X7_many rfl (by decide) 0 jq_0 rfl rfl rfl (Nat.le_of_ble_eq_true rfl) ⟨by show _ ≤ 14; omega, by show _ ≤ 84; omega⟩ ?_
                refine jj_iload (pc := 197) dL_act_197 rfl ?_
                refine jj_iconst (pc := 199) (v := 1) dL_act_199 rfl ?_
                refine jj_isub (pc := 200) dL_act_200 ?_
                refine jj_icmp_ne (pc := 201) 208 dL_act_201 (by decide) (fun h201 => ?_) (fun h201 => ?_)
                · exact absurd (F.1 h188) h201
                · refine jj_iconst (pc := 204) (v := 1) dL_act_204 rfl ?_
                  refine jj_goto (pc := 205) 228 dL_act_205 (by decide) ?_
                  refine jj_widen (k' := 14) (n' := 84) (by omega) (by omega) ?_
                  refine jj_zret (pc := 228) rfl dL_act_228 ?_
                  exact ⟨rfl, _, rfl, F.2.2⟩
            · by_cases hw6 : w9 = 6
              · subst hw6
                have hcase : blw x 14 = 5 ∨ blw x 14 = 6 ∨ blw x 14 = 7 := Or.inr (Or.inl hbw.symm)
                refine jj_tabIn (pc := 31) 182 dL_act_31 (by decide) (by decide) rfl (by decide) ?_
                refine jj_aload_n (pc := 182) 0 dL_act_182 rfl rfl ?_
                refine jj_iload_n (pc := 183) 3 dL_act_183 rfl rfl ?_
                refine jj_callXc (pc := 184) _ 2 (c_X7_back l hl0 D cA ob ro ar _ _) gE_back (fun _ _ _ _ h => h) (by decide +kernel) (by decide +kernel) (by decide +kernel) dL_act_184 gL_act_X7_back jm_X7_back rfl (by decide) 0 jq_0 rfl rfl rfl (Nat.le_of_ble_eq_true rfl) ⟨by show _ ≤ 14; omega, by show _ ≤ 84; omega⟩ (fun _ q9 => ?_) (fun _ q9 => ?_) (fun hg9 => ?_)
                · refine jj_astore_5 (pc := 523) dL_act_523 rfl (by decide) ?_
                  refine jj_aload_n (pc := 525) 0 dL_act_525 rfl rfl ?_
                  refine jj_bipush (pc := 526) (v := 6) dL_act_526 rfl ?_
                  refine jj_callXr (pc := 528) _ (c_X7_many l hl0 D cA ob ro ar _ _) (g_many (by decide)) (fun _ _ _ _ h => h.1) dL_act_528 gL_act_X7_many jm_X7_many rfl (by decide) 0 jq_0 rfl rfl rfl (Nat.le_of_ble_eq_true rfl) ⟨by show _ ≤ 14; omega, by show _ ≤ 84; omega⟩ ?_
                  refine jj_iload (pc := 531) dL_act_531 rfl ?_
                  refine jj_icmp_ne (pc := 533) 540 dL_act_533 (by decide) (fun h533 => ?_) (fun h533 => ?_)
                  · exact absurd rfl h533
                  · refine jj_iconst (pc := 536) (v := 1) dL_act_536 rfl ?_
                    refine jj_goto (pc := 537) 541 dL_act_537 (by decide) ?_
                    refine jj_widen (k' := 14) (n' := 84) (by omega) (by omega) ?_
                    refine jj_zret (pc := 541) rfl dL_act_541 ?_
                    exact ⟨rfl, S, rfl, H.n0⟩
                · refine jj_astore_5 (pc := 504) dL_act_504 rfl (by decide) ?_
                  refine jj_aload_n (pc := 506) 0 dL_act_506 rfl rfl ?_
                  refine jj_bipush (pc := 507) (v := 6) dL_act_507 rfl ?_
                  refine jj_callXr (pc := 509) _ (c_X7_many l hl0 D cA ob ro ar _ _) (g_many (by decide)) (fun _ _ _ _ h => h.1) dL_act_509 gL_act_X7_many jm_X7_many rfl (by decide) 0 jq_0 rfl rfl rfl (Nat.le_of_ble_eq_true rfl) ⟨by show _ ≤ 14; omega, by show _ ≤ 84; omega⟩ ?_
                  refine jj_iload (pc := 512) dL_act_512 rfl ?_
                  refine jj_icmp_ne (pc := 514) 521 dL_act_514 (by decide) (fun h514 => ?_) (fun h514 => ?_)
                  · exact absurd rfl h514
                  · refine jj_iconst (pc := 517) (v := 1) dL_act_517 rfl ?_
                    refine jj_goto (pc := 518) 522 dL_act_518 (by decide) ?_
                    refine jj_widen (k' := 14) (n' := 84) (by omega) (by omega) ?_
                    refine jj_zret (pc := 522) rfl dL_act_522 ?_
                    exact ⟨rfl, S, rfl, H.n0⟩
                have F := H.back hcase hg9
                refine jj_iconst (pc := 187) (v := (-1)) dL_act_187 rfl ?_
                refine jj_icmp_ne (pc := 188) 212 dL_act_188 (by decide) (fun h188 => ?_) (fun h188 => ?_)
                · refine jj_aload_n (pc := 212) 0 dL_act_212 rfl rfl ?_
                  refine jj_bipush (pc := 213) (v := 6) dL_act_213 rfl ?_
                  refine jj_callXr (pc := 215) _ (c_X7_many l hl0 D cA ob ro ar _ _) (g_many (by decide)) (fun _ _ _ _ h => h.1) dL_act_215 gL_act_X7_many jm_X7_many rfl (by decide) 0 jq_0 rfl rfl rfl (Nat.le_of_ble_eq_true rfl) ⟨by show _ ≤ 14; omega, by show _ ≤ 84; omega⟩ ?_
                  refine jj_iload (pc := 218) dL_act_218 rfl ?_
                  refine jj_icmp_ne (pc := 220) 227 dL_act_220 (by decide) (fun h220 => ?_) (fun h220 => ?_)
                  · exact absurd (F.2.1 h188) h220
                  · refine jj_iconst (pc := 223) (v := 1) dL_act_223 rfl ?_
                    refine jj_goto (pc := 224) 228 dL_act_224 (by decide) ?_
                    refine jj_widen (k' := 14) (n' := 84) (by omega) (by omega) ?_
                    refine jj_zret (pc := 228) rfl dL_act_228 ?_
                    exact ⟨rfl, _, rfl, F.2.2⟩
                · refine jj_aload_n (pc := 191) 0 dL_act_191 rfl rfl ?_
                  refine jj_bipush (pc := 192) (v := 6) dL_act_192 rfl ?_
                  refine jj_callXr (pc := 194) _ (c_X7_many l hl0 D cA ob ro ar _ _) (g_many (by decide)) (fun _ _ _ _ h => h.1) dL_act_194 gL_act_X7_many jm_X7_many rfl (by decide) 0 jq_0 rfl rfl rfl (Nat.le_of_ble_eq_true rfl) ⟨by show _ ≤ 14; omega, by show _ ≤ 84; omega⟩ ?_
                  refine jj_iload (pc := 197) dL_act_197 rfl ?_
                  refine jj_iconst (pc := 199) (v := 1) dL_act_199 rfl ?_
                  refine jj_isub (pc := 200) dL_act_200 ?_
                  refine jj_icmp_ne (pc := 201) 208 dL_act_201 (by decide) (fun h201 => ?_) (fun h201 => ?_)
                  · exact absurd (F.1 h188) h201
                  · refine jj_iconst (pc := 204) (v := 1) dL_act_204 rfl ?_
                    refine jj_goto (pc := 205) 228 dL_act_205 (by decide) ?_
                    refine jj_widen (k' := 14) (n' := 84) (by omega) (by omega) ?_
                    refine jj_zret (pc := 228) rfl dL_act_228 ?_
                    exact ⟨rfl, _, rfl, F.2.2⟩
              · by_cases hw7 : w9 = 7
                · subst hw7
                  have hcase : blw x 14 = 5 ∨ blw x 14 = 6 ∨ blw x 14 = 7 := Or.inr (Or.inr hbw.symm)
                  refine jj_tabIn (pc := 31) 182 dL_act_31 (by decide) (by decide) rfl (by decide) ?_
                  refine jj_aload_n (pc := 182) 0 dL_act_182 rfl rfl ?_
                  refine jj_iload_n (pc := 183) 3 dL_act_183 rfl rfl ?_
                  refine jj_callXc (pc := 184) _ 2 (c_X7_back l hl0 D cA ob ro ar _ _) gE_back (fun _ _ _ _ h => h) (by decide +kernel) (by decide +kernel) (by decide +kernel) dL_act_184 gL_act_X7_back jm_X7_back rfl (by decide) 0 jq_0 rfl rfl rfl (Nat.le_of_ble_eq_true rfl) ⟨by show _ ≤ 14; omega, by show _ ≤ 84; omega⟩ (fun _ q9 => ?_) (fun _ q9 => ?_) (fun hg9 => ?_)
                  · refine jj_astore_5 (pc := 523) dL_act_523 rfl (by decide) ?_
                    refine jj_aload_n (pc := 525) 0 dL_act_525 rfl rfl ?_
                    refine jj_bipush (pc := 526) (v := 6) dL_act_526 rfl ?_
                    refine jj_callXr (pc := 528) _ (c_X7_many l hl0 D cA ob ro ar _ _) (g_many (by decide)) (fun _ _ _ _ h => h.1) dL_act_528 gL_act_X7_many jm_X7_many rfl (by decide) 0 jq_0 rfl rfl rfl (Nat.le_of_ble_eq_true rfl) ⟨by show _ ≤ 14; omega, by show _ ≤ 84; omega⟩ ?_
                    refine jj_iload (pc := 531) dL_act_531 rfl ?_
                    refine jj_icmp_ne (pc := 533) 540 dL_act_533 (by decide) (fun h533 => ?_) (fun h533 => ?_)
                    · exact absurd rfl h533
                    · refine jj_iconst (pc := 536) (v := 1) dL_act_536 rfl ?_
                      refine jj_goto (pc := 537) 541 dL_act_537 (by decide) ?_
                      refine jj_widen (k' := 14) (n' := 84) (by omega) (by omega) ?_
                      refine jj_zret (pc := 541) rfl dL_act_541 ?_
                      exact ⟨rfl, S, rfl, H.n0⟩
                  · refine jj_astore_5 (pc := 504) dL_act_504 rfl (by decide) ?_
                    refine jj_aload_n (pc := 506) 0 dL_act_506 rfl rfl ?_
                    refine jj_bipush (pc := 507) (v := 6) dL_act_507 rfl ?_
                    refine jj_callXr (pc := 509) _ (c_X7_many l hl0 D cA ob ro ar _ _) (g_many (by decide)) (fun _ _ _ _ h => h.1) dL_act_509 gL_act_X7_many jm_X7_many rfl (by decide) 0 jq_0 rfl rfl rfl (Nat.le_of_ble_eq_true rfl) ⟨by show _ ≤ 14; omega, by show _ ≤ 84; omega⟩ ?_
                    refine jj_iload (pc := 512) dL_act_512 rfl ?_
                    refine jj_icmp_ne (pc := 514) 521 dL_act_514 (by decide) (fun h514 => ?_) (fun h514 => ?_)
                    · exact absurd rfl h514
                    · refine jj_iconst (pc := 517) (v := 1) dL_act_517 rfl ?_
                      refine jj_goto (pc := 518) 522 dL_act_518 (by decide) ?_
                      refine jj_widen (k' := 14) (n' := 84) (by omega) (by omega) ?_
                      refine jj_zret (pc := 522) rfl dL_act_522 ?_
                      exact ⟨rfl, S, rfl, H.n0⟩
                  have F := H.back hcase hg9
                  refine jj_iconst (pc := 187) (v := (-1)) dL_act_187 rfl ?_
                  refine jj_icmp_ne (pc := 188) 212 dL_act_188 (by decide) (fun h188 => ?_) (fun h188 => ?_)
                  · refine jj_aload_n (pc := 212) 0 dL_act_212 rfl rfl ?_
                    refine jj_bipush (pc := 213) (v := 6) dL_act_213 rfl ?_
                    refine jj_callXr (pc := 215) _ (c_X7_many l hl0 D cA ob ro ar _ _) (g_many (by decide)) (fun _ _ _ _ h => h.1) dL_act_215 gL_act_X7_many jm_X7_many rfl (by decide) 0 jq_0 rfl rfl rfl (Nat.le_of_ble_eq_true rfl) ⟨by show _ ≤ 14; omega, by show _ ≤ 84; omega⟩ ?_
                    refine jj_iload (pc := 218) dL_act_218 rfl ?_
                    refine jj_icmp_ne (pc := 220) 227 dL_act_220 (by decide) (fun h220 => ?_) (fun h220 => ?_)
                    · exact absurd (F.2.1 h188) h220
                    · refine jj_iconst (pc := 223) (v := 1) dL_act_223 rfl ?_
                      refine jj_goto (pc := 224) 228 dL_act_224 (by decide) ?_
                      refine jj_widen (k' := 14) (n' := 84) (by omega) (by omega) ?_
                      refine jj_zret (pc := 228) rfl dL_act_228 ?_
                      exact ⟨rfl, _, rfl, F.2.2⟩
                  · refine jj_aload_n (pc := 191) 0 dL_act_191 rfl rfl ?_
                    refine jj_bipush (pc := 192) (v := 6) dL_act_192 rfl ?_
                    refine jj_callXr (pc := 194) _ (c_X7_many l hl0 D cA ob ro ar _ _) (g_many (by decide)) (fun _ _ _ _ h => h.1) dL_act_194 gL_act_X7_many jm_X7_many rfl (by decide) 0 jq_0 rfl rfl rfl (Nat.le_of_ble_eq_true rfl) ⟨by show _ ≤ 14; omega, by show _ ≤ 84; omega⟩ ?_
                    refine jj_iload (pc := 197) dL_act_197 rfl ?_
                    refine jj_iconst (pc := 199) (v := 1) dL_act_199 rfl ?_
                    refine jj_isub (pc := 200) dL_act_200 ?_
                    refine jj_icmp_ne (pc := 201) 208 dL_act_201 (by decide) (fun h201 => ?_) (fun h201 => ?_)
                    · exact absurd (F.1 h188) h201
                    · refine jj_iconst (pc := 204) (v := 1) dL_act_204 rfl ?_
                      refine jj_goto (pc := 205) 228 dL_act_205 (by decide) ?_
                      refine jj_widen (k' := 14) (n' := 84) (by omega) (by omega) ?_
                      refine jj_zret (pc := 228) rfl dL_act_228 ?_
                      exact ⟨rfl, _, rfl, F.2.2⟩
                · by_cases hw8 : w9 = 8
                  · subst hw8
                    have hcase : blw x 14 = 8 ∨ blw x 14 = 9 ∨ blw x 14 = 10 := Or.inl hbw.symm
                    refine jj_tabIn (pc := 31) 229 dL_act_31 (by decide) (by decide) rfl (by decide) ?_
                    refine jj_aload_n (pc := 229) 0 dL_act_229 rfl rfl ?_
                    refine jj_bipush (pc := 230) (v := 7) dL_act_230 rfl ?_
                    refine jj_callXr (pc := 232) _ (c_X7_many l hl0 D cA ob ro ar _ _) (g_many (by decide)) (fun _ _ _ _ h => h.1) dL_act_232 gL_act_X7_many jm_X7_many rfl (by decide) 0 jq_0 rfl rfl rfl (Nat.le_of_ble_eq_true rfl) ⟨by show _ ≤ 14; omega, by show _ ≤ 84; omega⟩ ?_
                    refine jj_istore_6 (pc := 235) dL_act_235 rfl (by decide) ?_
                    refine jj_aload_n (pc := 237) 0 dL_act_237 rfl rfl ?_
                    refine jj_iconst (pc := 238) (v := 1) dL_act_238 rfl ?_
                    refine jj_callXr (pc := 239) _ (c_X7_many l hl0 D cA ob ro ar _ _) (g_many (by decide)) (fun _ _ _ _ h => h.1) dL_act_239 gL_act_X7_many jm_X7_many rfl (by decide) 0 jq_0 rfl rfl rfl (Nat.le_of_ble_eq_true rfl) ⟨by show _ ≤ 14; omega, by show _ ≤ 84; omega⟩ ?_
                    refine jj_istore_7 (pc := 242) dL_act_242 rfl (by decide) ?_
                    refine jj_aload_n (pc := 244) 0 dL_act_244 rfl rfl ?_
                    refine jj_iload_n (pc := 245) 2 dL_act_245 rfl rfl ?_
                    refine jj_iconst (pc := 246) (v := 1) dL_act_246 rfl ?_
                    refine jj_iload_n (pc := 247) 1 dL_act_247 rfl rfl ?_
                    refine jj_bipush (pc := 248) (v := 6) dL_act_248 rfl ?_
                    refine jj_ishr (pc := 250) dL_act_250 ?_
                    refine jj_bipush (pc := 251) (v := 20) dL_act_251 rfl ?_
                    refine jj_callSr (pc := 253) _ (c_L_below l D cA _ _ _ (by decide)) dL_act_253 gL_act_L_below jm_L_below (by decide) rfl rfl (Nat.le_of_ble_eq_true rfl) ⟨by show _ ≤ 14; omega, by show _ ≤ 84; omega⟩ ?_
                    refine jj_iadd (pc := 256) dL_act_256 ?_
                    refine jj_iload_n (pc := 257) 1 dL_act_257 rfl rfl ?_
                    refine jj_iconst (pc := 258) (v := 5) dL_act_258 rfl ?_
                    refine jj_ishr (pc := 259) dL_act_259 ?_
                    refine jj_iconst (pc := 260) (v := 3) dL_act_260 rfl ?_
                    refine jj_callSr (pc := 261) _ (c_L_below l D cA _ _ _ (by decide)) dL_act_261 gL_act_L_below jm_L_below (by decide) rfl rfl (Nat.le_of_ble_eq_true rfl) ⟨by show _ ≤ 14; omega, by show _ ≤ 84; omega⟩ ?_
                    refine jj_iload_n (pc := 264) 1 dL_act_264 rfl rfl ?_
                    refine jj_bipush (pc := 265) (v := 7) dL_act_265 rfl ?_
                    refine jj_ishr (pc := 267) dL_act_267 ?_
                    refine jj_bipush (pc := 268) (v := 7) dL_act_268 rfl ?_
                    refine jj_callSr (pc := 270) _ (c_L_below l D cA _ _ _ (by decide)) dL_act_270 gL_act_L_below jm_L_below (by decide) rfl rfl (Nat.le_of_ble_eq_true rfl) ⟨by show _ ≤ 14; omega, by show _ ≤ 84; omega⟩ ?_
                    refine jj_iconst (pc := 273) (v := 1) dL_act_273 rfl ?_
                    refine jj_isub (pc := 274) dL_act_274 ?_
                    refine jj_callXc (pc := 275) _ 3 (c_X7_patch l hl0 D cA ob ro ar _ _ _ _ _) H.patE (fun _ _ _ _ h => h) (by decide +kernel) (by decide +kernel) (by decide +kernel) dL_act_275 gL_act_X7_patch jm_X7_patch rfl (by decide) 0 jq_0 rfl rfl rfl (Nat.le_of_ble_eq_true rfl) ⟨by show _ ≤ 14; omega, by show _ ≤ 84; omega⟩ (fun _ q9 => ?_) (fun _ q9 => ?_) (fun hg9 => ?_)
                    · refine jj_astore_5 (pc := 523) dL_act_523 rfl (by decide) ?_
                      refine jj_aload_n (pc := 525) 0 dL_act_525 rfl rfl ?_
                      refine jj_bipush (pc := 526) (v := 6) dL_act_526 rfl ?_
                      refine jj_callXr (pc := 528) _ (c_X7_many l hl0 D cA ob ro ar _ _) (g_many (by decide)) (fun _ _ _ _ h => h.1) dL_act_528 gL_act_X7_many jm_X7_many rfl (by decide) 0 jq_0 rfl rfl rfl (Nat.le_of_ble_eq_true rfl) ⟨by show _ ≤ 14; omega, by show _ ≤ 84; omega⟩ ?_
                      refine jj_iload (pc := 531) dL_act_531 rfl ?_
                      refine jj_icmp_ne (pc := 533) 540 dL_act_533 (by decide) (fun h533 => ?_) (fun h533 => ?_)
                      · exact absurd rfl h533
                      · refine jj_iconst (pc := 536) (v := 1) dL_act_536 rfl ?_
                        refine jj_goto (pc := 537) 541 dL_act_537 (by decide) ?_
                        refine jj_widen (k' := 14) (n' := 84) (by omega) (by omega) ?_
                        refine jj_zret (pc := 541) rfl dL_act_541 ?_
                        exact ⟨rfl, S, rfl, H.n0⟩
                    · refine jj_astore_5 (pc := 504) dL_act_504 rfl (by decide) ?_
                      refine jj_aload_n (pc := 506) 0 dL_act_506 rfl rfl ?_
                      refine jj_bipush (pc := 507) (v := 6) dL_act_507 rfl ?_
                      refine jj_callXr (pc := 509) _ (c_X7_many l hl0 D cA ob ro ar _ _) (g_many (by decide)) (fun _ _ _ _ h => h.1) dL_act_509 gL_act_X7_many jm_X7_many rfl (by decide) 0 jq_0 rfl rfl rfl (Nat.le_of_ble_eq_true rfl) ⟨by show _ ≤ 14; omega, by show _ ≤ 84; omega⟩ ?_
                      refine jj_iload (pc := 512) dL_act_512 rfl ?_
                      refine jj_icmp_ne (pc := 514) 521 dL_act_514 (by decide) (fun h514 => ?_) (fun h514 => ?_)
                      · exact absurd rfl h514
                      · refine jj_iconst (pc := 517) (v := 1) dL_act_517 rfl ?_
                        refine jj_goto (pc := 518) 522 dL_act_518 (by decide) ?_
                        refine jj_widen (k' := 14) (n' := 84) (by omega) (by omega) ?_
                        refine jj_zret (pc := 522) rfl dL_act_522 ?_
                        exact ⟨rfl, S, rfl, H.n0⟩
                    have F := H.pat hcase hg9
                    refine jj_iload (pc := 278) dL_act_278 rfl ?_
                    refine jj_icmp_ne (pc := 280) 321 dL_act_280 (by decide) (fun h280 => ?_) (fun h280 => ?_)
                    · exact absurd F.1.e0 h280
                    · refine jj_aload_n (pc := 283) 0 dL_act_283 rfl rfl ?_
                      refine jj_iload (pc := 284) dL_act_284 rfl ?_
                      refine jj_iconst (pc := 286) (v := 1) dL_act_286 rfl ?_
                      refine jj_callXr (pc := 287) _ (c_X7_ofPatch l hl0 D cA ob ro ar _ _ _) (g_ofPatch F.1.g1 (by decide)) (fun _ _ _ _ h => h.1) dL_act_287 gL_act_X7_ofPatch jm_X7_ofPatch rfl (by decide) 0 jq_0 rfl rfl rfl (Nat.le_of_ble_eq_true rfl) ⟨by show _ ≤ 14; omega, by show _ ≤ 84; omega⟩ ?_
                      refine jj_iload (pc := 290) dL_act_290 rfl ?_
                      refine jj_icmp_ne (pc := 292) 321 dL_act_292 (by decide) (fun h292 => ?_) (fun h292 => ?_)
                      · exact absurd F.1.e1 h292
                      · refine jj_aload_n (pc := 295) 0 dL_act_295 rfl rfl ?_
                        refine jj_iload (pc := 296) dL_act_296 rfl ?_
                        refine jj_iconst (pc := 298) (v := 0) dL_act_298 rfl ?_
                        refine jj_callXr (pc := 299) _ (c_X7_ofPatch l hl0 D cA ob ro ar _ _ _) (g_ofPatch F.1.g1 (by decide)) (fun _ _ _ _ h => h.1) dL_act_299 gL_act_X7_ofPatch jm_X7_ofPatch rfl (by decide) 0 jq_0 rfl rfl rfl (Nat.le_of_ble_eq_true rfl) ⟨by show _ ≤ 14; omega, by show _ ≤ 84; omega⟩ ?_
                        refine jj_iload_n (pc := 302) 2 dL_act_302 rfl rfl ?_
                        refine jj_icmp_ne (pc := 303) 321 dL_act_303 (by decide) (fun h303 => ?_) (fun h303 => ?_)
                        · exact absurd F.1.e2 h303
                        · refine jj_aload_n (pc := 306) 0 dL_act_306 rfl rfl ?_
                          refine jj_iload (pc := 307) dL_act_307 rfl ?_
                          refine jj_iconst (pc := 309) (v := 0) dL_act_309 rfl ?_
                          refine jj_callXr (pc := 310) _ (c_X7_ofPiece l hl0 D cA ob ro ar _ _ _) (g_ofPiece F.1.g2 (by decide)) (fun _ _ _ _ h => h.1) dL_act_310 gL_act_X7_ofPiece jm_X7_ofPiece rfl (by decide) 0 jq_0 rfl rfl rfl (Nat.le_of_ble_eq_true rfl) ⟨by show _ ≤ 14; omega, by show _ ≤ 84; omega⟩ ?_
                          refine jj_iconst (pc := 313) (v := (-1)) dL_act_313 rfl ?_
                          refine jj_icmp_ne (pc := 314) 321 dL_act_314 (by decide) (fun h314 => ?_) (fun h314 => ?_)
                          · exact absurd F.1.e3 h314
                          · refine jj_iconst (pc := 317) (v := 1) dL_act_317 rfl ?_
                            refine jj_goto (pc := 318) 322 dL_act_318 (by decide) ?_
                            refine jj_widen (k' := 14) (n' := 84) (by omega) (by omega) ?_
                            refine jj_zret (pc := 322) rfl dL_act_322 ?_
                            exact ⟨rfl, _, rfl, F.2⟩
                  · by_cases hw9 : w9 = 9
                    · subst hw9
                      have hcase : blw x 14 = 8 ∨ blw x 14 = 9 ∨ blw x 14 = 10 := Or.inr (Or.inl hbw.symm)
                      refine jj_tabIn (pc := 31) 229 dL_act_31 (by decide) (by decide) rfl (by decide) ?_
                      refine jj_aload_n (pc := 229) 0 dL_act_229 rfl rfl ?_
                      refine jj_bipush (pc := 230) (v := 7) dL_act_230 rfl ?_
                      refine jj_callXr (pc := 232) _ (c_X7_many l hl0 D cA ob ro ar _ _) (g_many (by decide)) (fun _ _ _ _ h => h.1) dL_act_232 gL_act_X7_many jm_X7_many rfl (by decide) 0 jq_0 rfl rfl rfl (Nat.le_of_ble_eq_true rfl) ⟨by show _ ≤ 14; omega, by show _ ≤ 84; omega⟩ ?_
                      refine jj_istore_6 (pc := 235) dL_act_235 rfl (by decide) ?_
                      refine jj_aload_n (pc := 237) 0 dL_act_237 rfl rfl ?_
                      refine jj_iconst (pc := 238) (v := 1) dL_act_238 rfl ?_
                      refine jj_callXr (pc := 239) _ (c_X7_many l hl0 D cA ob ro ar _ _) (g_many (by decide)) (fun _ _ _ _ h => h.1) dL_act_239 gL_act_X7_many jm_X7_many rfl (by decide) 0 jq_0 rfl rfl rfl (Nat.le_of_ble_eq_true rfl) ⟨by show _ ≤ 14; omega, by show _ ≤ 84; omega⟩ ?_
                      refine jj_istore_7 (pc := 242) dL_act_242 rfl (by decide) ?_
                      refine jj_aload_n (pc := 244) 0 dL_act_244 rfl rfl ?_
                      refine jj_iload_n (pc := 245) 2 dL_act_245 rfl rfl ?_
                      refine jj_iconst (pc := 246) (v := 1) dL_act_246 rfl ?_
                      refine jj_iload_n (pc := 247) 1 dL_act_247 rfl rfl ?_
                      refine jj_bipush (pc := 248) (v := 6) dL_act_248 rfl ?_
                      refine jj_ishr (pc := 250) dL_act_250 ?_
                      refine jj_bipush (pc := 251) (v := 20) dL_act_251 rfl ?_
                      refine jj_callSr (pc := 253) _ (c_L_below l D cA _ _ _ (by decide)) dL_act_253 gL_act_L_below jm_L_below (by decide) rfl rfl (Nat.le_of_ble_eq_true rfl) ⟨by show _ ≤ 14; omega, by show _ ≤ 84; omega⟩ ?_
                      refine jj_iadd (pc := 256) dL_act_256 ?_
                      refine jj_iload_n (pc := 257) 1 dL_act_257 rfl rfl ?_
                      refine jj_iconst (pc := 258) (v := 5) dL_act_258 rfl ?_
                      refine jj_ishr (pc := 259) dL_act_259 ?_
                      refine jj_iconst (pc := 260) (v := 3) dL_act_260 rfl ?_
                      refine jj_callSr (pc := 261) _ (c_L_below l D cA _ _ _ (by decide)) dL_act_261 gL_act_L_below jm_L_below (by decide) rfl rfl (Nat.le_of_ble_eq_true rfl) ⟨by show _ ≤ 14; omega, by show _ ≤ 84; omega⟩ ?_
                      refine jj_iload_n (pc := 264) 1 dL_act_264 rfl rfl ?_
                      refine jj_bipush (pc := 265) (v := 7) dL_act_265 rfl ?_
                      refine jj_ishr (pc := 267) dL_act_267 ?_
                      refine jj_bipush (pc := 268) (v := 7) dL_act_268 rfl ?_
                      refine jj_callSr (pc := 270) _ (c_L_below l D cA _ _ _ (by decide)) dL_act_270 gL_act_L_below jm_L_below (by decide) rfl rfl (Nat.le_of_ble_eq_true rfl) ⟨by show _ ≤ 14; omega, by show _ ≤ 84; omega⟩ ?_
                      refine jj_iconst (pc := 273) (v := 1) dL_act_273 rfl ?_
                      refine jj_isub (pc := 274) dL_act_274 ?_
                      refine jj_callXc (pc := 275) _ 3 (c_X7_patch l hl0 D cA ob ro ar _ _ _ _ _) H.patE (fun _ _ _ _ h => h) (by decide +kernel) (by decide +kernel) (by decide +kernel) dL_act_275 gL_act_X7_patch jm_X7_patch rfl (by decide) 0 jq_0 rfl rfl rfl (Nat.le_of_ble_eq_true rfl) ⟨by show _ ≤ 14; omega, by show _ ≤ 84; omega⟩ (fun _ q9 => ?_) (fun _ q9 => ?_) (fun hg9 => ?_)
                      · refine jj_astore_5 (pc := 523) dL_act_523 rfl (by decide) ?_
                        refine jj_aload_n (pc := 525) 0 dL_act_525 rfl rfl ?_
                        refine jj_bipush (pc := 526) (v := 6) dL_act_526 rfl ?_
                        refine jj_callXr (pc := 528) _ (c_X7_many l hl0 D cA ob ro ar _ _) (g_many (by decide)) (fun _ _ _ _ h => h.1) dL_act_528 gL_act_X7_many jm_X7_many rfl (by decide) 0 jq_0 rfl rfl rfl (Nat.le_of_ble_eq_true rfl) ⟨by show _ ≤ 14; omega, by show _ ≤ 84; omega⟩ ?_
                        refine jj_iload (pc := 531) dL_act_531 rfl ?_
                        refine jj_icmp_ne (pc := 533) 540 dL_act_533 (by decide) (fun h533 => ?_) (fun h533 => ?_)
                        · exact absurd rfl h533
                        · refine jj_iconst (pc := 536) (v := 1) dL_act_536 rfl ?_
                          refine jj_goto (pc := 537) 541 dL_act_537 (by decide) ?_
                          refine jj_widen (k' := 14) (n' := 84) (by omega) (by omega) ?_
                          refine jj_zret (pc := 541) rfl dL_act_541 ?_
                          exact ⟨rfl, S, rfl, H.n0⟩
                      · refine jj_astore_5 (pc := 504) dL_act_504 rfl (by decide) ?_
                        refine jj_aload_n (pc := 506) 0 dL_act_506 rfl rfl ?_
                        refine jj_bipush (pc := 507) (v := 6) dL_act_507 rfl ?_
                        refine jj_callXr (pc := 509) _ (c_X7_many l hl0 D cA ob ro ar _ _) (g_many (by decide)) (fun _ _ _ _ h => h.1) dL_act_509 gL_act_X7_many jm_X7_many rfl (by decide) 0 jq_0 rfl rfl rfl (Nat.le_of_ble_eq_true rfl) ⟨by show _ ≤ 14; omega, by show _ ≤ 84; omega⟩ ?_
                        refine jj_iload (pc := 512) dL_act_512 rfl ?_
                        refine jj_icmp_ne (pc := 514) 521 dL_act_514 (by decide) (fun h514 => ?_) (fun h514 => ?_)
                        · exact absurd rfl h514
                        · refine jj_iconst (pc := 517) (v := 1) dL_act_517 rfl ?_
                          refine jj_goto (pc := 518) 522 dL_act_518 (by decide) ?_
                          refine jj_widen (k' := 14) (n' := 84) (by omega) (by omega) ?_
                          refine jj_zret (pc := 522) rfl dL_act_522 ?_
                          exact ⟨rfl, S, rfl, H.n0⟩
                      have F := H.pat hcase hg9
                      refine jj_iload (pc := 278) dL_act_278 rfl ?_
                      refine jj_icmp_ne (pc := 280) 321 dL_act_280 (by decide) (fun h280 => ?_) (fun h280 => ?_)
                      · exact absurd F.1.e0 h280
                      · refine jj_aload_n (pc := 283) 0 dL_act_283 rfl rfl ?_
                        refine jj_iload (pc := 284) dL_act_284 rfl ?_
                        refine jj_iconst (pc := 286) (v := 1) dL_act_286 rfl ?_
                        refine jj_callXr (pc := 287) _ (c_X7_ofPatch l hl0 D cA ob ro ar _ _ _) (g_ofPatch F.1.g1 (by decide)) (fun _ _ _ _ h => h.1) dL_act_287 gL_act_X7_ofPatch jm_X7_ofPatch rfl (by decide) 0 jq_0 rfl rfl rfl (Nat.le_of_ble_eq_true rfl) ⟨by show _ ≤ 14; omega, by show _ ≤ 84; omega⟩ ?_
                        refine jj_iload (pc := 290) dL_act_290 rfl ?_
                        refine jj_icmp_ne (pc := 292) 321 dL_act_292 (by decide) (fun h292 => ?_) (fun h292 => ?_)
                        · exact absurd F.1.e1 h292
                        · refine jj_aload_n (pc := 295) 0 dL_act_295 rfl rfl ?_
                          refine jj_iload (pc := 296) dL_act_296 rfl ?_
                          refine jj_iconst (pc := 298) (v := 0) dL_act_298 rfl ?_
                          refine jj_callXr (pc := 299) _ (c_X7_ofPatch l hl0 D cA ob ro ar _ _ _) (g_ofPatch F.1.g1 (by decide)) (fun _ _ _ _ h => h.1) dL_act_299 gL_act_X7_ofPatch jm_X7_ofPatch rfl (by decide) 0 jq_0 rfl rfl rfl (Nat.le_of_ble_eq_true rfl) ⟨by show _ ≤ 14; omega, by show _ ≤ 84; omega⟩ ?_
                          refine jj_iload_n (pc := 302) 2 dL_act_302 rfl rfl ?_
                          refine jj_icmp_ne (pc := 303) 321 dL_act_303 (by decide) (fun h303 => ?_) (fun h303 => ?_)
                          · exact absurd F.1.e2 h303
                          · refine jj_aload_n (pc := 306) 0 dL_act_306 rfl rfl ?_
                            refine jj_iload (pc := 307) dL_act_307 rfl ?_
                            refine jj_iconst (pc := 309) (v := 0) dL_act_309 rfl ?_
                            refine jj_callXr (pc := 310) _ (c_X7_ofPiece l hl0 D cA ob ro ar _ _ _) (g_ofPiece F.1.g2 (by decide)) (fun _ _ _ _ h => h.1) dL_act_310 gL_act_X7_ofPiece jm_X7_ofPiece rfl (by decide) 0 jq_0 rfl rfl rfl (Nat.le_of_ble_eq_true rfl) ⟨by show _ ≤ 14; omega, by show _ ≤ 84; omega⟩ ?_
                            refine jj_iconst (pc := 313) (v := (-1)) dL_act_313 rfl ?_
                            refine jj_icmp_ne (pc := 314) 321 dL_act_314 (by decide) (fun h314 => ?_) (fun h314 => ?_)
                            · exact absurd F.1.e3 h314
                            · refine jj_iconst (pc := 317) (v := 1) dL_act_317 rfl ?_
                              refine jj_goto (pc := 318) 322 dL_act_318 (by decide) ?_
                              refine jj_widen (k' := 14) (n' := 84) (by omega) (by omega) ?_
                              refine jj_zret (pc := 322) rfl dL_act_322 ?_
                              exact ⟨rfl, _, rfl, F.2⟩
                    · by_cases hw10 : w9 = 10
                      · subst hw10
                        have hcase : blw x 14 = 8 ∨ blw x 14 = 9 ∨ blw x 14 = 10 := Or.inr (Or.inr hbw.symm)
                        refine jj_tabIn (pc := 31) 229 dL_act_31 (by decide) (by decide) rfl (by decide) ?_
                        refine jj_aload_n (pc := 229) 0 dL_act_229 rfl rfl ?_
                        refine jj_bipush (pc := 230) (v := 7) dL_act_230 rfl ?_
                        refine jj_callXr (pc := 232) _ (c_X7_many l hl0 D cA ob ro ar _ _) (g_many (by decide)) (fun _ _ _ _ h => h.1) dL_act_232 gL_act_X7_many jm_X7_many rfl (by decide) 0 jq_0 rfl rfl rfl (Nat.le_of_ble_eq_true rfl) ⟨by show _ ≤ 14; omega, by show _ ≤ 84; omega⟩ ?_
                        refine jj_istore_6 (pc := 235) dL_act_235 rfl (by decide) ?_
                        refine jj_aload_n (pc := 237) 0 dL_act_237 rfl rfl ?_
                        refine jj_iconst (pc := 238) (v := 1) dL_act_238 rfl ?_
                        refine jj_callXr (pc := 239) _ (c_X7_many l hl0 D cA ob ro ar _ _) (g_many (by decide)) (fun _ _ _ _ h => h.1) dL_act_239 gL_act_X7_many jm_X7_many rfl (by decide) 0 jq_0 rfl rfl rfl (Nat.le_of_ble_eq_true rfl) ⟨by show _ ≤ 14; omega, by show _ ≤ 84; omega⟩ ?_
                        refine jj_istore_7 (pc := 242) dL_act_242 rfl (by decide) ?_
                        refine jj_aload_n (pc := 244) 0 dL_act_244 rfl rfl ?_
                        refine jj_iload_n (pc := 245) 2 dL_act_245 rfl rfl ?_
                        refine jj_iconst (pc := 246) (v := 1) dL_act_246 rfl ?_
                        refine jj_iload_n (pc := 247) 1 dL_act_247 rfl rfl ?_
                        refine jj_bipush (pc := 248) (v := 6) dL_act_248 rfl ?_
                        refine jj_ishr (pc := 250) dL_act_250 ?_
                        refine jj_bipush (pc := 251) (v := 20) dL_act_251 rfl ?_
                        refine jj_callSr (pc := 253) _ (c_L_below l D cA _ _ _ (by decide)) dL_act_253 gL_act_L_below jm_L_below (by decide) rfl rfl (Nat.le_of_ble_eq_true rfl) ⟨by show _ ≤ 14; omega, by show _ ≤ 84; omega⟩ ?_
                        refine jj_iadd (pc := 256) dL_act_256 ?_
                        refine jj_iload_n (pc := 257) 1 dL_act_257 rfl rfl ?_
                        refine jj_iconst (pc := 258) (v := 5) dL_act_258 rfl ?_
                        refine jj_ishr (pc := 259) dL_act_259 ?_
                        refine jj_iconst (pc := 260) (v := 3) dL_act_260 rfl ?_
                        refine jj_callSr (pc := 261) _ (c_L_below l D cA _ _ _ (by decide)) dL_act_261 gL_act_L_below jm_L_below (by decide) rfl rfl (Nat.le_of_ble_eq_true rfl) ⟨by show _ ≤ 14; omega, by show _ ≤ 84; omega⟩ ?_
                        refine jj_iload_n (pc := 264) 1 dL_act_264 rfl rfl ?_
                        refine jj_bipush (pc := 265) (v := 7) dL_act_265 rfl ?_
                        refine jj_ishr (pc := 267) dL_act_267 ?_
                        refine jj_bipush (pc := 268) (v := 7) dL_act_268 rfl ?_
                        refine jj_callSr (pc := 270) _ (c_L_below l D cA _ _ _ (by decide)) dL_act_270 gL_act_L_below jm_L_below (by decide) rfl rfl (Nat.le_of_ble_eq_true rfl) ⟨by show _ ≤ 14; omega, by show _ ≤ 84; omega⟩ ?_
                        refine jj_iconst (pc := 273) (v := 1) dL_act_273 rfl ?_
                        refine jj_isub (pc := 274) dL_act_274 ?_
                        refine jj_callXc (pc := 275) _ 3 (c_X7_patch l hl0 D cA ob ro ar _ _ _ _ _) H.patE (fun _ _ _ _ h => h) (by decide +kernel) (by decide +kernel) (by decide +kernel) dL_act_275 gL_act_X7_patch jm_X7_patch rfl (by decide) 0 jq_0 rfl rfl rfl (Nat.le_of_ble_eq_true rfl) ⟨by show _ ≤ 14; omega, by show _ ≤ 84; omega⟩ (fun _ q9 => ?_) (fun _ q9 => ?_) (fun hg9 => ?_)
                        · refine jj_astore_5 (pc := 523) dL_act_523 rfl (by decide) ?_
                          refine jj_aload_n (pc := 525) 0 dL_act_525 rfl rfl ?_
                          refine jj_bipush (pc := 526) (v := 6) dL_act_526 rfl ?_
                          refine jj_callXr (pc := 528) _ (c_X7_many l hl0 D cA ob ro ar _ _) (g_many (by decide)) (fun _ _ _ _ h => h.1) dL_act_528 gL_act_X7_many jm_X7_many rfl (by decide) 0 jq_0 rfl rfl rfl (Nat.le_of_ble_eq_true rfl) ⟨by show _ ≤ 14; omega, by show _ ≤ 84; omega⟩ ?_
                          refine jj_iload (pc := 531) dL_act_531 rfl ?_
                          refine jj_icmp_ne (pc := 533) 540 dL_act_533 (by decide) (fun h533 => ?_) (fun h533 => ?_)
                          · exact absurd rfl h533
                          · refine jj_iconst (pc := 536) (v := 1) dL_act_536 rfl ?_
                            refine jj_goto (pc := 537) 541 dL_act_537 (by decide) ?_
                            refine jj_widen (k' := 14) (n' := 84) (by omega) (by omega) ?_
                            refine jj_zret (pc := 541) rfl dL_act_541 ?_
                            exact ⟨rfl, S, rfl, H.n0⟩
                        · refine jj_astore_5 (pc := 504) dL_act_504 rfl (by decide) ?_
                          refine jj_aload_n (pc := 506) 0 dL_act_506 rfl rfl ?_
                          refine jj_bipush (pc := 507) (v := 6) dL_act_507 rfl ?_
                          refine jj_callXr (pc := 509) _ (c_X7_many l hl0 D cA ob ro ar _ _) (g_many (by decide)) (fun _ _ _ _ h => h.1) dL_act_509 gL_act_X7_many jm_X7_many rfl (by decide) 0 jq_0 rfl rfl rfl (Nat.le_of_ble_eq_true rfl) ⟨by show _ ≤ 14; omega, by show _ ≤ 84; omega⟩ ?_
                          refine jj_iload (pc := 512) dL_act_512 rfl ?_
                          refine jj_icmp_ne (pc := 514) 521 dL_act_514 (by decide) (fun h514 => ?_) (fun h514 => ?_)
                          · exact absurd rfl h514
                          · refine jj_iconst (pc := 517) (v := 1) dL_act_517 rfl ?_
                            refine jj_goto (pc := 518) 522 dL_act_518 (by decide) ?_
                            refine jj_widen (k' := 14) (n' := 84) (by omega) (by omega) ?_
                            refine jj_zret (pc := 522) rfl dL_act_522 ?_
                            exact ⟨rfl, S, rfl, H.n0⟩
                        have F := H.pat hcase hg9
                        refine jj_iload (pc := 278) dL_act_278 rfl ?_
                        refine jj_icmp_ne (pc := 280) 321 dL_act_280 (by decide) (fun h280 => ?_) (fun h280 => ?_)
                        · exact absurd F.1.e0 h280
                        · refine jj_aload_n (pc := 283) 0 dL_act_283 rfl rfl ?_
                          refine jj_iload (pc := 284) dL_act_284 rfl ?_
                          refine jj_iconst (pc := 286) (v := 1) dL_act_286 rfl ?_
                          refine jj_callXr (pc := 287) _ (c_X7_ofPatch l hl0 D cA ob ro ar _ _ _) (g_ofPatch F.1.g1 (by decide)) (fun _ _ _ _ h => h.1) dL_act_287 gL_act_X7_ofPatch jm_X7_ofPatch rfl (by decide) 0 jq_0 rfl rfl rfl (Nat.le_of_ble_eq_true rfl) ⟨by show _ ≤ 14; omega, by show _ ≤ 84; omega⟩ ?_
                          refine jj_iload (pc := 290) dL_act_290 rfl ?_
                          refine jj_icmp_ne (pc := 292) 321 dL_act_292 (by decide) (fun h292 => ?_) (fun h292 => ?_)
                          · exact absurd F.1.e1 h292
                          · refine jj_aload_n (pc := 295) 0 dL_act_295 rfl rfl ?_
                            refine jj_iload (pc := 296) dL_act_296 rfl ?_
                            refine jj_iconst (pc := 298) (v := 0) dL_act_298 rfl ?_
                            refine jj_callXr (pc := 299) _ (c_X7_ofPatch l hl0 D cA ob ro ar _ _ _) (g_ofPatch F.1.g1 (by decide)) (fun _ _ _ _ h => h.1) dL_act_299 gL_act_X7_ofPatch jm_X7_ofPatch rfl (by decide) 0 jq_0 rfl rfl rfl (Nat.le_of_ble_eq_true rfl) ⟨by show _ ≤ 14; omega, by show _ ≤ 84; omega⟩ ?_
                            refine jj_iload_n (pc := 302) 2 dL_act_302 rfl rfl ?_
                            refine jj_icmp_ne (pc := 303) 321 dL_act_303 (by decide) (fun h303 => ?_) (fun h303 => ?_)
                            · exact absurd F.1.e2 h303
                            · refine jj_aload_n (pc := 306) 0 dL_act_306 rfl rfl ?_
                              refine jj_iload (pc := 307) dL_act_307 rfl ?_
                              refine jj_iconst (pc := 309) (v := 0) dL_act_309 rfl ?_
                              refine jj_callXr (pc := 310) _ (c_X7_ofPiece l hl0 D cA ob ro ar _ _ _) (g_ofPiece F.1.g2 (by decide)) (fun _ _ _ _ h => h.1) dL_act_310 gL_act_X7_ofPiece jm_X7_ofPiece rfl (by decide) 0 jq_0 rfl rfl rfl (Nat.le_of_ble_eq_true rfl) ⟨by show _ ≤ 14; omega, by show _ ≤ 84; omega⟩ ?_
                              refine jj_iconst (pc := 313) (v := (-1)) dL_act_313 rfl ?_
                              refine jj_icmp_ne (pc := 314) 321 dL_act_314 (by decide) (fun h314 => ?_) (fun h314 => ?_)
                              · exact absurd F.1.e3 h314
                              · refine jj_iconst (pc := 317) (v := 1) dL_act_317 rfl ?_
                                refine jj_goto (pc := 318) 322 dL_act_318 (by decide) ?_
                                refine jj_widen (k' := 14) (n' := 84) (by omega) (by omega) ?_
                                refine jj_zret (pc := 322) rfl dL_act_322 ?_
                                exact ⟨rfl, _, rfl, F.2⟩
                      · by_cases hw11 : w9 = 11
                        · subst hw11
                          have hcase : blw x 14 = 11 := hbw.symm
                          refine jj_tabIn (pc := 31) 323 dL_act_31 (by decide) (by decide) rfl (by decide) ?_
                          refine jj_iload_n (pc := 323) 1 dL_act_323 rfl rfl ?_
                          refine jj_bipush (pc := 324) (v := 6) dL_act_324 rfl ?_
                          refine jj_ishr (pc := 326) dL_act_326 ?_
                          refine jj_iconst (pc := 327) (v := 2) dL_act_327 rfl ?_
                          refine jj_callSr (pc := 328) _ (c_L_below l D cA _ _ _ (by decide)) dL_act_328 gL_act_L_below jm_L_below (by decide) rfl rfl (Nat.le_of_ble_eq_true rfl) ⟨by show _ ≤ 14; omega, by show _ ≤ 84; omega⟩ ?_
                          refine jj_if_ne (pc := 331) 338 dL_act_331 (by decide) (fun h331 => ?_) (fun h331 => ?_)
                          · refine jj_iconst (pc := 338) (v := 0) dL_act_338 rfl ?_
                            refine jj_istore_8 (pc := 339) dL_act_339 rfl (by decide) ?_
                            refine jj_aload_n (pc := 341) 0 dL_act_341 rfl rfl ?_
                            refine jj_iload_n (pc := 342) 2 dL_act_342 rfl rfl ?_
                            refine jj_iload (pc := 343) dL_act_343 rfl ?_
                            refine jj_callXr (pc := 345) _ (c_X7_gate l hl0 D cA ob ro ar _ _ _) (if_pos H.gy) (fun _ _ _ _ h => h.1) dL_act_345 gL_act_X7_gate jm_X7_gate rfl (by decide) 0 jq_0 rfl rfl rfl (Nat.le_of_ble_eq_true rfl) ⟨by show _ ≤ 14; omega, by show _ ≤ 84; omega⟩ ?_
                            refine jj_pop (pc := 348) dL_act_348 rfl ?_
                            refine jj_aload_n (pc := 349) 0 dL_act_349 rfl rfl ?_
                            refine jj_iload_n (pc := 350) 2 dL_act_350 rfl rfl ?_
                            refine jj_iload (pc := 351) dL_act_351 rfl ?_
                            refine jj_callXr (pc := 353) _ (c_X7_gate l hl0 D cA ob ro ar _ _ _) (if_pos H.gy) (fun _ _ _ _ h => h.1) dL_act_353 gL_act_X7_gate jm_X7_gate rfl (by decide) 0 jq_0 rfl rfl rfl (Nat.le_of_ble_eq_true rfl) ⟨by show _ ≤ 14; omega, by show _ ≤ 84; omega⟩ ?_
                            refine jj_iload (pc := 356) dL_act_356 rfl ?_
                            refine jj_icmp_ne (pc := 358) 365 dL_act_358 (by decide) (fun h358 => ?_) (fun h358 => ?_)
                            · exact absurd (H.gate hcase 0 (Or.inl rfl)).1 h358
                            · refine jj_iconst (pc := 361) (v := 1) dL_act_361 rfl ?_
                              refine jj_goto (pc := 362) 366 dL_act_362 (by decide) ?_
                              refine jj_widen (k' := 14) (n' := 84) (by omega) (by omega) ?_
                              refine jj_zret (pc := 366) rfl dL_act_366 ?_
                              exact ⟨rfl, _, rfl, (H.gate hcase 0 (Or.inl rfl)).2⟩
                          · refine jj_iconst (pc := 334) (v := 1) dL_act_334 rfl ?_
                            refine jj_goto (pc := 335) 339 dL_act_335 (by decide) ?_
                            refine jj_istore_8 (pc := 339) dL_act_339 rfl (by decide) ?_
                            refine jj_aload_n (pc := 341) 0 dL_act_341 rfl rfl ?_
                            refine jj_iload_n (pc := 342) 2 dL_act_342 rfl rfl ?_
                            refine jj_iload (pc := 343) dL_act_343 rfl ?_
                            refine jj_callXr (pc := 345) _ (c_X7_gate l hl0 D cA ob ro ar _ _ _) (if_pos H.gy) (fun _ _ _ _ h => h.1) dL_act_345 gL_act_X7_gate jm_X7_gate rfl (by decide) 0 jq_0 rfl rfl rfl (Nat.le_of_ble_eq_true rfl) ⟨by show _ ≤ 14; omega, by show _ ≤ 84; omega⟩ ?_
                            refine jj_pop (pc := 348) dL_act_348 rfl ?_
                            refine jj_aload_n (pc := 349) 0 dL_act_349 rfl rfl ?_
                            refine jj_iload_n (pc := 350) 2 dL_act_350 rfl rfl ?_
                            refine jj_iload (pc := 351) dL_act_351 rfl ?_
                            refine jj_callXr (pc := 353) _ (c_X7_gate l hl0 D cA ob ro ar _ _ _) (if_pos H.gy) (fun _ _ _ _ h => h.1) dL_act_353 gL_act_X7_gate jm_X7_gate rfl (by decide) 0 jq_0 rfl rfl rfl (Nat.le_of_ble_eq_true rfl) ⟨by show _ ≤ 14; omega, by show _ ≤ 84; omega⟩ ?_
                            refine jj_iload (pc := 356) dL_act_356 rfl ?_
                            refine jj_icmp_ne (pc := 358) 365 dL_act_358 (by decide) (fun h358 => ?_) (fun h358 => ?_)
                            · exact absurd (H.gate hcase 1 (Or.inr rfl)).1 h358
                            · refine jj_iconst (pc := 361) (v := 1) dL_act_361 rfl ?_
                              refine jj_goto (pc := 362) 366 dL_act_362 (by decide) ?_
                              refine jj_widen (k' := 14) (n' := 84) (by omega) (by omega) ?_
                              refine jj_zret (pc := 366) rfl dL_act_366 ?_
                              exact ⟨rfl, _, rfl, (H.gate hcase 1 (Or.inr rfl)).2⟩
                        · by_cases hw12 : w9 = 12
                          · subst hw12
                            have hcase : blw x 14 = 12 := hbw.symm
                            refine jj_tabIn (pc := 31) 367 dL_act_31 (by decide) (by decide) rfl (by decide) ?_
                            refine jj_aload_n (pc := 367) 0 dL_act_367 rfl rfl ?_
                            refine jj_iload_n (pc := 368) 1 dL_act_368 rfl rfl ?_
                            refine jj_iconst (pc := 369) (v := 4) dL_act_369 rfl ?_
                            refine jj_ishr (pc := 370) dL_act_370 ?_
                            refine jj_iconst (pc := 371) (v := 3) dL_act_371 rfl ?_
                            refine jj_callSr (pc := 372) _ (c_L_below l D cA _ _ _ (by decide)) dL_act_372 gL_act_L_below jm_L_below (by decide) rfl rfl (Nat.le_of_ble_eq_true rfl) ⟨by show _ ≤ 14; omega, by show _ ≤ 84; omega⟩ ?_
                            refine jj_iload_n (pc := 375) 1 dL_act_375 rfl rfl ?_
                            refine jj_iconst (pc := 376) (v := 5) dL_act_376 rfl ?_
                            refine jj_ishr (pc := 377) dL_act_377 ?_
                            refine jj_bipush (pc := 378) (v := 6) dL_act_378 rfl ?_
                            refine jj_callSr (pc := 380) _ (c_L_below l D cA _ _ _ (by decide)) dL_act_380 gL_act_L_below jm_L_below (by decide) rfl rfl (Nat.le_of_ble_eq_true rfl) ⟨by show _ ≤ 14; omega, by show _ ≤ 84; omega⟩ ?_
                            refine jj_iconst (pc := 383) (v := 1) dL_act_383 rfl ?_
                            refine jj_iload_n (pc := 384) 1 dL_act_384 rfl rfl ?_
                            refine jj_bipush (pc := 385) (v := 6) dL_act_385 rfl ?_
                            refine jj_ishr (pc := 387) dL_act_387 ?_
                            refine jj_bipush (pc := 388) (v := 20) dL_act_388 rfl ?_
                            refine jj_callSr (pc := 390) _ (c_L_below l D cA _ _ _ (by decide)) dL_act_390 gL_act_L_below jm_L_below (by decide) rfl rfl (Nat.le_of_ble_eq_true rfl) ⟨by show _ ≤ 14; omega, by show _ ≤ 84; omega⟩ ?_
                            refine jj_iadd (pc := 393) dL_act_393 ?_
                            refine jj_iconst (pc := 394) (v := 1) dL_act_394 rfl ?_
                            refine jj_callXc (pc := 395) _ 5 (c_X7_piece l hl0 D cA ob ro ar _ _ _ _ _) H.pceE (fun _ _ _ _ h => h) (by decide +kernel) (by decide +kernel) (by decide +kernel) dL_act_395 gL_act_X7_piece jm_X7_piece rfl (by decide) 0 jq_0 rfl rfl rfl (Nat.le_of_ble_eq_true rfl) ⟨by show _ ≤ 14; omega, by show _ ≤ 84; omega⟩ (fun _ q9 => ?_) (fun _ q9 => ?_) (fun hg9 => ?_)
                            · refine jj_astore_5 (pc := 523) dL_act_523 rfl (by decide) ?_
                              refine jj_aload_n (pc := 525) 0 dL_act_525 rfl rfl ?_
                              refine jj_bipush (pc := 526) (v := 6) dL_act_526 rfl ?_
                              refine jj_callXr (pc := 528) _ (c_X7_many l hl0 D cA ob ro ar _ _) (g_many (by decide)) (fun _ _ _ _ h => h.1) dL_act_528 gL_act_X7_many jm_X7_many rfl (by decide) 0 jq_0 rfl rfl rfl (Nat.le_of_ble_eq_true rfl) ⟨by show _ ≤ 14; omega, by show _ ≤ 84; omega⟩ ?_
                              refine jj_iload (pc := 531) dL_act_531 rfl ?_
                              refine jj_icmp_ne (pc := 533) 540 dL_act_533 (by decide) (fun h533 => ?_) (fun h533 => ?_)
                              · exact absurd rfl h533
                              · refine jj_iconst (pc := 536) (v := 1) dL_act_536 rfl ?_
                                refine jj_goto (pc := 537) 541 dL_act_537 (by decide) ?_
                                refine jj_widen (k' := 14) (n' := 84) (by omega) (by omega) ?_
                                refine jj_zret (pc := 541) rfl dL_act_541 ?_
                                exact ⟨rfl, S, rfl, H.n0⟩
                            · refine jj_astore_5 (pc := 504) dL_act_504 rfl (by decide) ?_
                              refine jj_aload_n (pc := 506) 0 dL_act_506 rfl rfl ?_
                              refine jj_bipush (pc := 507) (v := 6) dL_act_507 rfl ?_
                              refine jj_callXr (pc := 509) _ (c_X7_many l hl0 D cA ob ro ar _ _) (g_many (by decide)) (fun _ _ _ _ h => h.1) dL_act_509 gL_act_X7_many jm_X7_many rfl (by decide) 0 jq_0 rfl rfl rfl (Nat.le_of_ble_eq_true rfl) ⟨by show _ ≤ 14; omega, by show _ ≤ 84; omega⟩ ?_
                              refine jj_iload (pc := 512) dL_act_512 rfl ?_
                              refine jj_icmp_ne (pc := 514) 521 dL_act_514 (by decide) (fun h514 => ?_) (fun h514 => ?_)
                              · exact absurd rfl h514
                              · refine jj_iconst (pc := 517) (v := 1) dL_act_517 rfl ?_
                                refine jj_goto (pc := 518) 522 dL_act_518 (by decide) ?_
                                refine jj_widen (k' := 14) (n' := 84) (by omega) (by omega) ?_
                                refine jj_zret (pc := 522) rfl dL_act_522 ?_
                                exact ⟨rfl, S, rfl, H.n0⟩
                            have F := H.pce hcase hg9
                            refine jj_aload_n (pc := 398) 0 dL_act_398 rfl rfl ?_
                            refine jj_iconst (pc := 399) (v := 1) dL_act_399 rfl ?_
                            refine jj_callXr (pc := 400) _ (c_X7_many l hl0 D cA ob ro ar _ _) (g_many (by decide)) (fun _ _ _ _ h => h.1) dL_act_400 gL_act_X7_many jm_X7_many rfl (by decide) 0 jq_0 rfl rfl rfl (Nat.le_of_ble_eq_true rfl) ⟨by show _ ≤ 14; omega, by show _ ≤ 84; omega⟩ ?_
                            refine jj_iconst (pc := 403) (v := 1) dL_act_403 rfl ?_
                            refine jj_isub (pc := 404) dL_act_404 ?_
                            refine jj_icmp_ne (pc := 405) 412 dL_act_405 (by decide) (fun h405 => ?_) (fun h405 => ?_)
                            · exact absurd F.1 h405
                            · refine jj_iconst (pc := 408) (v := 1) dL_act_408 rfl ?_
                              refine jj_goto (pc := 409) 413 dL_act_409 (by decide) ?_
                              refine jj_widen (k' := 14) (n' := 84) (by omega) (by omega) ?_
                              refine jj_zret (pc := 413) rfl dL_act_413 ?_
                              exact ⟨rfl, _, rfl, F.2⟩
                          · have hcase : ¬ (blw x 14 = 0 ∨ blw x 14 = 1 ∨ blw x 14 = 2 ∨ blw x 14 = 3 ∨ blw x 14 = 4 ∨ blw x 14 = 5 ∨ blw x 14 = 6 ∨ blw x 14 = 7 ∨ blw x 14 = 8 ∨ blw x 14 = 9 ∨ blw x 14 = 10 ∨ blw x 14 = 11 ∨ blw x 14 = 12) := by
                              rw [← hbw]; intro h9
                              rcases h9 with h9 | h9 | h9 | h9 | h9 | h9 | h9 | h9 | h9 | h9 | h9 | h9 | h9
                              · exact hw0 h9
                              · exact hw1 h9
                              · exact hw2 h9
                              · exact hw3 h9
                              · exact hw4 h9
                              · exact hw5 h9
                              · exact hw6 h9
                              · exact hw7 h9
                              · exact hw8 h9
                              · exact hw9 h9
                              · exact hw10 h9
                              · exact hw11 h9
                              · exact hw12 h9
                            refine jj_tabOut (pc := 31) 414 dL_act_31 (jsw_out (n := 12) (by decide) (fun z hz => by rcases (by omega : z = 0 ∨ z = 1 ∨ z = 2 ∨ z = 3 ∨ z = 4 ∨ z = 5 ∨ z = 6 ∨ z = 7 ∨ z = 8 ∨ z = 9 ∨ z = 10 ∨ z = 11 ∨ z = 12) with rfl | rfl | rfl | rfl | rfl | rfl | rfl | rfl | rfl | rfl | rfl | rfl | rfl <;> first | exact hw0 | exact hw1 | exact hw2 | exact hw3 | exact hw4 | exact hw5 | exact hw6 | exact hw7 | exact hw8 | exact hw9 | exact hw10 | exact hw11 | exact hw12)) (by decide) ?_
                            refine jj_aload_n (pc := 414) 0 dL_act_414 rfl rfl ?_
                            refine jj_iconst (pc := 415) (v := 4) dL_act_415 rfl ?_
                            refine jj_callXr (pc := 416) _ (c_X7_many l hl0 D cA ob ro ar _ _) (g_many (by decide)) (fun _ _ _ _ h => h.1) dL_act_416 gL_act_X7_many jm_X7_many rfl (by decide) 0 jq_0 rfl rfl rfl (Nat.le_of_ble_eq_true rfl) ⟨by show _ ≤ 14; omega, by show _ ≤ 84; omega⟩ ?_
                            refine jj_istore_9 (pc := 419) dL_act_419 rfl (by decide) ?_
                            refine jj_aload_n (pc := 421) 0 dL_act_421 rfl rfl ?_
                            refine jj_callXc (pc := 422) _ 6 (c_X7_link l hl0 D cA ob ro ar _) gE_link (fun _ _ _ _ h => h) (by decide +kernel) (by decide +kernel) (by decide +kernel) dL_act_422 gL_act_X7_link jm_X7_link rfl (by decide) 0 jq_0 rfl rfl rfl (Nat.le_of_ble_eq_true rfl) ⟨by show _ ≤ 14; omega, by show _ ≤ 84; omega⟩ (fun _ q9 => ?_) (fun _ q9 => ?_) (fun hg9 => ?_)
                            · refine jj_astore_5 (pc := 523) dL_act_523 rfl (by decide) ?_
                              refine jj_aload_n (pc := 525) 0 dL_act_525 rfl rfl ?_
                              refine jj_bipush (pc := 526) (v := 6) dL_act_526 rfl ?_
                              refine jj_callXr (pc := 528) _ (c_X7_many l hl0 D cA ob ro ar _ _) (g_many (by decide)) (fun _ _ _ _ h => h.1) dL_act_528 gL_act_X7_many jm_X7_many rfl (by decide) 0 jq_0 rfl rfl rfl (Nat.le_of_ble_eq_true rfl) ⟨by show _ ≤ 14; omega, by show _ ≤ 84; omega⟩ ?_
                              refine jj_iload (pc := 531) dL_act_531 rfl ?_
                              refine jj_icmp_ne (pc := 533) 540 dL_act_533 (by decide) (fun h533 => ?_) (fun h533 => ?_)
                              · exact absurd rfl h533
                              · refine jj_iconst (pc := 536) (v := 1) dL_act_536 rfl ?_
                                refine jj_goto (pc := 537) 541 dL_act_537 (by decide) ?_
                                refine jj_widen (k' := 14) (n' := 84) (by omega) (by omega) ?_
                                refine jj_zret (pc := 541) rfl dL_act_541 ?_
                                exact ⟨rfl, S, rfl, H.n0⟩
                            · refine jj_astore_5 (pc := 504) dL_act_504 rfl (by decide) ?_
                              refine jj_aload_n (pc := 506) 0 dL_act_506 rfl rfl ?_
                              refine jj_bipush (pc := 507) (v := 6) dL_act_507 rfl ?_
                              refine jj_callXr (pc := 509) _ (c_X7_many l hl0 D cA ob ro ar _ _) (g_many (by decide)) (fun _ _ _ _ h => h.1) dL_act_509 gL_act_X7_many jm_X7_many rfl (by decide) 0 jq_0 rfl rfl rfl (Nat.le_of_ble_eq_true rfl) ⟨by show _ ≤ 14; omega, by show _ ≤ 84; omega⟩ ?_
                              refine jj_iload (pc := 512) dL_act_512 rfl ?_
                              refine jj_icmp_ne (pc := 514) 521 dL_act_514 (by decide) (fun h514 => ?_) (fun h514 => ?_)
                              · exact absurd rfl h514
                              · refine jj_iconst (pc := 517) (v := 1) dL_act_517 rfl ?_
                                refine jj_goto (pc := 518) 522 dL_act_518 (by decide) ?_
                                refine jj_widen (k' := 14) (n' := 84) (by omega) (by omega) ?_
                                refine jj_zret (pc := 522) rfl dL_act_522 ?_
                                exact ⟨rfl, S, rfl, H.n0⟩
                            have F := H.link hcase hg9
                            refine jj_istore_10 (pc := 425) dL_act_425 rfl (by decide) ?_
                            refine jj_iload (pc := 427) dL_act_427 rfl ?_
                            refine jj_if_le (pc := 429) 462 dL_act_429 (by decide) (fun h429 => ?_) (fun h429 => ?_)
                            · refine jj_aload_n (pc := 462) 0 dL_act_462 rfl rfl ?_
                              refine jj_bipush (pc := 463) (v := 9) dL_act_463 rfl ?_
                              refine jj_callXr (pc := 465) _ (c_X7_many l hl0 D cA ob ro ar _ _) (g_many (by decide)) (fun _ _ _ _ h => h.1) dL_act_465 gL_act_X7_many jm_X7_many rfl (by decide) 0 jq_0 rfl rfl rfl (Nat.le_of_ble_eq_true rfl) ⟨by show _ ≤ 14; omega, by show _ ≤ 84; omega⟩ ?_
                              refine jj_iconst (pc := 468) (v := 1) dL_act_468 rfl ?_
                              refine jj_icmp_ne (pc := 469) 502 dL_act_469 (by decide) (fun h469 => ?_) (fun h469 => ?_)
                              · exact absurd (F.1.l9 h429) h469
                              · refine jj_aload_n (pc := 472) 0 dL_act_472 rfl rfl ?_
                                refine jj_bipush (pc := 473) (v := 7) dL_act_473 rfl ?_
                                refine jj_callXr (pc := 475) _ (c_X7_many l hl0 D cA ob ro ar _ _) (g_many (by decide)) (fun _ _ _ _ h => h.1) dL_act_475 gL_act_X7_many jm_X7_many rfl (by decide) 0 jq_0 rfl rfl rfl (Nat.le_of_ble_eq_true rfl) ⟨by show _ ≤ 14; omega, by show _ ≤ 84; omega⟩ ?_
                                refine jj_if_ne (pc := 478) 502 dL_act_478 (by decide) (fun h478 => ?_) (fun h478 => ?_)
                                · exact absurd (F.1.l7 h429) h478
                                · refine jj_aload_n (pc := 481) 0 dL_act_481 rfl rfl ?_
                                  refine jj_iconst (pc := 482) (v := 5) dL_act_482 rfl ?_
                                  refine jj_callXr (pc := 483) _ (c_X7_many l hl0 D cA ob ro ar _ _) (g_many (by decide)) (fun _ _ _ _ h => h.1) dL_act_483 gL_act_X7_many jm_X7_many rfl (by decide) 0 jq_0 rfl rfl rfl (Nat.le_of_ble_eq_true rfl) ⟨by show _ ≤ 14; omega, by show _ ≤ 84; omega⟩ ?_
                                  refine jj_if_ne (pc := 486) 502 dL_act_486 (by decide) (fun h486 => ?_) (fun h486 => ?_)
                                  · exact absurd (F.1.l5 h429) h486
                                  · refine jj_aload_n (pc := 489) 0 dL_act_489 rfl rfl ?_
                                    refine jj_bipush (pc := 490) (v := 6) dL_act_490 rfl ?_
                                    refine jj_callXr (pc := 492) _ (c_X7_many l hl0 D cA ob ro ar _ _) (g_many (by decide)) (fun _ _ _ _ h => h.1) dL_act_492 gL_act_X7_many jm_X7_many rfl (by decide) 0 jq_0 rfl rfl rfl (Nat.le_of_ble_eq_true rfl) ⟨by show _ ≤ 14; omega, by show _ ≤ 84; omega⟩ ?_
                                    refine jj_if_ne (pc := 495) 502 dL_act_495 (by decide) (fun h495 => ?_) (fun h495 => ?_)
                                    · exact absurd (F.1.l6 h429) h495
                                    · refine jj_iconst (pc := 498) (v := 1) dL_act_498 rfl ?_
                                      refine jj_goto (pc := 499) 503 dL_act_499 (by decide) ?_
                                      refine jj_widen (k' := 14) (n' := 84) (by omega) (by omega) ?_
                                      refine jj_zret (pc := 503) rfl dL_act_503 ?_
                                      exact ⟨rfl, _, rfl, F.2.2 h429⟩
                            · refine jj_aload_n (pc := 432) 0 dL_act_432 rfl rfl ?_
                              refine jj_iconst (pc := 433) (v := 4) dL_act_433 rfl ?_
                              refine jj_callXr (pc := 434) _ (c_X7_many l hl0 D cA ob ro ar _ _) (g_many (by decide)) (fun _ _ _ _ h => h.1) dL_act_434 gL_act_X7_many jm_X7_many rfl (by decide) 0 jq_0 rfl rfl rfl (Nat.le_of_ble_eq_true rfl) ⟨by show _ ≤ 14; omega, by show _ ≤ 84; omega⟩ ?_
                              refine jj_iload (pc := 437) dL_act_437 rfl ?_
                              refine jj_icmp_ne (pc := 439) 458 dL_act_439 (by decide) (fun h439 => ?_) (fun h439 => ?_)
                              · exact absurd (F.1.f1 h429) h439
                              · refine jj_aload_n (pc := 442) 0 dL_act_442 rfl rfl ?_
                                refine jj_iload (pc := 443) dL_act_443 rfl ?_
                                refine jj_iconst (pc := 445) (v := 1) dL_act_445 rfl ?_
                                refine jj_isub (pc := 446) dL_act_446 ?_
                                refine jj_iconst (pc := 447) (v := 0) dL_act_447 rfl ?_
                                refine jj_callXr (pc := 448) _ (c_X7_fault l hl0 D cA ob ro ar _ _ _) (F.1.f2 h429) (fun _ _ _ _ h => h.1) dL_act_448 gL_act_X7_fault jm_X7_fault rfl (by decide) 0 jq_0 rfl rfl rfl (Nat.le_of_ble_eq_true rfl) ⟨by show _ ≤ 14; omega, by show _ ≤ 84; omega⟩ ?_
                                refine jj_if_le (pc := 451) 458 dL_act_451 (by decide) (fun h451 => ?_) (fun h451 => ?_)
                                · exact absurd h451 (F.1.f3 h429)
                                · refine jj_iconst (pc := 454) (v := 1) dL_act_454 rfl ?_
                                  refine jj_goto (pc := 455) 503 dL_act_455 (by decide) ?_
                                  refine jj_widen (k' := 14) (n' := 84) (by omega) (by omega) ?_
                                  refine jj_zret (pc := 503) rfl dL_act_503 ?_
                                  exact ⟨rfl, _, rfl, F.2.1 h429⟩
