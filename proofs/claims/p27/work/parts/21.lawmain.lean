/-! The law itself. -/
section JN
variable {l : Launch} {own : String} {cc : ByteArray} {nL : Nat} {rt : Option FieldType} {I : jjI} {ws : List Cond} {R : Room} {D : va_G} {cA : ClassId} {E : jjE} {k n : Nat} {w : va_W} {pc : Nat} {lv : List (Option Value)} {st : List Value}
theorem jj_lcmp {x y : Int64} (hd : decode cc pc = .ok (.lcmp, 1)) (kk : jjV l own cc nL rt I ws R D cA E k n w (pc + 1) lv (.int (lg_cmp x y) :: st)) : jjV l own cc nL rt I ws R D cA E k n w pc lv (.long y :: .long x :: st) := by
  intro p e s m args below meth c A H locs ls hF hI hA hK hP hD hS hl
  exact W.lcmp hF.1 hF.2.1 hd (kk p e s m args below meth c A H locs ls hF hI hA hK hP hD hS hl)
theorem jj_callXF {y : MethodName} {ws2 : List Cond} {bytes : ByteArray} {maxL d mc ms na ix b : Nat} {As : List Value} (rest : List Value) {wc wr : va_W} {Q : Option Value → va_W → Prop} (hC : jjConN l y ws2 d D cA (.ref b :: As) wc mc ms Q) (hQr : ∀ r w', Q r w' → r = none) (hd : decode cc pc = .ok (.invokespecial ix, 3)) (hG : GoodIn ws ws2) (hm : jjM y ws2 bytes maxL none na) (hy1 : y.name = "<init>") (hini : Cond.initialized y.cls ∈ ws) (hnest : ∀ A s meth c, I A s meth c → ∀ w ∈ jNest, va_Nw w s) (hl1 : Cond.methodLink own ix y ∈ ws) (hin : Cond.instanceMethod y ∈ ws) (hR : d + 1 ≤ R.frames ∧ 8 + (maxL + 11) + 30 * d ≤ R.locals) (isC isR : List Nat) (hCm : isC.map (fun i => w[i]?) = wc.map some) (hCf : isC.filterMap (fun i => w[i]?) = wc) (hnC : va_nd isC = true) (hRm : isR.map (fun i => w[i]?) = wr.map some) (hnR : va_nd isR = true) (hdis : ∀ i ∈ isR, i ∉ isC) (hAs : As.length = na) (hst : st = As.reverse ++ .ref b :: rest) (hrest : (rest.map fun v => v.category).sum ≤ 8) (hf : k + mc ≤ R.cells ∧ n + ms ≤ R.slots) (kk : ∀ w' : va_W, Q none w' → jjV l own cc nL rt I ws R D cA E (k + mc) (n + ms) (wr ++ w') (pc + 3) lv rest) : jjV l own cc nL rt I ws R D cA E k n w pc lv st := by
  intro p e s m args below meth c A H locs ls hF hI hA hK hP hD hS hl
  obtain ⟨⟨ws3, hw⟩, hy2, hy3, hy4⟩ := hm
  subst hst
  have hwd := hF.2.2.2.2.2.1
  have hPc := hP.sub isC hCf
  have hDc := hD.sub isC hnC hCm
  have hFc := va_free hD hS hA isC hCm
  refine jj_wcallF (va_runI (As := As) (rest := rest) ⟨hF.1, hF.2.1, hF.2.2.2.1, hF.2.2.2.2.1, hwd⟩ (hC H.size) (cwI na hwd hG hw rfl rfl (hwd _ hini) (hwd _ hl1) (hwd _ hin) hy1 ⟨hy2, hy3, hy4⟩ hR) ⟨fun a U g mk q => ⟨q.1, ⟨q.2.1.1, q.2.1.2.1, va_K.moved (u := U) (U := U.calling g mk a) (Vm.Alike.refl U.vm) q.2.1.2.2.1, q.2.1.2.2.2⟩, fun w hw => va_Nw.same (u := U) (jNest_tab w hw) rfl (q.2.2 w hw)⟩, fun U hU hW => ⟨rfl, ⟨by rw [hU], by rw [hU]; exact hPc, va_K.moved hW.alike hK, hDc.weaken (fun _ _ _ _ => trivial)⟩, jNest_warm hW (hnest _ _ _ _ hI)⟩⟩ rfl hAs hl.1 rfl (lv_room hrest) hd hf) hS hFc hFc (fun r w' H1 locs1 hQ hP1 hD1 hk1 hS => ?_)
  have er := hQr r w' hQ
  subst er
  obtain ⟨hP2, hD2⟩ := va_join hP hD isC isR hCm hRm hnR hdis hk1 hFc hP1 hD1
  exact kk w' hQ p e s m args below meth c A H1 locs1 ls hF hI hA hK hP2 hD2 hS hl
end JN
/-- what the law's own frame keeps of the start -/
def jIl (b L : Nat) (xs : Nat → Int32) : jjI := fun A s _ _ => jSc b L xs A s ∧ jXg A s ∧ (∀ w ∈ jNest, va_Nw w s) ∧ ∀ q : Nat, A q → s.heap.size ≤ q
def jEl (b : Nat) : jjE := fun s below args _ => fun t => args = #[Value.ref b] → lw_Z below #[Value.ref b] s t
def jinit : Nat → Int32 := fun r => match r with
  | 0 => 0
  | 1 => 0
  | 2 => (-1)
  | 3 => (-1)
  | 4 => 0
  | 5 => 0
  | 6 => 0
  | 7 => (-1)
  | 8 => 0
  | 9 => 0
  | 10 => (-1)
  | 11 => (-1)
  | 12 => 0
  | 13 => (-1)
  | 14 => (-1)
  | 15 => (-1)
  | 16 => (-1)
  | 17 => (-1)
  | 18 => (-1)
  | 19 => (-1)
  | 20 => (-1)
  | 21 => (-1)
  | 22 => (-1)
  | 23 => 0
  | 24 => (-1)
  | 25 => (-1)
  | 26 => 0
  | 27 => (-1)
  | 28 => (-1)
  | 29 => 0
  | 30 => (-1)
  | 31 => (-1)
  | 32 => 0
  | _ => 0
/-- a new LinkfactoryYard -/
def jS0 : jS := (fun k => if k = 0 then 40 else 0, fun r => rfill (jlen r) (jinit r) (fun _ => 0))
def NxtT (cv : Int32 → Int32) (PT : Nat → jS → Prop) (t : Nat) (x : Int32) (S S' : jS) : Prop :=
  ((S'.1 18).toNatClampNeg ≤ 8) ∧
  (¬ blw x 14 = 13 → mDone S ≤ mDone S') ∧
  (¬ nI t - nI t / 8 * 8 = 7 → PT (t + 1) S') ∧
  (nI t - nI t / 8 * 8 = 7 → SymR (dS2 S')) ∧
  (nI t - nI t / 8 * 8 = 7 → PatR (dS2 S')) ∧
  (nI t - nI t / 8 * 8 = 7 → NumR (dS2 S') x) ∧
  (nI t - nI t / 8 * 8 = 7 → lg_cmp (dDig (nu3 (dS2 S') x)) (dDig S') = 0) ∧
  (nI t - nI t / 8 * 8 = 7 → PT (t + 1) (dS2 (nu3 (dS2 S') x)))
theorem NxtT.n {cv : Int32 → Int32} {PT : Nat → jS → Prop} {t : Nat} {x : Int32} {S S' : jS} (h : NxtT cv PT t x S S') : (S'.1 18).toNatClampNeg ≤ 8 := h.1
theorem NxtT.d {cv : Int32 → Int32} {PT : Nat → jS → Prop} {t : Nat} {x : Int32} {S S' : jS} (h : NxtT cv PT t x S S') : ¬ blw x 14 = 13 → mDone S ≤ mDone S' := h.2.1
theorem NxtT.o {cv : Int32 → Int32} {PT : Nat → jS → Prop} {t : Nat} {x : Int32} {S S' : jS} (h : NxtT cv PT t x S S') : ¬ nI t - nI t / 8 * 8 = 7 → PT (t + 1) S' := h.2.2.1
theorem NxtT.sy {cv : Int32 → Int32} {PT : Nat → jS → Prop} {t : Nat} {x : Int32} {S S' : jS} (h : NxtT cv PT t x S S') : nI t - nI t / 8 * 8 = 7 → SymR (dS2 S') := h.2.2.2.1
theorem NxtT.pa {cv : Int32 → Int32} {PT : Nat → jS → Prop} {t : Nat} {x : Int32} {S S' : jS} (h : NxtT cv PT t x S S') : nI t - nI t / 8 * 8 = 7 → PatR (dS2 S') := h.2.2.2.2.1
theorem NxtT.nu {cv : Int32 → Int32} {PT : Nat → jS → Prop} {t : Nat} {x : Int32} {S S' : jS} (h : NxtT cv PT t x S S') : nI t - nI t / 8 * 8 = 7 → NumR (dS2 S') x := h.2.2.2.2.2.1
theorem NxtT.dg {cv : Int32 → Int32} {PT : Nat → jS → Prop} {t : Nat} {x : Int32} {S S' : jS} (h : NxtT cv PT t x S S') : nI t - nI t / 8 * 8 = 7 → lg_cmp (dDig (nu3 (dS2 S') x)) (dDig S') = 0 := h.2.2.2.2.2.2.1
theorem NxtT.e {cv : Int32 → Int32} {PT : Nat → jS → Prop} {t : Nat} {x : Int32} {S S' : jS} (h : NxtT cv PT t x S S') : nI t - nI t / 8 * 8 = 7 → PT (t + 1) (dS2 (nu3 (dS2 S') x)) := h.2.2.2.2.2.2.2
def lwx (cv : Int32 → Int32) (t : Nat) : Int32 := cv (7 + (nI t - nI t / 22 * 22)) >>> (nI t / 22 * 8 &&& 31)
/-- what the law asks for, of the states of its yard -/
def LawR (cv : Int32 → Int32) (PO PP : Nat → jS → Prop) (PR : Nat → Nat → jS → Prop) (PT : Nat → jS → Prop) : Prop :=
  (gReach jS0 (10 + blw (cv 0) 40) = none) ∧
  (PO 0 (js jS0 0 (10 + blw (cv 0) 40))) ∧
  (∀ k S, k < 3 → PO k S → ∀ b : Int32, (b = 0 ∨ b = 1) → gObject S b = none ∧ PO (k + 1) (addObj S b)) ∧
  (∀ S, PO 3 S → PP 0 S) ∧
  (∀ k S, k < 6 → PP k S → gPiece S (blw (cv (1 + nI k)) 3) (nI k) ((1 : Int32) + blw (cv (1 + nI k) >>> (3 &&& 31)) 20) 0 = none) ∧
  (∀ k S, k < 6 → PP k S → PR k (blw (cv (1 + nI k) >>> (5 &&& 31)) 3).toNatClampNeg (addPc S (blw (cv (1 + nI k)) 3) (nI k) ((1 : Int32) + blw (cv (1 + nI k) >>> (3 &&& 31)) 20) (bn 0))) ∧
  (∀ k, k < 6 → (blw (cv (1 + nI k) >>> (5 &&& 31)) 3).toNatClampNeg ≤ 2 ∧ ¬ blw (cv (1 + nI k) >>> (5 &&& 31)) 3 < 0) ∧
  (∀ k j S, k < 6 → j < 2 → PR k (j + 1) S → ∀ b : Int32, (b = 0 ∨ b = 1) → gRefer S (nI k) (blw (cv (1 + nI k) >>> (3 * nI (j + 1) &&& 31)) 6) b = none ∧ PR k j (addRef S (nI k) (blw (cv (1 + nI k) >>> (3 * nI (j + 1) &&& 31)) 6) b)) ∧
  (∀ k S, k < 6 → PR k 0 S → PP (k + 1) S) ∧
  (∀ S, PP 6 S → gLink S = none ∧ PT 0 (lnk S)) ∧
  (∀ t S, t < 50 → PT t S → (S.1 18).toNatClampNeg ≤ 8 ∧ ActR S (lwx cv t) (NxtT cv PT t (lwx cv t) S))
theorem LawR.r {cv : Int32 → Int32} {PO PP : Nat → jS → Prop} {PR : Nat → Nat → jS → Prop} {PT : Nat → jS → Prop} (h : LawR cv PO PP PR PT) : gReach jS0 (10 + blw (cv 0) 40) = none := h.1
theorem LawR.o0 {cv : Int32 → Int32} {PO PP : Nat → jS → Prop} {PR : Nat → Nat → jS → Prop} {PT : Nat → jS → Prop} (h : LawR cv PO PP PR PT) : PO 0 (js jS0 0 (10 + blw (cv 0) 40)) := h.2.1
theorem LawR.o1 {cv : Int32 → Int32} {PO PP : Nat → jS → Prop} {PR : Nat → Nat → jS → Prop} {PT : Nat → jS → Prop} (h : LawR cv PO PP PR PT) : ∀ k S, k < 3 → PO k S → ∀ b : Int32, (b = 0 ∨ b = 1) → gObject S b = none ∧ PO (k + 1) (addObj S b) := h.2.2.1
theorem LawR.p0 {cv : Int32 → Int32} {PO PP : Nat → jS → Prop} {PR : Nat → Nat → jS → Prop} {PT : Nat → jS → Prop} (h : LawR cv PO PP PR PT) : ∀ S, PO 3 S → PP 0 S := h.2.2.2.1
theorem LawR.p1 {cv : Int32 → Int32} {PO PP : Nat → jS → Prop} {PR : Nat → Nat → jS → Prop} {PT : Nat → jS → Prop} (h : LawR cv PO PP PR PT) : ∀ k S, k < 6 → PP k S → gPiece S (blw (cv (1 + nI k)) 3) (nI k) ((1 : Int32) + blw (cv (1 + nI k) >>> (3 &&& 31)) 20) 0 = none := h.2.2.2.2.1
theorem LawR.p2 {cv : Int32 → Int32} {PO PP : Nat → jS → Prop} {PR : Nat → Nat → jS → Prop} {PT : Nat → jS → Prop} (h : LawR cv PO PP PR PT) : ∀ k S, k < 6 → PP k S → PR k (blw (cv (1 + nI k) >>> (5 &&& 31)) 3).toNatClampNeg (addPc S (blw (cv (1 + nI k)) 3) (nI k) ((1 : Int32) + blw (cv (1 + nI k) >>> (3 &&& 31)) 20) (bn 0)) := h.2.2.2.2.2.1
theorem LawR.j2 {cv : Int32 → Int32} {PO PP : Nat → jS → Prop} {PR : Nat → Nat → jS → Prop} {PT : Nat → jS → Prop} (h : LawR cv PO PP PR PT) : ∀ k, k < 6 → (blw (cv (1 + nI k) >>> (5 &&& 31)) 3).toNatClampNeg ≤ 2 ∧ ¬ blw (cv (1 + nI k) >>> (5 &&& 31)) 3 < 0 := h.2.2.2.2.2.2.1
theorem LawR.r1 {cv : Int32 → Int32} {PO PP : Nat → jS → Prop} {PR : Nat → Nat → jS → Prop} {PT : Nat → jS → Prop} (h : LawR cv PO PP PR PT) : ∀ k j S, k < 6 → j < 2 → PR k (j + 1) S → ∀ b : Int32, (b = 0 ∨ b = 1) → gRefer S (nI k) (blw (cv (1 + nI k) >>> (3 * nI (j + 1) &&& 31)) 6) b = none ∧ PR k j (addRef S (nI k) (blw (cv (1 + nI k) >>> (3 * nI (j + 1) &&& 31)) 6) b) := h.2.2.2.2.2.2.2.1
theorem LawR.r0 {cv : Int32 → Int32} {PO PP : Nat → jS → Prop} {PR : Nat → Nat → jS → Prop} {PT : Nat → jS → Prop} (h : LawR cv PO PP PR PT) : ∀ k S, k < 6 → PR k 0 S → PP (k + 1) S := h.2.2.2.2.2.2.2.2.1
theorem LawR.l {cv : Int32 → Int32} {PO PP : Nat → jS → Prop} {PR : Nat → Nat → jS → Prop} {PT : Nat → jS → Prop} (h : LawR cv PO PP PR PT) : ∀ S, PP 6 S → gLink S = none ∧ PT 0 (lnk S) := h.2.2.2.2.2.2.2.2.2.1
theorem LawR.t {cv : Int32 → Int32} {PO PP : Nat → jS → Prop} {PR : Nat → Nat → jS → Prop} {PT : Nat → jS → Prop} (h : LawR cv PO PP PR PT) : ∀ t S, t < 50 → PT t S → (S.1 18).toNatClampNeg ≤ 8 ∧ ActR S (lwx cv t) (NxtT cv PT t (lwx cv t) S) := h.2.2.2.2.2.2.2.2.2.2
theorem jck (t : Nat) (h : t < 50) : ¬ 7 + (nI t - nI t / 22 * 22) < 0 := by revert t; decide +kernel
theorem jcp (k : Nat) (h : k < 6) : ¬ (1 : Int32) + nI k < 0 := by revert k; decide +kernel
theorem nI_m {j : Nat} (hj : j < 2) : nI (j + 1) + (-1) = nI j := by revert j; decide +kernel
theorem cv_of {x : Int32} {j : Nat} (hx : x.toNatClampNeg = j) (h0 : ¬ x < 0) : x = nI j := by
  have h1 := jb_cl x
  have h2 := jb_31 x
  rw [Int32.lt_iff_toInt_lt] at h0
  have e : x.toInt = (nI j).toInt := by rw [nI_toInt (by omega)]; have : (0 : Int32).toInt = 0 := rfl; omega
  exact Int32.toInt.inj e
set_option maxHeartbeats 4000000 in
theorem jj_lawret {l : Launch} {D : va_G} {cA : ClassId} {b L : Nat} {xs : Nat → Int32} {k n : Nat} {w : va_W} {lv : List (Option Value)} (hk : k ≤ 621398) (hn : n ≤ 7237431) : jjV l RL cL_law 8 (some .boolean) (jIl b L xs) wsL_law room_1 D cA (jEl b) k n w 325 lv [.int 1] := by
  refine jj_widen (k' := 621398) (n' := 7237431) hk hn ?_
  intro p e s m args below meth c A H locs ls hF hI hA hK hP hD hS hl
  by_cases ha : args = #[Value.ref b]
  · subst ha
    have K : W p l e room_1 s m #[Value.ref b] below meth c H locs 621398 7237431 (lw_Z below #[Value.ref b] s) (F0 m 325 ls [.int 1]) := by
      refine va_forget (fun q hq => hI.2.2.2 _ (hS.2.2 q hq)) ?_
      exact W.base (lw_ret (Drawn.sameBut.refl s.drawn lw_cs) hF.1 hF.2.1 hF.2.2.1 hF.2.2.2.2.2.2 dL_law_325)
    intro T hT X
    obtain ⟨t, a1, b1⟩ := K T hT X
    exact ⟨t, a1, fun _ => b1⟩
  · intro T hT X
    exact ⟨_, Steps.refl _, fun z => absurd z ha⟩
set_option maxHeartbeats 8000000 in
theorem v_law_time {l : Launch} (hl0 : l.stackTraces = false) {D : va_G} {cA : ClassId} {b L : Nat} {xs : Nat → Int32} (hL2 : L < 2 ^ 31) {PO PP : Nat → jS → Prop} {PR : Nat → Nat → jS → Prop} {PT : Nat → jS → Prop} (H : LawR (cellv L xs) PO PP PR PT) (ob ro ar : Nat → Nat) : ∀ t, t ≤ 50 → ∀ S, PT t S → jjV l RL cL_law 8 (some .boolean) (jIl b L xs) wsL_law room_1 D cA (jEl b) (1000 + 1000 * t) (10000 + 6000 * t) (jW cA ob ro ar S) 192 [some (.ref b), some (.ref (ob 0)), some (.int (nI t)), none, none, none, none, none] [] := by
  refine jdown 50 ?_ (fun t hi ih => ?_)
  · intro S hS
    refine jj_iload_n (pc := 192) 2 dL_law_192 rfl rfl ?_
    refine jj_bipush (pc := 193) (v := 50) dL_law_193 rfl ?_
    refine jj_icmp_ge (pc := 195) 324 dL_law_195 (by decide) (fun h195 => ?_) (fun h195 => ?_)
    · refine jj_iconst (pc := 324) (v := 1) dL_law_324 rfl ?_
      exact jj_lawret (by omega) (by omega)
    · exact absurd (by decide) h195
  · intro S hS
    refine jj_iload_n (pc := 192) 2 dL_law_192 rfl rfl ?_
    refine jj_bipush (pc := 193) (v := 50) dL_law_193 rfl ?_
    refine jj_icmp_ge (pc := 195) 324 dL_law_195 (by decide) (fun h195 => ?_) (fun h195 => ?_)
    · exact absurd h195 (nI_ge hi (by decide))
    · refine jj_aload_n (pc := 198) 0 dL_law_198 rfl rfl ?_
      refine jj_bipush (pc := 199) (v := 7) dL_law_199 rfl ?_
      refine jj_iload_n (pc := 201) 2 dL_law_201 rfl rfl ?_
      refine jj_bipush (pc := 202) (v := 22) dL_law_202 rfl ?_
      refine jj_irem (pc := 204) dL_law_204 (by decide) ?_
      refine jj_iadd (pc := 205) dL_law_205 ?_
      refine jj_callSS (pc := 206) _ (c_L_cell l D cA _ hL2 _ (jck t hi)) (fun _ _ _ _ h => h.1) dL_law_206 gL_law_L_cell jm_L_cell (by decide) rfl rfl (Nat.le_of_ble_eq_true rfl) ⟨by show _ ≤ 621398; omega, by show _ ≤ 7237431; omega⟩ ?_
      refine jj_iload_n (pc := 209) 2 dL_law_209 rfl rfl ?_
      refine jj_bipush (pc := 210) (v := 22) dL_law_210 rfl ?_
      refine jj_idiv (pc := 212) dL_law_212 (by decide) ?_
      refine jj_bipush (pc := 213) (v := 8) dL_law_213 rfl ?_
      refine jj_imul (pc := 215) dL_law_215 ?_
      refine jj_ishr (pc := 216) dL_law_216 ?_
      refine jj_istore_n_3 (pc := 217) dL_law_217 rfl rfl (by decide) ?_
      refine jj_aload_n (pc := 218) 1 dL_law_218 rfl rfl ?_
      refine jj_callSL (pc := 219) _ (c_L_done l hl0 D cA ob ro ar _ (H.t t S hi hS).1) (fun _ _ _ _ h => h.2.1.1) dL_law_219 gL_law_L_done jm_L_done (by decide) rfl rfl (Nat.le_of_ble_eq_true rfl) ⟨by show _ ≤ 621398; omega, by show _ ≤ 7237431; omega⟩ (fun r9 w9 hQ9 => ?_)
      obtain ⟨rfl, rfl⟩ := hQ9
      refine jj_istore_4 (pc := 222) dL_law_222 rfl (by decide) ?_
      refine jj_iload_n (pc := 224) 3 dL_law_224 rfl rfl ?_
      refine jj_bipush (pc := 225) (v := 14) dL_law_225 rfl ?_
      refine jj_callSr (pc := 227) _ (c_L_below l D cA _ _ _ (by decide)) dL_law_227 gL_law_L_below jm_L_below (by decide) rfl rfl (Nat.le_of_ble_eq_true rfl) ⟨by show _ ≤ 621398; omega, by show _ ≤ 7237431; omega⟩ ?_
      refine jj_bipush (pc := 230) (v := 13) dL_law_230 rfl ?_
      refine jj_icmp_ne (pc := 232) 239 dL_law_232 (by decide) (fun h232 => ?_) (fun h232 => ?_)
      · refine jj_iconst (pc := 239) (v := 0) dL_law_239 rfl ?_
        refine jj_istore_5 (pc := 240) dL_law_240 rfl (by decide) ?_
        refine jj_aload_n (pc := 242) 1 dL_law_242 rfl rfl ?_
        refine jj_iload_n (pc := 243) 3 dL_law_243 rfl rfl ?_
        refine jj_callSA (pc := 244) _ (c_L_act l hl0 D cA ob ro ar S _ _ (H.t t S hi hS).2) (fun _ _ _ _ h => h.2.1) dL_law_244 gL_law_L_act jm_L_act (by decide) rfl rfl (Nat.le_of_ble_eq_true rfl) ⟨by show _ ≤ 621398; omega, by show _ ≤ 7237431; omega⟩ (fun r9 w9 hQ9 => ?_)
        obtain ⟨rfl, S', rfl, F⟩ := hQ9
        refine jj_if_eq (pc := 247) 264 dL_law_247 (by decide) (fun h247 => ?_) (fun h247 => ?_)
        · exact absurd h247 (by decide)
        · refine jj_iload (pc := 250) dL_law_250 rfl ?_
          refine jj_if_ne (pc := 252) 266 dL_law_252 (by decide) (fun h252 => ?_) (fun h252 => ?_)
          · exact absurd rfl h252
          · refine jj_aload_n (pc := 255) 1 dL_law_255 rfl rfl ?_
            refine jj_callSL (pc := 256) _ (c_L_done l hl0 D cA ob ro ar _ F.n) (fun _ _ _ _ h => h.2.1.1) dL_law_256 gL_law_L_done jm_L_done (by decide) rfl rfl (Nat.le_of_ble_eq_true rfl) ⟨by show _ ≤ 621398; omega, by show _ ≤ 7237431; omega⟩ (fun r9 w9 hQ9 => ?_)
            obtain ⟨rfl, rfl⟩ := hQ9
            refine jj_iload (pc := 259) dL_law_259 rfl ?_
            refine jj_icmp_ge (pc := 261) 266 dL_law_261 (by decide) (fun h261 => ?_) (fun h261 => ?_)
            · refine jj_iload_n (pc := 266) 2 dL_law_266 rfl rfl ?_
              refine jj_bipush (pc := 267) (v := 8) dL_law_267 rfl ?_
              refine jj_irem (pc := 269) dL_law_269 (by decide) ?_
              refine jj_bipush (pc := 270) (v := 7) dL_law_270 rfl ?_
              refine jj_icmp_eq (pc := 272) 278 dL_law_272 (by decide) (fun h272 => ?_) (fun h272 => ?_)
              · refine jj_aload_n (pc := 278) 1 dL_law_278 rfl rfl ?_
                refine jj_callVr (pc := 279) _ (c_X7_digest l D cA ob ro ar _) dL_law_279 gL_law_X7_digest jm_X7_digest rfl (by decide) 0 jq_0 rfl rfl rfl (Nat.le_of_ble_eq_true rfl) ⟨by show _ ≤ 621398; omega, by show _ ≤ 7237431; omega⟩ ?_
                refine jj_lstore_6 (pc := 282) dL_law_282 rfl (by decide) ?_
                refine jj_aload_n (pc := 284) 1 dL_law_284 rfl rfl ?_
                refine jj_callSL (pc := 285) _ (c_L_areSymbolsRight l hl0 D cA ob ro ar _ (F.sy h272)) (fun _ _ _ _ h => h.2.1.1) dL_law_285 gL_law_L_areSymbolsRight jm_L_areSymbolsRight (by decide) rfl rfl (Nat.le_of_ble_eq_true rfl) ⟨by show _ ≤ 621398; omega, by show _ ≤ 7237431; omega⟩ (fun r9 w9 hQ9 => ?_)
                obtain ⟨rfl, rfl⟩ := hQ9
                refine jj_if_eq (pc := 288) 316 dL_law_288 (by decide) (fun h288 => ?_) (fun h288 => ?_)
                · exact absurd h288 (by decide)
                · refine jj_aload_n (pc := 291) 1 dL_law_291 rfl rfl ?_
                  refine jj_callSL (pc := 292) _ (c_L_arePatchesRight l hl0 D cA ob ro ar _ (F.pa h272)) (fun _ _ _ _ h => h.2.1.1) dL_law_292 gL_law_L_arePatchesRight jm_L_arePatchesRight (by decide) rfl rfl (Nat.le_of_ble_eq_true rfl) ⟨by show _ ≤ 621398; omega, by show _ ≤ 7237431; omega⟩ (fun r9 w9 hQ9 => ?_)
                  obtain ⟨rfl, rfl⟩ := hQ9
                  refine jj_if_eq (pc := 295) 316 dL_law_295 (by decide) (fun h295 => ?_) (fun h295 => ?_)
                  · exact absurd h295 (by decide)
                  · refine jj_aload_n (pc := 298) 1 dL_law_298 rfl rfl ?_
                    refine jj_iload_n (pc := 299) 3 dL_law_299 rfl rfl ?_
                    refine jj_callSL (pc := 300) _ (c_L_areNumbersRight l hl0 D cA ob ro ar _ _ (F.nu h272)) (fun _ _ _ _ h => h.2.1.1) dL_law_300 gL_law_L_areNumbersRight jm_L_areNumbersRight (by decide) rfl rfl (Nat.le_of_ble_eq_true rfl) ⟨by show _ ≤ 621398; omega, by show _ ≤ 7237431; omega⟩ (fun r9 w9 hQ9 => ?_)
                    obtain ⟨rfl, rfl⟩ := hQ9
                    refine jj_if_eq (pc := 303) 316 dL_law_303 (by decide) (fun h303 => ?_) (fun h303 => ?_)
                    · exact absurd h303 (by decide)
                    · refine jj_aload_n (pc := 306) 1 dL_law_306 rfl rfl ?_
                      refine jj_callVr (pc := 307) _ (c_X7_digest l D cA ob ro ar _) dL_law_307 gL_law_X7_digest jm_X7_digest rfl (by decide) 0 jq_0 rfl rfl rfl (Nat.le_of_ble_eq_true rfl) ⟨by show _ ≤ 621398; omega, by show _ ≤ 7237431; omega⟩ ?_
                      refine jj_lload (pc := 310) dL_law_310 rfl ?_
                      refine jj_lcmp (pc := 312) dL_law_312 ?_
                      refine jj_if_eq (pc := 313) 318 dL_law_313 (by decide) (fun h313 => ?_) (fun h313 => ?_)
                      · refine jj_iinc_2 (pc := 318) (z := 1) dL_law_318 rfl rfl (by decide) ?_
                        refine jj_goto (pc := 321) 192 dL_law_321 (by decide) ?_
                        refine jj_widen (k' := 1000 + 1000 * (t + 1)) (n' := 10000 + 6000 * (t + 1)) (by omega) (by omega) ?_
                        have h9 := ih _ (F.e h272)
                        rw [nI_succ] at h9
                        refine jj_sub ?_ h9
                        exact (jjLe_some (jjLe_some (jjLe_some (jjLe_none (jjLe_none (jjLe_none (jjLe_none (jjLe_none jjLe_nil))))))))
                      · exact absurd (F.dg h272) h313
              · refine jj_goto (pc := 275) 318 dL_law_275 (by decide) ?_
                refine jj_iinc_2 (pc := 318) (z := 1) dL_law_318 rfl rfl (by decide) ?_
                refine jj_goto (pc := 321) 192 dL_law_321 (by decide) ?_
                refine jj_widen (k' := 1000 + 1000 * (t + 1)) (n' := 10000 + 6000 * (t + 1)) (by omega) (by omega) ?_
                have h9 := ih _ (F.o h272)
                rw [nI_succ] at h9
                refine jj_sub ?_ h9
                exact (jjLe_some (jjLe_some (jjLe_some (jjLe_none (jjLe_none (jjLe_none (jjLe_none (jjLe_none jjLe_nil))))))))
            · exact absurd (F.d h232) h261
      · refine jj_iconst (pc := 235) (v := 1) dL_law_235 rfl ?_
        refine jj_goto (pc := 236) 240 dL_law_236 (by decide) ?_
        refine jj_istore_5 (pc := 240) dL_law_240 rfl (by decide) ?_
        refine jj_aload_n (pc := 242) 1 dL_law_242 rfl rfl ?_
        refine jj_iload_n (pc := 243) 3 dL_law_243 rfl rfl ?_
        refine jj_callSA (pc := 244) _ (c_L_act l hl0 D cA ob ro ar S _ _ (H.t t S hi hS).2) (fun _ _ _ _ h => h.2.1) dL_law_244 gL_law_L_act jm_L_act (by decide) rfl rfl (Nat.le_of_ble_eq_true rfl) ⟨by show _ ≤ 621398; omega, by show _ ≤ 7237431; omega⟩ (fun r9 w9 hQ9 => ?_)
        obtain ⟨rfl, S', rfl, F⟩ := hQ9
        refine jj_if_eq (pc := 247) 264 dL_law_247 (by decide) (fun h247 => ?_) (fun h247 => ?_)
        · exact absurd h247 (by decide)
        · refine jj_iload (pc := 250) dL_law_250 rfl ?_
          refine jj_if_ne (pc := 252) 266 dL_law_252 (by decide) (fun h252 => ?_) (fun h252 => ?_)
          · refine jj_iload_n (pc := 266) 2 dL_law_266 rfl rfl ?_
            refine jj_bipush (pc := 267) (v := 8) dL_law_267 rfl ?_
            refine jj_irem (pc := 269) dL_law_269 (by decide) ?_
            refine jj_bipush (pc := 270) (v := 7) dL_law_270 rfl ?_
            refine jj_icmp_eq (pc := 272) 278 dL_law_272 (by decide) (fun h272 => ?_) (fun h272 => ?_)
            · refine jj_aload_n (pc := 278) 1 dL_law_278 rfl rfl ?_
              refine jj_callVr (pc := 279) _ (c_X7_digest l D cA ob ro ar _) dL_law_279 gL_law_X7_digest jm_X7_digest rfl (by decide) 0 jq_0 rfl rfl rfl (Nat.le_of_ble_eq_true rfl) ⟨by show _ ≤ 621398; omega, by show _ ≤ 7237431; omega⟩ ?_
              refine jj_lstore_6 (pc := 282) dL_law_282 rfl (by decide) ?_
              refine jj_aload_n (pc := 284) 1 dL_law_284 rfl rfl ?_
              refine jj_callSL (pc := 285) _ (c_L_areSymbolsRight l hl0 D cA ob ro ar _ (F.sy h272)) (fun _ _ _ _ h => h.2.1.1) dL_law_285 gL_law_L_areSymbolsRight jm_L_areSymbolsRight (by decide) rfl rfl (Nat.le_of_ble_eq_true rfl) ⟨by show _ ≤ 621398; omega, by show _ ≤ 7237431; omega⟩ (fun r9 w9 hQ9 => ?_)
              obtain ⟨rfl, rfl⟩ := hQ9
              refine jj_if_eq (pc := 288) 316 dL_law_288 (by decide) (fun h288 => ?_) (fun h288 => ?_)
              · exact absurd h288 (by decide)
              · refine jj_aload_n (pc := 291) 1 dL_law_291 rfl rfl ?_
                refine jj_callSL (pc := 292) _ (c_L_arePatchesRight l hl0 D cA ob ro ar _ (F.pa h272)) (fun _ _ _ _ h => h.2.1.1) dL_law_292 gL_law_L_arePatchesRight jm_L_arePatchesRight (by decide) rfl rfl (Nat.le_of_ble_eq_true rfl) ⟨by show _ ≤ 621398; omega, by show _ ≤ 7237431; omega⟩ (fun r9 w9 hQ9 => ?_)
                obtain ⟨rfl, rfl⟩ := hQ9
                refine jj_if_eq (pc := 295) 316 dL_law_295 (by decide) (fun h295 => ?_) (fun h295 => ?_)
                · exact absurd h295 (by decide)
                · refine jj_aload_n (pc := 298) 1 dL_law_298 rfl rfl ?_
                  refine jj_iload_n (pc := 299) 3 dL_law_299 rfl rfl ?_
                  refine jj_callSL (pc := 300) _ (c_L_areNumbersRight l hl0 D cA ob ro ar _ _ (F.nu h272)) (fun _ _ _ _ h => h.2.1.1) dL_law_300 gL_law_L_areNumbersRight jm_L_areNumbersRight (by decide) rfl rfl (Nat.le_of_ble_eq_true rfl) ⟨by show _ ≤ 621398; omega, by show _ ≤ 7237431; omega⟩ (fun r9 w9 hQ9 => ?_)
                  obtain ⟨rfl, rfl⟩ := hQ9
                  refine jj_if_eq (pc := 303) 316 dL_law_303 (by decide) (fun h303 => ?_) (fun h303 => ?_)
                  · exact absurd h303 (by decide)
                  · refine jj_aload_n (pc := 306) 1 dL_law_306 rfl rfl ?_
                    refine jj_callVr (pc := 307) _ (c_X7_digest l D cA ob ro ar _) dL_law_307 gL_law_X7_digest jm_X7_digest rfl (by decide) 0 jq_0 rfl rfl rfl (Nat.le_of_ble_eq_true rfl) ⟨by show _ ≤ 621398; omega, by show _ ≤ 7237431; omega⟩ ?_
                    refine jj_lload (pc := 310) dL_law_310 rfl ?_
                    refine jj_lcmp (pc := 312) dL_law_312 ?_
                    refine jj_if_eq (pc := 313) 318 dL_law_313 (by decide) (fun h313 => ?_) (fun h313 => ?_)
                    · refine jj_iinc_2 (pc := 318) (z := 1) dL_law_318 rfl rfl (by decide) ?_
                      refine jj_goto (pc := 321) 192 dL_law_321 (by decide) ?_
                      refine jj_widen (k' := 1000 + 1000 * (t + 1)) (n' := 10000 + 6000 * (t + 1)) (by omega) (by omega) ?_
                      have h9 := ih _ (F.e h272)
                      rw [nI_succ] at h9
                      refine jj_sub ?_ h9
                      exact (jjLe_some (jjLe_some (jjLe_some (jjLe_none (jjLe_none (jjLe_none (jjLe_none (jjLe_none jjLe_nil))))))))
                    · exact absurd (F.dg h272) h313
            · refine jj_goto (pc := 275) 318 dL_law_275 (by decide) ?_
              refine jj_iinc_2 (pc := 318) (z := 1) dL_law_318 rfl rfl (by decide) ?_
              refine jj_goto (pc := 321) 192 dL_law_321 (by decide) ?_
              refine jj_widen (k' := 1000 + 1000 * (t + 1)) (n' := 10000 + 6000 * (t + 1)) (by omega) (by omega) ?_
              have h9 := ih _ (F.o h272)
              rw [nI_succ] at h9
              refine jj_sub ?_ h9
              exact (jjLe_some (jjLe_some (jjLe_some (jjLe_none (jjLe_none (jjLe_none (jjLe_none (jjLe_none jjLe_nil))))))))
          · exact absurd h252 (by decide)
set_option maxHeartbeats 8000000 in
theorem v_law_pieces {l : Launch} (hl0 : l.stackTraces = false) {D : va_G} {cA : ClassId} {b L : Nat} {xs : Nat → Int32} (hL2 : L < 2 ^ 31) {PO PP : Nat → jS → Prop} {PR : Nat → Nat → jS → Prop} {PT : Nat → jS → Prop} (H : LawR (cellv L xs) PO PP PR PT) (ob ro ar : Nat → Nat) : ∀ k, k ≤ 6 → ∀ S, PP k S → jjV l RL cL_law 8 (some .boolean) (jIl b L xs) wsL_law room_1 D cA (jEl b) (200 + 20 * k) (4000 + 120 * k) (jW cA ob ro ar S) 71 [some (.ref b), some (.ref (ob 0)), some (.int (nI k)), none, none, none, none, none] [] := by
  refine jdown 6 ?_ (fun k hi ih => ?_)
  · intro S hS
    refine jj_iload_n (pc := 71) 2 dL_law_71 rfl rfl ?_
    refine jj_bipush (pc := 72) (v := 6) dL_law_72 rfl ?_
    refine jj_icmp_ge (pc := 74) 185 dL_law_74 (by decide) (fun h74 => ?_) (fun h74 => ?_)
    · refine jj_aload_n (pc := 185) 1 dL_law_185 rfl rfl ?_
      refine jj_callXr (pc := 186) _ (c_X7_link l hl0 D cA ob ro ar _) (H.l S hS).1 (fun _ _ _ _ h => h.2.1.1) dL_law_186 gL_law_X7_link jm_X7_link rfl (by decide) 0 jq_0 rfl rfl rfl (Nat.le_of_ble_eq_true rfl) ⟨by show _ ≤ 621398; omega, by show _ ≤ 7237431; omega⟩ ?_
      refine jj_pop (pc := 189) dL_law_189 rfl ?_
      refine jj_iconst (pc := 190) (v := 0) dL_law_190 rfl ?_
      refine jj_istore_n_2 (pc := 191) dL_law_191 rfl rfl (by decide) ?_
      refine jj_widen (k' := 1000 + 1000 * 0) (n' := 10000 + 6000 * 0) (by omega) (by omega) ?_
      exact v_law_time hl0 hL2 H ob ro ar 0 (Nat.zero_le _) _ (H.l S hS).2
    · exact absurd (by decide) h74
  · intro S hS
    refine jj_iload_n (pc := 71) 2 dL_law_71 rfl rfl ?_
    refine jj_bipush (pc := 72) (v := 6) dL_law_72 rfl ?_
    refine jj_icmp_ge (pc := 74) 185 dL_law_74 (by decide) (fun h74 => ?_) (fun h74 => ?_)
    · exact absurd h74 (nI_ge hi (by decide))
    · refine jj_aload_n (pc := 77) 1 dL_law_77 rfl rfl ?_
      refine jj_aload_n (pc := 78) 0 dL_law_78 rfl rfl ?_
      refine jj_iconst (pc := 79) (v := 1) dL_law_79 rfl ?_
      refine jj_iload_n (pc := 80) 2 dL_law_80 rfl rfl ?_
      refine jj_iadd (pc := 81) dL_law_81 ?_
      refine jj_callSS (pc := 82) _ (c_L_cell l D cA _ hL2 _ (jcp k hi)) (fun _ _ _ _ h => h.1) dL_law_82 gL_law_L_cell jm_L_cell (by decide) rfl rfl (Nat.le_of_ble_eq_true rfl) ⟨by show _ ≤ 621398; omega, by show _ ≤ 7237431; omega⟩ ?_
      refine jj_iconst (pc := 85) (v := 3) dL_law_85 rfl ?_
      refine jj_callSr (pc := 86) _ (c_L_below l D cA _ _ _ (by decide)) dL_law_86 gL_law_L_below jm_L_below (by decide) rfl rfl (Nat.le_of_ble_eq_true rfl) ⟨by show _ ≤ 621398; omega, by show _ ≤ 7237431; omega⟩ ?_
      refine jj_iload_n (pc := 89) 2 dL_law_89 rfl rfl ?_
      refine jj_iconst (pc := 90) (v := 1) dL_law_90 rfl ?_
      refine jj_aload_n (pc := 91) 0 dL_law_91 rfl rfl ?_
      refine jj_iconst (pc := 92) (v := 1) dL_law_92 rfl ?_
      refine jj_iload_n (pc := 93) 2 dL_law_93 rfl rfl ?_
      refine jj_iadd (pc := 94) dL_law_94 ?_
      refine jj_callSS (pc := 95) _ (c_L_cell l D cA _ hL2 _ (jcp k hi)) (fun _ _ _ _ h => h.1) dL_law_95 gL_law_L_cell jm_L_cell (by decide) rfl rfl (Nat.le_of_ble_eq_true rfl) ⟨by show _ ≤ 621398; omega, by show _ ≤ 7237431; omega⟩ ?_
      refine jj_iconst (pc := 98) (v := 3) dL_law_98 rfl ?_
      refine jj_ishr (pc := 99) dL_law_99 ?_
      refine jj_bipush (pc := 100) (v := 20) dL_law_100 rfl ?_
      refine jj_callSr (pc := 102) _ (c_L_below l D cA _ _ _ (by decide)) dL_law_102 gL_law_L_below jm_L_below (by decide) rfl rfl (Nat.le_of_ble_eq_true rfl) ⟨by show _ ≤ 621398; omega, by show _ ≤ 7237431; omega⟩ ?_
      refine jj_iadd (pc := 105) dL_law_105 ?_
      refine jj_iconst (pc := 106) (v := 0) dL_law_106 rfl ?_
      refine jj_callXr (pc := 107) _ (c_X7_piece l hl0 D cA ob ro ar _ _ _ _ _) (H.p1 k S hi hS) (fun _ _ _ _ h => h.2.1.1) dL_law_107 gL_law_X7_piece jm_X7_piece rfl (by decide) 0 jq_0 rfl rfl rfl (Nat.le_of_ble_eq_true rfl) ⟨by show _ ≤ 621398; omega, by show _ ≤ 7237431; omega⟩ ?_
      refine jj_pop (pc := 110) dL_law_110 rfl ?_
      refine jj_aload_n (pc := 111) 0 dL_law_111 rfl rfl ?_
      refine jj_iconst (pc := 112) (v := 1) dL_law_112 rfl ?_
      refine jj_iload_n (pc := 113) 2 dL_law_113 rfl rfl ?_
      refine jj_iadd (pc := 114) dL_law_114 ?_
      refine jj_callSS (pc := 115) _ (c_L_cell l D cA _ hL2 _ (jcp k hi)) (fun _ _ _ _ h => h.1) dL_law_115 gL_law_L_cell jm_L_cell (by decide) rfl rfl (Nat.le_of_ble_eq_true rfl) ⟨by show _ ≤ 621398; omega, by show _ ≤ 7237431; omega⟩ ?_
      refine jj_iconst (pc := 118) (v := 5) dL_law_118 rfl ?_
      refine jj_ishr (pc := 119) dL_law_119 ?_
      refine jj_iconst (pc := 120) (v := 3) dL_law_120 rfl ?_
      refine jj_callSr (pc := 121) _ (c_L_below l D cA _ _ _ (by decide)) dL_law_121 gL_law_L_below jm_L_below (by decide) rfl rfl (Nat.le_of_ble_eq_true rfl) ⟨by show _ ≤ 621398; omega, by show _ ≤ 7237431; omega⟩ ?_
      refine jj_istore_n_3 (pc := 124) dL_law_124 rfl rfl (by decide) ?_
      have KJ : ∀ j, j ≤ 2 → ∀ S, PR k j S → jjV l RL cL_law 8 (some .boolean) (jIl b L xs) wsL_law room_1 D cA (jEl b) (205 + 20 * k + (2 - j)) (4050 + 120 * k + 6 * (2 - j)) (jW cA ob ro ar S) 125 [some (.ref b), some (.ref (ob 0)), some (.int (nI k)), some (.int (nI j)), none, none, none, none] [] := by
        intro j
        induction j with
        | zero =>
          intro _ S hS
          refine jj_iload_n (pc := 125) 3 dL_law_125 rfl rfl ?_
          refine jj_if_le (pc := 126) 179 dL_law_126 (by decide) (fun h126 => ?_) (fun h126 => ?_)
          · refine jj_iinc_2 (pc := 179) (z := 1) dL_law_179 rfl rfl (by decide) ?_
            refine jj_goto (pc := 182) 71 dL_law_182 (by decide) ?_
            refine jj_widen (k' := 200 + 20 * (k + 1)) (n' := 4000 + 120 * (k + 1)) (by omega) (by omega) ?_
            have h9 := ih S (H.r0 k S hi hS)
            rw [nI_succ] at h9
            refine jj_sub ?_ h9
            exact (jjLe_some (jjLe_some (jjLe_some (jjLe_none (jjLe_none (jjLe_none (jjLe_none (jjLe_none jjLe_nil))))))))
          · exact absurd (by decide) h126
        | succ j ihj =>
          intro hj2 S hS
          have hj : j < 2 := by omega
          refine jj_widen (k' := 205 + 20 * k + (2 - (j + 1))) (n' := 4050 + 120 * k + 6 * (2 - (j + 1))) (by omega) (by omega) ?_
          refine jj_iload_n (pc := 125) 3 dL_law_125 rfl rfl ?_
          refine jj_if_le (pc := 126) 179 dL_law_126 (by decide) (fun h126 => ?_) (fun h126 => ?_)
          · exact absurd h126 (by rw [Int32.not_le]; exact nI_lt (a := 0) (b := j + 1) (by omega) (by omega))
          · refine jj_aload_n (pc := 129) 1 dL_law_129 rfl rfl ?_
            refine jj_iload_n (pc := 130) 2 dL_law_130 rfl rfl ?_
            refine jj_aload_n (pc := 131) 0 dL_law_131 rfl rfl ?_
            refine jj_iconst (pc := 132) (v := 1) dL_law_132 rfl ?_
            refine jj_iload_n (pc := 133) 2 dL_law_133 rfl rfl ?_
            refine jj_iadd (pc := 134) dL_law_134 ?_
            refine jj_callSS (pc := 135) _ (c_L_cell l D cA _ hL2 _ (jcp k hi)) (fun _ _ _ _ h => h.1) dL_law_135 gL_law_L_cell jm_L_cell (by decide) rfl rfl (Nat.le_of_ble_eq_true rfl) ⟨by show _ ≤ 621398; omega, by show _ ≤ 7237431; omega⟩ ?_
            refine jj_iconst (pc := 138) (v := 3) dL_law_138 rfl ?_
            refine jj_iload_n (pc := 139) 3 dL_law_139 rfl rfl ?_
            refine jj_imul (pc := 140) dL_law_140 ?_
            refine jj_ishr (pc := 141) dL_law_141 ?_
            refine jj_bipush (pc := 142) (v := 6) dL_law_142 rfl ?_
            refine jj_callSr (pc := 144) _ (c_L_below l D cA _ _ _ (by decide)) dL_law_144 gL_law_L_below jm_L_below (by decide) rfl rfl (Nat.le_of_ble_eq_true rfl) ⟨by show _ ≤ 621398; omega, by show _ ≤ 7237431; omega⟩ ?_
            refine jj_aload_n (pc := 147) 0 dL_law_147 rfl rfl ?_
            refine jj_iconst (pc := 148) (v := 1) dL_law_148 rfl ?_
            refine jj_iload_n (pc := 149) 2 dL_law_149 rfl rfl ?_
            refine jj_iadd (pc := 150) dL_law_150 ?_
            refine jj_callSS (pc := 151) _ (c_L_cell l D cA _ hL2 _ (jcp k hi)) (fun _ _ _ _ h => h.1) dL_law_151 gL_law_L_cell jm_L_cell (by decide) rfl rfl (Nat.le_of_ble_eq_true rfl) ⟨by show _ ≤ 621398; omega, by show _ ≤ 7237431; omega⟩ ?_
            refine jj_bipush (pc := 154) (v := 6) dL_law_154 rfl ?_
            refine jj_ishr (pc := 156) dL_law_156 ?_
            refine jj_iconst (pc := 157) (v := 3) dL_law_157 rfl ?_
            refine jj_callSr (pc := 158) _ (c_L_below l D cA _ _ _ (by decide)) dL_law_158 gL_law_L_below jm_L_below (by decide) rfl rfl (Nat.le_of_ble_eq_true rfl) ⟨by show _ ≤ 621398; omega, by show _ ≤ 7237431; omega⟩ ?_
            refine jj_if_le (pc := 161) 168 dL_law_161 (by decide) (fun h161 => ?_) (fun h161 => ?_)
            · refine jj_iconst (pc := 168) (v := 0) dL_law_168 rfl ?_
              refine jj_callXr (pc := 169) _ (c_X7_refer l hl0 D cA ob ro ar _ _ _ _) (H.r1 k j S hi hj hS 0 (Or.inl rfl)).1 (fun _ _ _ _ h => h.2.1.1) dL_law_169 gL_law_X7_refer jm_X7_refer rfl (by decide) 0 jq_0 rfl rfl rfl (Nat.le_of_ble_eq_true rfl) ⟨by show _ ≤ 621398; omega, by show _ ≤ 7237431; omega⟩ ?_
              refine jj_pop (pc := 172) dL_law_172 rfl ?_
              refine jj_iinc_3 (pc := 173) (z := (-1)) dL_law_173 rfl rfl (by decide) ?_
              refine jj_goto (pc := 176) 125 dL_law_176 (by decide) ?_
              refine jj_widen (k' := 205 + 20 * k + (2 - j)) (n' := 4050 + 120 * k + 6 * (2 - j)) (by omega) (by omega) ?_
              have h9 := ihj (by omega) _ (H.r1 k j S hi hj hS 0 (Or.inl rfl)).2
              rw [nI_m hj]
              exact h9
            · refine jj_iconst (pc := 164) (v := 1) dL_law_164 rfl ?_
              refine jj_goto (pc := 165) 169 dL_law_165 (by decide) ?_
              refine jj_callXr (pc := 169) _ (c_X7_refer l hl0 D cA ob ro ar _ _ _ _) (H.r1 k j S hi hj hS 1 (Or.inr rfl)).1 (fun _ _ _ _ h => h.2.1.1) dL_law_169 gL_law_X7_refer jm_X7_refer rfl (by decide) 0 jq_0 rfl rfl rfl (Nat.le_of_ble_eq_true rfl) ⟨by show _ ≤ 621398; omega, by show _ ≤ 7237431; omega⟩ ?_
              refine jj_pop (pc := 172) dL_law_172 rfl ?_
              refine jj_iinc_3 (pc := 173) (z := (-1)) dL_law_173 rfl rfl (by decide) ?_
              refine jj_goto (pc := 176) 125 dL_law_176 (by decide) ?_
              refine jj_widen (k' := 205 + 20 * k + (2 - j)) (n' := 4050 + 120 * k + 6 * (2 - j)) (by omega) (by omega) ?_
              have h9 := ihj (by omega) _ (H.r1 k j S hi hj hS 1 (Or.inr rfl)).2
              rw [nI_m hj]
              exact h9
      refine jj_widen (k' := 205 + 20 * k + (2 - (blw (cellv L xs (1 + nI k) >>> (5 &&& 31)) 3).toNatClampNeg)) (n' := 4050 + 120 * k + 6 * (2 - (blw (cellv L xs (1 + nI k) >>> (5 &&& 31)) 3).toNatClampNeg)) (by omega) (by omega) ?_
      have h9 := KJ _ (H.j2 k hi).1 _ (H.p2 k S hi hS)
      rw [← cv_of rfl (H.j2 k hi).2] at h9
      exact h9
set_option maxHeartbeats 8000000 in
theorem v_law_objects {l : Launch} (hl0 : l.stackTraces = false) {D : va_G} {cA : ClassId} {b L : Nat} {xs : Nat → Int32} (hL2 : L < 2 ^ 31) {PO PP : Nat → jS → Prop} {PR : Nat → Nat → jS → Prop} {PT : Nat → jS → Prop} (H : LawR (cellv L xs) PO PP PR PT) (ob ro ar : Nat → Nat) : ∀ k, k ≤ 3 → ∀ S, PO k S → jjV l RL cL_law 8 (some .boolean) (jIl b L xs) wsL_law room_1 D cA (jEl b) (100 + 2 * k) (3000 + 12 * k) (jW cA ob ro ar S) 28 [some (.ref b), some (.ref (ob 0)), some (.int (nI k)), none, none, none, none, none] [] := by
  refine jdown 3 ?_ (fun k hi ih => ?_)
  · intro S hS
    refine jj_iload_n (pc := 28) 2 dL_law_28 rfl rfl ?_
    refine jj_iconst (pc := 29) (v := 3) dL_law_29 rfl ?_
    refine jj_icmp_ge (pc := 30) 69 dL_law_30 (by decide) (fun h30 => ?_) (fun h30 => ?_)
    · refine jj_iconst (pc := 69) (v := 0) dL_law_69 rfl ?_
      refine jj_istore_n_2 (pc := 70) dL_law_70 rfl rfl (by decide) ?_
      refine jj_widen (k' := 200 + 20 * 0) (n' := 4000 + 120 * 0) (by omega) (by omega) ?_
      exact v_law_pieces hl0 hL2 H ob ro ar 0 (Nat.zero_le _) _ (H.p0 S hS)
    · exact absurd (by decide) h30
  · intro S hS
    refine jj_iload_n (pc := 28) 2 dL_law_28 rfl rfl ?_
    refine jj_iconst (pc := 29) (v := 3) dL_law_29 rfl ?_
    refine jj_icmp_ge (pc := 30) 69 dL_law_30 (by decide) (fun h30 => ?_) (fun h30 => ?_)
    · exact absurd h30 (nI_ge hi (by decide))
    · refine jj_aload_n (pc := 33) 1 dL_law_33 rfl rfl ?_
      refine jj_iload_n (pc := 34) 2 dL_law_34 rfl rfl ?_
      refine jj_if_le (pc := 35) 58 dL_law_35 (by decide) (fun h35 => ?_) (fun h35 => ?_)
      · refine jj_iconst (pc := 58) (v := 0) dL_law_58 rfl ?_
        refine jj_callXr (pc := 59) _ (c_X7_object l hl0 D cA ob ro ar _ _) (H.o1 k S hi hS 0 (Or.inl rfl)).1 (fun _ _ _ _ h => h.2.1.1) dL_law_59 gL_law_X7_object jm_X7_object rfl (by decide) 0 jq_0 rfl rfl rfl (Nat.le_of_ble_eq_true rfl) ⟨by show _ ≤ 621398; omega, by show _ ≤ 7237431; omega⟩ ?_
        refine jj_pop (pc := 62) dL_law_62 rfl ?_
        refine jj_iinc_2 (pc := 63) (z := 1) dL_law_63 rfl rfl (by decide) ?_
        refine jj_goto (pc := 66) 28 dL_law_66 (by decide) ?_
        refine jj_widen (k' := 100 + 2 * (k + 1)) (n' := 3000 + 12 * (k + 1)) (by omega) (by omega) ?_
        have h9 := ih _ (H.o1 k S hi hS 0 (Or.inl rfl)).2
        rw [nI_succ] at h9
        exact h9
      · refine jj_aload_n (pc := 38) 0 dL_law_38 rfl rfl ?_
        refine jj_iconst (pc := 39) (v := 0) dL_law_39 rfl ?_
        refine jj_callSS (pc := 40) _ (c_L_cell l D cA _ hL2 _ (by decide)) (fun _ _ _ _ h => h.1) dL_law_40 gL_law_L_cell jm_L_cell (by decide) rfl rfl (Nat.le_of_ble_eq_true rfl) ⟨by show _ ≤ 621398; omega, by show _ ≤ 7237431; omega⟩ ?_
        refine jj_iconst (pc := 43) (v := 4) dL_law_43 rfl ?_
        refine jj_iload_n (pc := 44) 2 dL_law_44 rfl rfl ?_
        refine jj_iadd (pc := 45) dL_law_45 ?_
        refine jj_ishr (pc := 46) dL_law_46 ?_
        refine jj_iconst (pc := 47) (v := 2) dL_law_47 rfl ?_
        refine jj_callSr (pc := 48) _ (c_L_below l D cA _ _ _ (by decide)) dL_law_48 gL_law_L_below jm_L_below (by decide) rfl rfl (Nat.le_of_ble_eq_true rfl) ⟨by show _ ≤ 621398; omega, by show _ ≤ 7237431; omega⟩ ?_
        refine jj_if_ne (pc := 51) 58 dL_law_51 (by decide) (fun h51 => ?_) (fun h51 => ?_)
        · refine jj_iconst (pc := 58) (v := 0) dL_law_58 rfl ?_
          refine jj_callXr (pc := 59) _ (c_X7_object l hl0 D cA ob ro ar _ _) (H.o1 k S hi hS 0 (Or.inl rfl)).1 (fun _ _ _ _ h => h.2.1.1) dL_law_59 gL_law_X7_object jm_X7_object rfl (by decide) 0 jq_0 rfl rfl rfl (Nat.le_of_ble_eq_true rfl) ⟨by show _ ≤ 621398; omega, by show _ ≤ 7237431; omega⟩ ?_
          refine jj_pop (pc := 62) dL_law_62 rfl ?_
          refine jj_iinc_2 (pc := 63) (z := 1) dL_law_63 rfl rfl (by decide) ?_
          refine jj_goto (pc := 66) 28 dL_law_66 (by decide) ?_
          refine jj_widen (k' := 100 + 2 * (k + 1)) (n' := 3000 + 12 * (k + 1)) (by omega) (by omega) ?_
          have h9 := ih _ (H.o1 k S hi hS 0 (Or.inl rfl)).2
          rw [nI_succ] at h9
          exact h9
        · refine jj_iconst (pc := 54) (v := 1) dL_law_54 rfl ?_
          refine jj_goto (pc := 55) 59 dL_law_55 (by decide) ?_
          refine jj_callXr (pc := 59) _ (c_X7_object l hl0 D cA ob ro ar _ _) (H.o1 k S hi hS 1 (Or.inr rfl)).1 (fun _ _ _ _ h => h.2.1.1) dL_law_59 gL_law_X7_object jm_X7_object rfl (by decide) 0 jq_0 rfl rfl rfl (Nat.le_of_ble_eq_true rfl) ⟨by show _ ≤ 621398; omega, by show _ ≤ 7237431; omega⟩ ?_
          refine jj_pop (pc := 62) dL_law_62 rfl ?_
          refine jj_iinc_2 (pc := 63) (z := 1) dL_law_63 rfl rfl (by decide) ?_
          refine jj_goto (pc := 66) 28 dL_law_66 (by decide) ?_
          refine jj_widen (k' := 100 + 2 * (k + 1)) (n' := 3000 + 12 * (k + 1)) (by omega) (by omega) ?_
          have h9 := ih _ (H.o1 k S hi hS 1 (Or.inr rfl)).2
          rw [nI_succ] at h9
          exact h9
set_option maxRecDepth 20000 in
set_option maxHeartbeats 8000000 in
theorem v_law {l : Launch} (hl0 : l.stackTraces = false) {D : va_G} {cA : ClassId} {b L : Nat} {xs : Nat → Int32} (hL2 : L < 2 ^ 31) {PO PP : Nat → jS → Prop} {PR : Nat → Nat → jS → Prop} {PT : Nat → jS → Prop} (H : LawR (cellv L xs) PO PP PR PT)  : jjV l RL cL_law 8 (some .boolean) (jIl b L xs) wsL_law room_1 D cA (jEl b) 0 0 [] 0 [some (.ref b), none, none, none, none, none, none, none] [] := by
  refine jj_new (pc := 0) (ci := 7) (fs := [.null, .null, .null, .null, .null, .null, .null, .int 0]) (w' := fun q => [(q, .inr (7, [.null, .null, .null, .null, .null, .null, .null, .int 0]))]) dL_law_0 rfl (by decide +kernel) tyX7 tyX7_ok (by decide +kernel) (by decide +kernel) (by decide +kernel) jdf_7 (by decide) (fun _ => rfl) (fun a => ?_)
  refine jj_dup (pc := 3) dL_law_3 rfl ?_
  refine jj_callXF (pc := 4) (wc := [(a, .inr (7, [.null, .null, .null, .null, .null, .null, .null, .int 0]))]) (wr := []) _ (c_X7_init l D cA a) (fun _ _ h => h.1) dL_law_4 gL_law_X7_init jm_X7_init rfl (by decide +kernel) (fun _ _ _ _ h => h.2.2.1) (by decide +kernel) (by decide +kernel) (by decide) [0] [] rfl rfl (by decide) rfl (by decide) (by decide) rfl rfl (Nat.le_of_ble_eq_true rfl) (by decide) (fun w9 hw9 => ?_)
  obtain ⟨-, q1, q2, b3, q4, b5, q6, b7, q8, b9, q10, b11, q12, b13, q14, b15, q16, b17, q18, q19, q20, b21, q22, b23, q24, b25, q26, b27, q28, b29, q30, b31, q32, b33, q34, b35, q36, q37, q38, b39, q40, b41, q42, b43, q44, b45, q46, b47, q48, b49, q50, q51, q52, b53, q54, b55, q56, b57, q58, b59, q60, b61, q62, b63, q64, q65, b66, q67, b68, q69, q70, b71, q72, b73, q74, b75, q76, b77, rfl⟩ := hw9
  refine jj_perm (w' := jW cA (fun i => [a, q1, q18, q36, q50, q64, q69, q19, q37, q51].getD i 0) (fun i => [q76, q2, q4, q6, q8, q10, q12, q14, q16, q26, q28, q30, q32, q34, q20, q22, q24, q38, q40, q42, q52, q54, q56, q44, q46, q48, q58, q60, q62, q65, q67, q70, q72, q74].getD i 0) (fun i => [b77, b3, b5, b7, b9, b11, b13, b15, b17, b27, b29, b31, b33, b35, b21, b23, b25, b39, b41, b43, b53, b55, b57, b45, b47, b49, b59, b61, b63, b66, b68, b71, b73, b75].getD i 0) jS0) [0, 1, 18, 36, 50, 64, 69, 19, 37, 51, 76, 2, 4, 6, 8, 10, 12, 14, 16, 26, 28, 30, 32, 34, 20, 22, 24, 38, 40, 42, 52, 54, 56, 44, 46, 48, 58, 60, 62, 65, 67, 70, 72, 74, 77, 3, 5, 7, 9, 11, 13, 15, 17, 27, 29, 31, 33, 35, 21, 23, 25, 39, 41, 43, 53, 55, 57, 45, 47, 49, 59, 61, 63, 66, 68, 71, 73, 75] rfl (by decide) rfl ?_
  generalize hob : (fun i => [a, q1, q18, q36, q50, q64, q69, q19, q37, q51].getD i 0) = ob
  have ha : a = ob 0 := by rw [← hob]; rfl
  generalize (fun i => [q76, q2, q4, q6, q8, q10, q12, q14, q16, q26, q28, q30, q32, q34, q20, q22, q24, q38, q40, q42, q52, q54, q56, q44, q46, q48, q58, q60, q62, q65, q67, q70, q72, q74].getD i 0) = ro
  generalize (fun i => [b77, b3, b5, b7, b9, b11, b13, b15, b17, b27, b29, b31, b33, b35, b21, b23, b25, b39, b41, b43, b53, b55, b57, b45, b47, b49, b59, b61, b63, b66, b68, b71, b73, b75].getD i 0) = ar
  rw [ha]
  clear ha hob
  refine jj_astore_n_1 (pc := 7) dL_law_7 rfl rfl (by decide) ?_
  refine jj_aload_n (pc := 8) 1 dL_law_8 rfl rfl ?_
  refine jj_bipush (pc := 9) (v := 10) dL_law_9 rfl ?_
  refine jj_aload_n (pc := 11) 0 dL_law_11 rfl rfl ?_
  refine jj_iconst (pc := 12) (v := 0) dL_law_12 rfl ?_
  refine jj_callSS (pc := 13) _ (c_L_cell l D cA _ hL2 _ (by decide)) (fun _ _ _ _ h => h.1) dL_law_13 gL_law_L_cell jm_L_cell (by decide) rfl rfl (Nat.le_of_ble_eq_true rfl) ⟨by show _ ≤ 621398; omega, by show _ ≤ 7237431; omega⟩ ?_
  refine jj_bipush (pc := 16) (v := 40) dL_law_16 rfl ?_
  refine jj_callSr (pc := 18) _ (c_L_below l D cA _ _ _ (by decide)) dL_law_18 gL_law_L_below jm_L_below (by decide) rfl rfl (Nat.le_of_ble_eq_true rfl) ⟨by show _ ≤ 621398; omega, by show _ ≤ 7237431; omega⟩ ?_
  refine jj_iadd (pc := 21) dL_law_21 ?_
  refine jj_callXr (pc := 22) _ (c_X7_reach l hl0 D cA ob ro ar _ _) H.r (fun _ _ _ _ h => h.2.1.1) dL_law_22 gL_law_X7_reach jm_X7_reach rfl (by decide) 0 jq_0 rfl rfl rfl (Nat.le_of_ble_eq_true rfl) ⟨by show _ ≤ 621398; omega, by show _ ≤ 7237431; omega⟩ ?_
  refine jj_pop (pc := 25) dL_law_25 rfl ?_
  refine jj_iconst (pc := 26) (v := 0) dL_law_26 rfl ?_
  refine jj_istore_n_2 (pc := 27) dL_law_27 rfl rfl (by decide) ?_
  refine jj_widen (k' := 100 + 2 * 0) (n' := 3000 + 12 * 0) (by omega) (by omega) ?_
  exact v_law_objects hl0 hL2 H ob ro ar 0 (Nat.zero_le _) _ H.o0
