/-! The rules for the law's own methods: calls of what may throw, with or without handlers, and the script. -/
abbrev jISE : String := "java/lang/IllegalStateException"
abbrev jIOB : String := "java/lang/IndexOutOfBoundsException"
/-- a contract whose start also has what a throw needs -/
def jjConL (l : Launch) (y : MethodName) (ws : List Cond) (d : Nat) (D : va_G) (cA : ClassId) (av : List Value) (w : va_W) (mc ms : Nat) (Q : Option Value → va_W → Prop) : Prop :=
  ∀ sz : Nat, Met l y ws (jjRm d mc ms) (va_Pc av (fun U => jjPre D cA w sz U ∧ jXf (va_A w sz) U)) (jjQ D Q (va_A w sz)) mc ms (va_A w sz)
def jIf : jjI := fun A s _ _ => jXf A s
theorem jjConL_of {l : Launch} {y : MethodName} {own : String} {cc : ByteArray} {nL d mc ms : Nat} {rt : Option FieldType} {ws : List Cond} {D : va_G} {cA : ClassId} {av : List Value} {w : va_W} {Q : Option Value → va_W → Prop} {na : Nat} (lv : List (Option Value))
    (hm : jjM y ws cc nL rt na) (hy : plainName y.cls = true) (ho : y.cls = own) (hlen : (lg_sl av).length ≤ nL) (hlv : lv_args 0 av = jjL 0 lv)
    (h : jjV l own cc nL rt jIf ws (jjRm d mc ms) D cA (jjEnd D Q mc ms) 0 0 w 0 lv []) : jjConL l y ws d D cA av w mc ms Q := by
  intro sz
  obtain ⟨⟨ws', hw⟩, -⟩ := hm
  refine Met.ofW (cc := cc) (maxL := nL) (ret := rt) hy hw ?_
  intro p e s m args below meth c s₁ B hml hv
  obtain ⟨rfl, ⟨hsz, hP, hK, hD0⟩, hXf⟩ := hv
  have hts := atoms_spec (ws := ws) B.pre
  have hown : s.vm.findClass own = some m.cls := by rw [← ho]; exact findClass_of_methodNamed B.named
  subst hsz
  have hl := lv_entry av (n := nL) hlen
  rw [hlv] at hl
  rw [lg_entry_eq]
  exact h p e s m _ below meth c (va_A w s.heap.size) s.heap [] _ ⟨B.exec, B.bytes, B.returns, hml, hown, hts, B.notSynchronized⟩ hXf (fun q h => Or.inr h) hK hP hD0.self va_S.rf hl
theorem jj_wcallX {p : Program} {l : Launch} {e : Env} {R : Room} {s : State} {m : MethodId} {args : Array Value} {below : List Frame} {meth : Method} {c : Code} {H : Heap} {locs : List Loc} {cells slots mc ms pc : Nat} {Z : State → Prop} {ls : Array Slot} {st0 rest : List Value} {D : va_G} {Q : Option Value → va_W → Prop} {X : String → va_W → Prop} {A0 A1 : Nat → Prop} {a : Array Value} {free : Addr → Prop} {H0 : Heap}
    (hr : vx_Run p l e R s m args below meth c H locs cells slots mc ms (F0 m pc ls st0) rest (jjQ D Q A1 a) (jjXC D X A1) free) (hS : va_S A0 H0 H locs) (hA : ∀ q, A1 q → A0 q) (hf : ∀ q, free q → A0 q)
    (kx : ∀ (E : String) (w' : va_W) (H1 : Heap) (locs1 : List Loc) (ce : Cell) (q9 : Addr), X E w' → va_P D vwCl w' H1 → va_D A0 w' → va_S A0 H0 H1 locs1 → H1[q9]? = some ce → ce.vm = .none → s.vm.findClass E = some ce.cls → vx_W p l e R s m args below meth c H1 locs1 (cells + mc) (slots + ms) Z (F0 m pc ls rest) q9)
    (kk : ∀ (r : Option Value) (w' : va_W) (H1 : Heap) (locs1 : List Loc), Q r w' → va_P D vwCl w' H1 → va_D A0 w' → va_S A0 H0 H1 locs1 → W p l e R s m args below meth c H1 locs1 (cells + mc) (slots + ms) Z (F0 m (pc + 3) ls (r.toList ++ rest))) : W p l e R s m args below meth c H locs cells slots Z (F0 m pc ls st0) := by
  intro T hT Y
  rcases hr T hT Y with ⟨v, st₀, t, T', L, h0, X', hL, e1, e2, ⟨⟨r, w', hv, hq, hP, hD⟩, hF⟩, st⟩ | ⟨q9, st₀, t, T', L, E, ce, h0, X', hL, e1, e2, ⟨w', hx, hP, hD, hF⟩, hce, hcv, hcl, st⟩
  · cases hv
    obtain ⟨-, -, k3⟩ := vx_keep h0 e1 hS (fun q _ h => hA q h) hf hL hF
    obtain ⟨t2, a1, b1⟩ := kk _ w' T'.heap (locs ++ L) hq (by rw [e1]; exact hP) (hD.weaken (fun _ q _ h => hA _ h)) k3 T' rfl X'
    exact ⟨t2, st t2 a1, b1⟩
  · obtain ⟨-, -, k3⟩ := vx_keep h0 e1 hS (fun q _ h => hA q h) hf hL hF
    obtain ⟨t2, a1, b1⟩ := kx E w' T'.heap (locs ++ L) ce q9 hx (by rw [e1]; exact hP) (hD.weaken (fun _ q _ h => hA _ h)) k3 (by rw [e1]; exact hce) hcv hcl T' rfl X'
    exact ⟨t2, st.trans a1, b1⟩
def jHH : List (Nat × Nat × Nat × Nat) := [(25, 133, 504, 99), (134, 181, 504, 99), (182, 228, 504, 99), (229, 322, 504, 99), (323, 366, 504, 99), (367, 413, 504, 99), (414, 503, 504, 99), (25, 133, 523, 101), (134, 181, 523, 101), (182, 228, 523, 101), (229, 322, 523, 101), (323, 366, 523, 101), (367, 413, 523, 101), (414, 503, 523, 101)]
def jTab : List ExceptionTableEntry := tableOf jHH
def jCov (j pc : Nat) : Bool := match jTab[j]?, jTab[j + 7]? with
  | some x, some y => covers x pc && covers y pc && (x.catchType == 99) && (y.catchType == 101) && (x.handlerPc == 504) && (y.handlerPc == 523) && (jTab.take j).all (fun z => !covers z pc) && (jTab.take 7).all (fun z => z.catchType == 99) && ((jTab.drop 7).take j).all (fun z => !covers z pc)
  | _, _ => false
/-- a frame of act: its table, and that what is thrown is told apart -/
def jIh : jjI := fun A s _ c => jXf A s ∧ c.exceptionTable.toList = jTab ∧ va_Nc jISE jIOB s
section JL
variable {l : Launch} {own : String} {cc : ByteArray} {nL : Nat} {rt : Option FieldType} {I : jjI} {ws : List Cond} {R : Room} {D : va_G} {cA : ClassId} {E : jjE} {k n : Nat} {w : va_W} {pc : Nat} {lv : List (Option Value)} {st : List Value}
theorem jj_callVX {y : MethodName} {ws2 : List Cond} {bytes : ByteArray} {maxL d mc ms na ix : Nat} {ret : Option FieldType} {As : List Value} (rest : List Value) {Q : Option Value → va_W → Prop} {X : String → va_W → Prop} {b ci N : Nat} {C : String} {T : u_T} {fs : List Value} (hC : jjConX l y ws2 d D cA (.ref b :: As) w mc ms Q X) (hI9 : ∀ A s meth c, I A s meth c → jXf A s) (hd : decode cc pc = .ok (.invokevirtual ix, 3)) (hG : GoodIn ws (wsV own ix C y ws2)) (hm : jjM y ws2 bytes maxL ret na) (hyC : y.cls = C) (hR : d + 1 ≤ R.frames ∧ 8 + (maxL + 11) + 30 * d ≤ R.locals) (q0 : Nat) (hq : w[q0]? = some (b, .inr (ci, fs))) (hc : vwCl[ci]? = some (C, T, N)) (hAs : As.length = na) (hst : st = As.reverse ++ .ref b :: rest) (hrest : (rest.map fun v => v.category).sum ≤ 8) (hf : k + mc ≤ R.cells ∧ n + ms ≤ R.slots)
    (kx : ∀ (E9 : String) (w' : va_W), X E9 w' → ∀ (p : Program) (e : Env) (s : State) (m : MethodId) (args : Array Value) (below : List Frame) (meth : Method) (c : Code) (A : Nat → Prop) (H : Heap) (locs : List Loc) (ls : Array Slot) (ce : Cell) (q9 : Addr), jjF p s m args meth c own cc nL rt ws → I A s meth c → (∀ q : Nat, s.heap.size ≤ q → A q) → va_K D vwCl [(cA, .int)] s → va_P D vwCl w' H → va_D A w' → va_S A s.heap H locs → lv_has ls nL (jjL 0 lv) → H[q9]? = some ce → ce.vm = .none → s.vm.findClass E9 = some ce.cls → vx_W p l e R s m args below meth c H locs (k + mc) (n + ms) (E s below args A) (F0 m pc ls rest) q9)
    (kk : ∀ (r : Option Value) (w' : va_W), Q r w' → jjV l own cc nL rt I ws R D cA E (k + mc) (n + ms) w' (pc + 3) lv (r.toList ++ rest)) : jjV l own cc nL rt I ws R D cA E k n w pc lv st := by
  intro p e s m args below meth c A H locs ls hF hI hA hK hP hD hS hl
  obtain ⟨⟨ws3, hw⟩, hy1, hy2, hy3⟩ := hm
  subst hst
  have hsub := jjA_sub hD hS hA
  exact jj_wcallX (vx_runV (As := As) (rest := rest) ⟨hF.1, hF.2.1, hF.2.2.2.1, hF.2.2.2.2.1, hF.2.2.2.2.2.1⟩ (hC H.size) (cwV na hF.2.2.2.2.2.1 hG hw rfl rfl ⟨hyC, hy1, hy2, hy3⟩ hR) ⟨fun a U g mk q => ⟨q.1, ⟨q.2.1.1, q.2.1.2.1, va_K.moved (u := U) (U := U.calling g mk a) (Vm.Alike.refl U.vm) q.2.1.2.2.1, q.2.1.2.2.2⟩, q.2.2.blind⟩, va_recv hK hP hc hq, fun U hU hW => ⟨rfl, ⟨by rw [hU], by rw [hU]; exact hP, va_K.moved hW.alike hK, hD.weaken (fun _ _ _ _ => trivial)⟩, (hI9 _ _ _ _ hI).call hS hU hW hsub⟩⟩ rfl hAs hl.1 rfl (lv_room hrest) hd hf) hS hsub hsub
    (fun E9 w' H1 locs1 ce q9 hX hP hD hS h1 h2 h3 => kx E9 w' hX p e s m args below meth c A H1 locs1 ls ce q9 hF hI hA hK hP hD hS hl h1 h2 h3)
    (fun r w' H1 locs1 hQ hP hD hS => kk r w' hQ p e s m args below meth c A H1 locs1 ls hF hI hA hK hP hD hS hl)
/-- .. that doesn't throw here -/
theorem jj_callXr {y : MethodName} {ws2 : List Cond} {bytes : ByteArray} {maxL d mc ms na ix : Nat} {ret : Option FieldType} {As : List Value} (rest : List Value) {g : Option String} {v : Value} {w' w'' : va_W} {b ci N : Nat} {C : String} {T : u_T} {fs : List Value} (hC : jjConX l y ws2 d D cA (.ref b :: As) w mc ms (fun r0 w0 => g = none ∧ r0 = some v ∧ w0 = w') (fun E w0 => g = some E ∧ w0 = w'')) (hg : g = none) (hI9 : ∀ A s meth c, I A s meth c → jXf A s) (hd : decode cc pc = .ok (.invokevirtual ix, 3)) (hG : GoodIn ws (wsV own ix C y ws2)) (hm : jjM y ws2 bytes maxL ret na) (hyC : y.cls = C) (hR : d + 1 ≤ R.frames ∧ 8 + (maxL + 11) + 30 * d ≤ R.locals) (q0 : Nat) (hq : w[q0]? = some (b, .inr (ci, fs))) (hc : vwCl[ci]? = some (C, T, N)) (hAs : As.length = na) (hst : st = As.reverse ++ .ref b :: rest) (hrest : (rest.map fun v => v.category).sum ≤ 8) (hf : k + mc ≤ R.cells ∧ n + ms ≤ R.slots) (kk : jjV l own cc nL rt I ws R D cA E (k + mc) (n + ms) w' (pc + 3) lv (v :: rest)) : jjV l own cc nL rt I ws R D cA E k n w pc lv st := by
  refine jj_callVX rest hC hI9 hd hG hm hyC hR q0 hq hc hAs hst hrest hf (fun E9 w9 hX => ?_) (fun r w2 hQ => ?_)
  · rw [hg] at hX; exact absurd hX.1 (by simp)
  · obtain ⟨-, rfl, rfl⟩ := hQ
    exact kk
theorem jTab_at {j : Nat} {x : ExceptionTableEntry} (h : jTab[j]? = some x) : jTab = jTab.take j ++ x :: jTab.drop (j + 1) := by
  obtain ⟨hj, hx⟩ := List.getElem?_eq_some_iff.mp h
  rw [← hx, ← List.drop_eq_getElem_cons hj]
  exact (List.take_append_drop j jTab).symm
/-- .. with act's handlers -/
theorem jj_callXc {y : MethodName} {ws2 : List Cond} {bytes : ByteArray} {maxL d mc ms na ix : Nat} {ret : Option FieldType} {As : List Value} (rest : List Value) {g : Option String} {v : Value} {w' w'' : va_W} {b ci N : Nat} {C : String} {T : u_T} {fs : List Value} (j : Nat) (hC : jjConX l y ws2 d D cA (.ref b :: As) w mc ms (fun r0 w0 => g = none ∧ r0 = some v ∧ w0 = w') (fun E w0 => g = some E ∧ w0 = w'')) (hg : ∀ E9, g = some E9 → E9 = jISE ∨ E9 = jIOB) (hI9 : ∀ A s meth c, I A s meth c → jIh A s meth c) (hj : jCov j pc = true) (h99 : Cond.classLink own 99 jIOB ∈ ws) (h101 : Cond.classLink own 101 jISE ∈ ws) (hd : decode cc pc = .ok (.invokevirtual ix, 3)) (hG : GoodIn ws (wsV own ix C y ws2)) (hm : jjM y ws2 bytes maxL ret na) (hyC : y.cls = C) (hR : d + 1 ≤ R.frames ∧ 8 + (maxL + 11) + 30 * d ≤ R.locals) (q0 : Nat) (hq : w[q0]? = some (b, .inr (ci, fs))) (hc : vwCl[ci]? = some (C, T, N)) (hAs : As.length = na) (hst : st = As.reverse ++ .ref b :: rest) (hrest : (rest.map fun v => v.category).sum ≤ 8) (hf : k + mc ≤ R.cells ∧ n + ms ≤ R.slots)
    (kI : g = some jISE → ∀ q : Nat, jjV l own cc nL rt I ws R D cA E (k + mc) (n + ms) w'' 523 lv [.ref q]) (kB : g = some jIOB → ∀ q : Nat, jjV l own cc nL rt I ws R D cA E (k + mc) (n + ms) w'' 504 lv [.ref q])
    (kk : g = none → jjV l own cc nL rt I ws R D cA E (k + mc) (n + ms) w' (pc + 3) lv (v :: rest)) : jjV l own cc nL rt I ws R D cA E k n w pc lv st := by
  refine jj_callVX rest hC (fun A s meth c h => (hI9 A s meth c h).1) hd hG hm hyC hR q0 hq hc hAs hst hrest hf (fun E9 w9 hX => ?_) (fun r w2 hQ => ?_)
  · obtain ⟨hX, rfl⟩ := hX
    intro p e s m args below meth c A H locs ls ce q9 hF hI hA hK hP hD hS hl h1 h2 h3
    obtain ⟨⟨-, -, hB, -⟩, htab, hnc⟩ := hI9 _ _ _ _ hI
    unfold jCov at hj
    split at hj
    · rename_i x y9 hx hy
      simp only [Bool.and_eq_true, beq_iff_eq, List.all_eq_true, Bool.not_eq_true'] at hj
      obtain ⟨⟨⟨⟨⟨⟨⟨⟨c1, c2⟩, c3⟩, c4⟩, c5⟩, c6⟩, c7⟩, c8⟩, c9⟩ := hj
      rcases hg E9 hX with rfl | rfl
      · refine vx_catch (own := own) (name := jISE) hF.2.2.2.2.1 (jTab.take (j + 7)) y9 (jTab.drop (j + 7 + 1)) (htab.trans (jTab_at hy)) (fun z hz => ?_) (by simpa [covers] using c2) (by rw [c4]; decide) (by rw [c4]; exact hF.2.2.2.2.2.1 _ h101) (va_Nw.use (jXB_tab (.castable jISE jISE) (by decide +kernel)) (hB _ (by decide +kernel))) h1 h2 h3 ?_
        · rw [Nat.add_comm j 7, List.take_add] at hz
          rcases List.mem_append.mp hz with hz | hz
          · exact Or.inr ⟨by rw [c8 z hz]; decide, jIOB, by rw [c8 z hz]; exact hF.2.2.2.2.2.1 _ h99, hnc⟩
          · exact Or.inl (c9 z hz)
        · rw [c6]; exact kI hX q9 p e s m args below meth c A H locs ls hF hI hA hK hP hD hS hl
      · refine vx_catch (own := own) (name := jIOB) hF.2.2.2.2.1 (jTab.take j) x (jTab.drop (j + 1)) (htab.trans (jTab_at hx)) (fun z hz => Or.inl (c7 z hz)) (by simpa [covers] using c1) (by rw [c3]; decide) (by rw [c3]; exact hF.2.2.2.2.2.1 _ h99) (va_Nw.use (jXB_tab (.castable jIOB jIOB) (by decide +kernel)) (hB _ (by decide +kernel))) h1 h2 h3 ?_
        rw [c5]; exact kB hX q9 p e s m args below meth c A H locs ls hF hI hA hK hP hD hS hl
    · cases hj
  · obtain ⟨hgn, rfl, rfl⟩ := hQ
    exact kk hgn
/-- a static call of one of the law's own methods -/
theorem jj_callSL {y : MethodName} {ws2 : List Cond} {bytes : ByteArray} {maxL d mc ms na ix : Nat} {ret : Option FieldType} {As : List Value} (rest : List Value) {Q : Option Value → va_W → Prop} (hC : jjConL l y ws2 d D cA As w mc ms Q) (hI9 : ∀ A s meth c, I A s meth c → jXf A s) (hd : decode cc pc = .ok (.invokestatic ix, 3)) (hG : GoodIn ws (va_wsS own ix y ws2)) (hm : jjM y ws2 bytes maxL ret na) (hR : d + 1 ≤ R.frames ∧ 8 + (maxL + 11) + 30 * d ≤ R.locals) (hAs : As.length = na) (hst : st = As.reverse ++ rest) (hrest : (rest.map fun v => v.category).sum ≤ 8) (hf : k + mc ≤ R.cells ∧ n + ms ≤ R.slots) (kk : ∀ (r : Option Value) (w' : va_W), Q r w' → jjV l own cc nL rt I ws R D cA E (k + mc) (n + ms) w' (pc + 3) lv (r.toList ++ rest)) : jjV l own cc nL rt I ws R D cA E k n w pc lv st := by
  intro p e s m args below meth c A H locs ls hF hI hA hK hP hD hS hl
  obtain ⟨⟨ws3, hw⟩, hy1, hy2, hy3⟩ := hm
  subst hst
  have hsub := jjA_sub hD hS hA
  exact jj_wcall (va_runS (As := As) (rest := rest) ⟨hF.1, hF.2.1, hF.2.2.2.1, hF.2.2.2.2.1, hF.2.2.2.2.2.1⟩ (hC H.size) (va_cwS na hF.2.2.2.2.2.1 hG hw rfl rfl ⟨hy1, hy2, hy3⟩ hR) ⟨fun a U g mk q => ⟨q.1, ⟨q.2.1.1, q.2.1.2.1, va_K.moved (u := U) (U := U.calling g mk a) (Vm.Alike.refl U.vm) q.2.1.2.2.1, q.2.1.2.2.2⟩, q.2.2.blind⟩, fun U hU hW => ⟨rfl, ⟨by rw [hU], by rw [hU]; exact hP, va_K.moved hW.alike hK, hD.weaken (fun _ _ _ _ => trivial)⟩, (hI9 _ _ _ _ hI).call hS hU hW hsub⟩⟩ rfl hAs hl.1 rfl (lv_room hrest) hd hf) hS hsub hsub (fun r w' H1 locs1 hQ hP hD hS => kk r w' hQ p e s m args below meth c A H1 locs1 ls hF hI hA hK hP hD hS hl)
/-- the script: its length, and one of its ints -/
theorem jj_xlen {b L : Nat} {xs : Nat → Int32} (hI9 : ∀ A s meth c, I A s meth c → va_X b L xs s s.heap ∧ b < s.heap.size ∧ ¬ A b) (hd : decode cc pc = .ok (.arraylength, 1)) (kk : jjV l own cc nL rt I ws R D cA E k n w (pc + 1) lv (.int (Int32.ofNat L) :: st)) : jjV l own cc nL rt I ws R D cA E k n w pc lv (.ref b :: st) := by
  intro p e s m args below meth c A H locs ls hF hI hA hK hP hD hS hl
  obtain ⟨h1, h2, h3⟩ := hI9 _ _ _ _ hI
  exact va_slen hF.1 hF.2.1 h1 h2 h3 hS hd (kk p e s m args below meth c A H locs ls hF hI hA hK hP hD hS hl)
theorem jj_xld {b L : Nat} {xs : Nat → Int32} {i : Int32} (hI9 : ∀ A s meth c, I A s meth c → va_X b L xs s s.heap ∧ b < s.heap.size ∧ ¬ A b) (hin : vp_in i L) (hd : decode cc pc = .ok (.iaload, 1)) (kk : jjV l own cc nL rt I ws R D cA E k n w (pc + 1) lv (.int (xs i.toNatClampNeg) :: st)) : jjV l own cc nL rt I ws R D cA E k n w pc lv (.int i :: .ref b :: st) := by
  intro p e s m args below meth c A H locs ls hF hI hA hK hP hD hS hl
  obtain ⟨h1, h2, h3⟩ := hI9 _ _ _ _ hI
  exact va_sld hF.1 hF.2.1 h1 h2 h3 hS hin hd (kk p e s m args below meth c A H locs ls hF hI hA hK hP hD hS hl)
end JL
/-- a contract that reads the script -/
def jSc (b L : Nat) (xs : Nat → Int32) (A : Nat → Prop) (U : State) : Prop := va_X b L xs U U.heap ∧ b < U.heap.size ∧ ¬ A b
def jjConS (l : Launch) (b L : Nat) (xs : Nat → Int32) (y : MethodName) (ws : List Cond) (d : Nat) (D : va_G) (cA : ClassId) (av : List Value) (w : va_W) (mc ms : Nat) (Q : Option Value → va_W → Prop) : Prop :=
  ∀ sz : Nat, Met l y ws (jjRm d mc ms) (va_Pc av (fun U => jjPre D cA w sz U ∧ jSc b L xs (va_A w sz) U)) (jjQ D Q (va_A w sz)) mc ms (va_A w sz)
def jIs (b L : Nat) (xs : Nat → Int32) : jjI := fun A s _ _ => jSc b L xs A s
theorem jjConS_of {l : Launch} {b L : Nat} {xs : Nat → Int32} {y : MethodName} {own : String} {cc : ByteArray} {nL d mc ms : Nat} {rt : Option FieldType} {ws : List Cond} {D : va_G} {cA : ClassId} {av : List Value} {w : va_W} {Q : Option Value → va_W → Prop} {na : Nat} (lv : List (Option Value))
    (hm : jjM y ws cc nL rt na) (hy : plainName y.cls = true) (ho : y.cls = own) (hlen : (lg_sl av).length ≤ nL) (hlv : lv_args 0 av = jjL 0 lv)
    (h : jjV l own cc nL rt (jIs b L xs) ws (jjRm d mc ms) D cA (jjEnd D Q mc ms) 0 0 w 0 lv []) : jjConS l b L xs y ws d D cA av w mc ms Q := by
  intro sz
  obtain ⟨⟨ws', hw⟩, -⟩ := hm
  refine Met.ofW (cc := cc) (maxL := nL) (ret := rt) hy hw ?_
  intro p e s m args below meth c s₁ B hml hv
  obtain ⟨rfl, ⟨hsz, hP, hK, hD0⟩, hXf⟩ := hv
  have hts := atoms_spec (ws := ws) B.pre
  have hown : s.vm.findClass own = some m.cls := by rw [← ho]; exact findClass_of_methodNamed B.named
  subst hsz
  have hl := lv_entry av (n := nL) hlen
  rw [hlv] at hl
  rw [lg_entry_eq]
  exact h p e s m _ below meth c (va_A w s.heap.size) s.heap [] _ ⟨B.exec, B.bytes, B.returns, hml, hown, hts, B.notSynchronized⟩ hXf (fun q h => Or.inr h) hK hP hD0.self va_S.rf hl
section JS
variable {l : Launch} {own : String} {cc : ByteArray} {nL : Nat} {rt : Option FieldType} {I : jjI} {ws : List Cond} {R : Room} {D : va_G} {cA : ClassId} {E : jjE} {k n : Nat} {w : va_W} {pc : Nat} {lv : List (Option Value)} {st : List Value}
theorem jj_callSS {b L : Nat} {xs : Nat → Int32} {y : MethodName} {ws2 : List Cond} {bytes : ByteArray} {maxL d na ix : Nat} {ret : Option FieldType} {As : List Value} (rest : List Value) {v : Value} {w' : va_W} (hC : jjConS l b L xs y ws2 d D cA As w 0 0 (fun r0 w0 => r0 = some v ∧ w0 = w')) (hI9 : ∀ A s meth c, I A s meth c → jSc b L xs A s) (hd : decode cc pc = .ok (.invokestatic ix, 3)) (hG : GoodIn ws (va_wsS own ix y ws2)) (hm : jjM y ws2 bytes maxL ret na) (hR : d + 1 ≤ R.frames ∧ 8 + (maxL + 11) + 30 * d ≤ R.locals) (hAs : As.length = na) (hst : st = As.reverse ++ rest) (hrest : (rest.map fun v => v.category).sum ≤ 8) (hf : k ≤ R.cells ∧ n ≤ R.slots) (kk : jjV l own cc nL rt I ws R D cA E k n w' (pc + 3) lv (v :: rest)) : jjV l own cc nL rt I ws R D cA E k n w pc lv st := by
  intro p e s m args below meth c A H locs ls hF hI hA hK hP hD hS hl
  obtain ⟨⟨ws3, hw⟩, hy1, hy2, hy3⟩ := hm
  subst hst
  have hsub := jjA_sub hD hS hA
  obtain ⟨x1, x2, x3⟩ := hI9 _ _ _ _ hI
  exact jj_wcall (va_runS (As := As) (rest := rest) ⟨hF.1, hF.2.1, hF.2.2.2.1, hF.2.2.2.2.1, hF.2.2.2.2.2.1⟩ (hC H.size) (va_cwS na hF.2.2.2.2.2.1 hG hw rfl rfl ⟨hy1, hy2, hy3⟩ hR) ⟨fun a U g mk q => ⟨q.1, ⟨q.2.1.1, q.2.1.2.1, va_K.moved (u := U) (U := U.calling g mk a) (Vm.Alike.refl U.vm) q.2.1.2.2.1, q.2.1.2.2.2⟩, ⟨va_X.moved (u := U) (U := U.calling g mk a) (Vm.Alike.refl U.vm) q.2.2.1, q.2.2.2⟩⟩, fun U hU hW => ⟨rfl, ⟨by rw [hU], by rw [hU]; exact hP, va_K.moved hW.alike hK, hD.weaken (fun _ _ _ _ => trivial)⟩, ⟨by rw [hU]; exact (va_X.kept x1 (hS.2.1 b x2 x3)).moved hW.alike, by rw [hU]; exact Nat.lt_of_lt_of_le x2 hS.1, fun h => x3 (hsub _ h)⟩⟩⟩ rfl hAs hl.1 rfl (lv_room hrest) hd hf) hS hsub hsub (fun r w' H1 locs1 hQ hP hD hS => by
    obtain ⟨rfl, rfl⟩ := hQ
    exact kk p e s m args below meth c A H1 locs1 ls hF hI hA hK hP hD hS hl)
end JS
