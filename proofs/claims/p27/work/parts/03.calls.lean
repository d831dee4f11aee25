/-! Contracts over worlds, their proof out of jjV, and their calls. -/
/-- what a method leaves: an answer and a world -/
def jjQ (D : va_G) (Q : Option Value → va_W → Prop) (A : Nat → Prop) : Array Value → State → Outcome → State → Prop := fun _ st o t =>
  (∃ (r : Option Value) (w' : va_W), o = .returned r ∧ Q r w' ∧ va_P D vwCl w' t.heap ∧ va_D A w') ∧ va_F A st t
def jjEnd (D : va_G) (Q : Option Value → va_W → Prop) (mc ms : Nat) : jjE := fun s below args A => MQ below (jjQ D Q A) args s mc ms A
/-- the room of a method over d levels of calls -/
def jjRm (d mc ms : Nat) : Room := { frames := d, cells := mc, slots := ms, locals := 30 * d }
def jjPre (D : va_G) (cA : ClassId) (w : va_W) (sz : Nat) (U : State) : Prop := U.heap.size = sz ∧ va_P D vwCl w U.heap ∧ va_K D vwCl [(cA, .int)] U ∧ va_D (fun _ => True) w
/-- from a world w, called with av, a method answers r and leaves w', with Q -/
def jjCon (l : Launch) (y : MethodName) (ws : List Cond) (d : Nat) (D : va_G) (cA : ClassId) (av : List Value) (w : va_W) (mc ms : Nat) (Q : Option Value → va_W → Prop) : Prop :=
  ∀ sz : Nat, Met l y ws (jjRm d mc ms) (va_Pc av (jjPre D cA w sz)) (jjQ D Q (va_A w sz)) mc ms (va_A w sz)
/-- .. it answers r and leaves w', and makes nothing -/
def jjFn (l : Launch) (y : MethodName) (ws : List Cond) (d : Nat) (D : va_G) (cA : ClassId) (av : List Value) (w : va_W) (r : Option Value) (w' : va_W) : Prop :=
  jjCon l y ws d D cA av w 0 0 (fun r0 w0 => r0 = r ∧ w0 = w')
/-- what the tables must say of a method that is called -/
def jjM (y : MethodName) (ws : List Cond) (bytes : ByteArray) (maxL : Nat) (ret : Option FieldType) (na : Nat) : Prop :=
  (∃ ws', ws = Cond.code y bytes maxL ret :: ws') ∧ (y.cls ≠ "java/lang/invoke/MethodHandle" ∧ y.cls ≠ "java/lang/invoke/VarHandle" ∧ (parseMethodDescriptor y.desc).map (fun d => d.parameters.length) = some na)
theorem jjCon_of {l : Launch} {y : MethodName} {own : String} {cc : ByteArray} {nL d mc ms : Nat} {rt : Option FieldType} {I : jjI} {ws : List Cond} {D : va_G} {cA : ClassId} {av : List Value} {w : va_W} {Q : Option Value → va_W → Prop} {na : Nat} (lv : List (Option Value))
    (hm : jjM y ws cc nL rt na) (hy : plainName y.cls = true) (ho : y.cls = own) (hi : ∀ A s meth c, meth.name = y.name → I A s meth c) (hlen : (lg_sl av).length ≤ nL) (hlv : lv_args 0 av = jjL 0 lv)
    (h : jjV l own cc nL rt I ws (jjRm d mc ms) D cA (jjEnd D Q mc ms) 0 0 w 0 lv []) : jjCon l y ws d D cA av w mc ms Q := by
  intro sz
  obtain ⟨⟨ws', hw⟩, -⟩ := hm
  refine Met.ofW (cc := cc) (maxL := nL) (ret := rt) hy hw ?_
  intro p e s m args below meth c s₁ B hml hv
  obtain ⟨rfl, hsz, hP, hK, hD0⟩ := hv
  have hts := atoms_spec (ws := ws) B.pre
  have hown : s.vm.findClass own = some m.cls := by rw [← ho]; exact findClass_of_methodNamed B.named
  have hin : I (va_A w s.heap.size) s meth c := hi _ _ _ _ (name_of_methodNamed B.named B.method).1
  subst hsz
  have hl := lv_entry av (n := nL) hlen
  rw [hlv] at hl
  rw [lg_entry_eq]
  exact h p e s m _ below meth c (va_A w s.heap.size) s.heap [] _ ⟨B.exec, B.bytes, B.returns, hml, hown, hts, B.notSynchronized⟩ hin (fun q h => Or.inr h) hK hP hD0.self va_S.rf hl
theorem jj_wcall {p : Program} {l : Launch} {e : Env} {R : Room} {s : State} {m : MethodId} {args : Array Value} {below : List Frame} {meth : Method} {c : Code} {H : Heap} {locs : List Loc} {cells slots mc ms pc : Nat} {Z : State → Prop} {ls : Array Slot} {st0 rest : List Value} {D : va_G} {Q : Option Value → va_W → Prop} {A0 A1 : Nat → Prop} {a : Array Value} {free : Addr → Prop} {H0 : Heap}
    (hr : va_Run p l e R s m args below meth c H locs cells slots mc ms (F0 m pc ls st0) rest (jjQ D Q A1 a) free) (hS : va_S A0 H0 H locs) (hA : ∀ q, A1 q → A0 q) (hf : ∀ q, free q → A0 q)
    (kk : ∀ (r : Option Value) (w' : va_W) (H1 : Heap) (locs1 : List Loc), Q r w' → va_P D vwCl w' H1 → va_D A0 w' → va_S A0 H0 H1 locs1 → W p l e R s m args below meth c H1 locs1 (cells + mc) (slots + ms) Z (F0 m (pc + 3) ls (r.toList ++ rest))) : W p l e R s m args below meth c H locs cells slots Z (F0 m pc ls st0) := by
  intro T hT X
  obtain ⟨v, st₀, t, T', L, h0, X', hL, e1, e2, ⟨⟨r, w', hv, hq, hP, hD⟩, hz, hk⟩, st⟩ := hr T hT X
  cases hv
  rw [h0] at hz hk
  obtain ⟨t2, a1, b1⟩ := kk v w' T'.heap (locs ++ L) hq (by rw [e1]; exact hP) (hD.weaken (fun _ q _ h => hA _ h))
    ⟨Nat.le_trans hS.1 (by rw [e1]; exact hz), fun q h1 h2 => by rw [e1, hk q (Nat.lt_of_lt_of_le h1 hS.1) (fun z => h2 (hA q z))]; exact hS.2.1 q h1 h2, fun q hq => by
      rcases List.mem_append.mp hq with h | h
      · exact hS.2.2 q h
      · exact hf _ (hL q h)⟩ T' rfl X'
  exact ⟨t2, st t2 a1, b1⟩
theorem jjA_sub {A : Nat → Prop} {w : va_W} {H0 H : Heap} {locs : List Loc} (hD : va_D A w) (hS : va_S A H0 H locs) (hA : ∀ q, H0.size ≤ q → A q) : ∀ q, va_A w H.size q → A q := fun q h => h.elim (fun ⟨k, e, h⟩ => hD.2 k (q, e) h) (fun h => hA q (Nat.le_trans hS.1 h))
section JC
variable {l : Launch} {own : String} {cc : ByteArray} {nL : Nat} {rt : Option FieldType} {I : jjI} {ws : List Cond} {R : Room} {D : va_G} {cA : ClassId} {E : jjE} {k n : Nat} {w : va_W} {pc : Nat} {lv : List (Option Value)} {st : List Value}
theorem jj_callV {y : MethodName} {ws2 : List Cond} {bytes : ByteArray} {maxL d mc ms na ix : Nat} {ret : Option FieldType} {As : List Value} (rest : List Value) {Q : Option Value → va_W → Prop} {b ci N : Nat} {C : String} {T : u_T} {fs : List Value} (hC : jjCon l y ws2 d D cA (.ref b :: As) w mc ms Q) (hd : decode cc pc = .ok (.invokevirtual ix, 3)) (hG : GoodIn ws (wsV own ix C y ws2)) (hm : jjM y ws2 bytes maxL ret na) (hyC : y.cls = C) (hR : d + 1 ≤ R.frames ∧ 8 + (maxL + 11) + 30 * d ≤ R.locals) (q0 : Nat) (hq : w[q0]? = some (b, .inr (ci, fs))) (hc : vwCl[ci]? = some (C, T, N)) (hAs : As.length = na) (hst : st = As.reverse ++ .ref b :: rest) (hrest : (rest.map fun v => v.category).sum ≤ 8) (hf : k + mc ≤ R.cells ∧ n + ms ≤ R.slots) (kk : ∀ (r : Option Value) (w' : va_W), Q r w' → jjV l own cc nL rt I ws R D cA E (k + mc) (n + ms) w' (pc + 3) lv (r.toList ++ rest)) : jjV l own cc nL rt I ws R D cA E k n w pc lv st := by
  intro p e s m args below meth c A H locs ls hF hI hA hK hP hD hS hl
  obtain ⟨⟨ws3, hw⟩, hy1, hy2, hy3⟩ := hm
  subst hst
  have hsub := jjA_sub hD hS hA
  exact jj_wcall (va_runV (As := As) (rest := rest) ⟨hF.1, hF.2.1, hF.2.2.2.1, hF.2.2.2.2.1, hF.2.2.2.2.2.1⟩ (hC H.size) (cwV na hF.2.2.2.2.2.1 hG hw rfl rfl ⟨hyC, hy1, hy2, hy3⟩ hR) ⟨fun a U g mk q => ⟨q.1, q.2.1, q.2.2.1, va_K.moved (u := U) (U := U.calling g mk a) (Vm.Alike.refl U.vm) q.2.2.2.1, q.2.2.2.2⟩, va_recv hK hP hc hq, fun U hU hW => ⟨rfl, by rw [hU], by rw [hU]; exact hP, va_K.moved hW.alike hK, hD.weaken (fun _ _ _ _ => trivial)⟩⟩ rfl hAs hl.1 rfl (lv_room hrest) hd hf) hS hsub hsub (fun r w' H1 locs1 hQ hP hD hS => kk r w' hQ p e s m args below meth c A H1 locs1 ls hF hI hA hK hP hD hS hl)
theorem jj_callS {y : MethodName} {ws2 : List Cond} {bytes : ByteArray} {maxL d mc ms na ix : Nat} {ret : Option FieldType} {As : List Value} (rest : List Value) {Q : Option Value → va_W → Prop} (hC : jjCon l y ws2 d D cA As w mc ms Q) (hd : decode cc pc = .ok (.invokestatic ix, 3)) (hG : GoodIn ws (va_wsS own ix y ws2)) (hm : jjM y ws2 bytes maxL ret na) (hR : d + 1 ≤ R.frames ∧ 8 + (maxL + 11) + 30 * d ≤ R.locals) (hAs : As.length = na) (hst : st = As.reverse ++ rest) (hrest : (rest.map fun v => v.category).sum ≤ 8) (hf : k + mc ≤ R.cells ∧ n + ms ≤ R.slots) (kk : ∀ (r : Option Value) (w' : va_W), Q r w' → jjV l own cc nL rt I ws R D cA E (k + mc) (n + ms) w' (pc + 3) lv (r.toList ++ rest)) : jjV l own cc nL rt I ws R D cA E k n w pc lv st := by
  intro p e s m args below meth c A H locs ls hF hI hA hK hP hD hS hl
  obtain ⟨⟨ws3, hw⟩, hy1, hy2, hy3⟩ := hm
  subst hst
  have hsub := jjA_sub hD hS hA
  exact jj_wcall (va_runS (As := As) (rest := rest) ⟨hF.1, hF.2.1, hF.2.2.2.1, hF.2.2.2.2.1, hF.2.2.2.2.2.1⟩ (hC H.size) (va_cwS na hF.2.2.2.2.2.1 hG hw rfl rfl ⟨hy1, hy2, hy3⟩ hR) ⟨fun a U g mk q => ⟨q.1, q.2.1, q.2.2.1, va_K.moved (u := U) (U := U.calling g mk a) (Vm.Alike.refl U.vm) q.2.2.2.1, q.2.2.2.2⟩, fun U hU hW => ⟨rfl, by rw [hU], by rw [hU]; exact hP, va_K.moved hW.alike hK, hD.weaken (fun _ _ _ _ => trivial)⟩⟩ rfl hAs hl.1 rfl (lv_room hrest) hd hf) hS hsub hsub (fun r w' H1 locs1 hQ hP hD hS => kk r w' hQ p e s m args below meth c A H1 locs1 ls hF hI hA hK hP hD hS hl)
theorem jj_callVr {y : MethodName} {ws2 : List Cond} {bytes : ByteArray} {maxL d na ix : Nat} {ret : Option FieldType} {As : List Value} (rest : List Value) {v : Value} {w' : va_W} {b ci N : Nat} {C : String} {T : u_T} {fs : List Value} (hC : jjFn l y ws2 d D cA (.ref b :: As) w (some v) w') (hd : decode cc pc = .ok (.invokevirtual ix, 3)) (hG : GoodIn ws (wsV own ix C y ws2)) (hm : jjM y ws2 bytes maxL ret na) (hyC : y.cls = C) (hR : d + 1 ≤ R.frames ∧ 8 + (maxL + 11) + 30 * d ≤ R.locals) (q0 : Nat) (hq : w[q0]? = some (b, .inr (ci, fs))) (hc : vwCl[ci]? = some (C, T, N)) (hAs : As.length = na) (hst : st = As.reverse ++ .ref b :: rest) (hrest : (rest.map fun v => v.category).sum ≤ 8) (hf : k ≤ R.cells ∧ n ≤ R.slots) (kk : jjV l own cc nL rt I ws R D cA E k n w' (pc + 3) lv (v :: rest)) : jjV l own cc nL rt I ws R D cA E k n w pc lv st := by
  refine jj_callV rest hC hd hG hm hyC hR q0 hq hc hAs hst hrest hf (fun r w2 hQ => ?_)
  obtain ⟨rfl, rfl⟩ := hQ
  exact kk
theorem jj_callVv {y : MethodName} {ws2 : List Cond} {bytes : ByteArray} {maxL d na ix : Nat} {ret : Option FieldType} {As : List Value} (rest : List Value) {w' : va_W} {b ci N : Nat} {C : String} {T : u_T} {fs : List Value} (hC : jjFn l y ws2 d D cA (.ref b :: As) w none w') (hd : decode cc pc = .ok (.invokevirtual ix, 3)) (hG : GoodIn ws (wsV own ix C y ws2)) (hm : jjM y ws2 bytes maxL ret na) (hyC : y.cls = C) (hR : d + 1 ≤ R.frames ∧ 8 + (maxL + 11) + 30 * d ≤ R.locals) (q0 : Nat) (hq : w[q0]? = some (b, .inr (ci, fs))) (hc : vwCl[ci]? = some (C, T, N)) (hAs : As.length = na) (hst : st = As.reverse ++ .ref b :: rest) (hrest : (rest.map fun v => v.category).sum ≤ 8) (hf : k ≤ R.cells ∧ n ≤ R.slots) (kk : jjV l own cc nL rt I ws R D cA E k n w' (pc + 3) lv rest) : jjV l own cc nL rt I ws R D cA E k n w pc lv st := by
  refine jj_callV rest hC hd hG hm hyC hR q0 hq hc hAs hst hrest hf (fun r w2 hQ => ?_)
  obtain ⟨rfl, rfl⟩ := hQ
  exact kk
theorem jj_callSr {y : MethodName} {ws2 : List Cond} {bytes : ByteArray} {maxL d na ix : Nat} {ret : Option FieldType} {As : List Value} (rest : List Value) {v : Value} {w' : va_W}  (hC : jjFn l y ws2 d D cA As w (some v) w') (hd : decode cc pc = .ok (.invokestatic ix, 3)) (hG : GoodIn ws (va_wsS own ix y ws2)) (hm : jjM y ws2 bytes maxL ret na) (hR : d + 1 ≤ R.frames ∧ 8 + (maxL + 11) + 30 * d ≤ R.locals) (hAs : As.length = na) (hst : st = As.reverse ++ rest) (hrest : (rest.map fun v => v.category).sum ≤ 8) (hf : k ≤ R.cells ∧ n ≤ R.slots) (kk : jjV l own cc nL rt I ws R D cA E k n w' (pc + 3) lv (v :: rest)) : jjV l own cc nL rt I ws R D cA E k n w pc lv st := by
  refine jj_callS rest hC hd hG hm hR hAs hst hrest hf (fun r w2 hQ => ?_)
  obtain ⟨rfl, rfl⟩ := hQ
  exact kk
theorem jj_callSv {y : MethodName} {ws2 : List Cond} {bytes : ByteArray} {maxL d na ix : Nat} {ret : Option FieldType} {As : List Value} (rest : List Value) {w' : va_W}  (hC : jjFn l y ws2 d D cA As w none w') (hd : decode cc pc = .ok (.invokestatic ix, 3)) (hG : GoodIn ws (va_wsS own ix y ws2)) (hm : jjM y ws2 bytes maxL ret na) (hR : d + 1 ≤ R.frames ∧ 8 + (maxL + 11) + 30 * d ≤ R.locals) (hAs : As.length = na) (hst : st = As.reverse ++ rest) (hrest : (rest.map fun v => v.category).sum ≤ 8) (hf : k ≤ R.cells ∧ n ≤ R.slots) (kk : jjV l own cc nL rt I ws R D cA E k n w' (pc + 3) lv rest) : jjV l own cc nL rt I ws R D cA E k n w pc lv st := by
  refine jj_callS rest hC hd hG hm hR hAs hst hrest hf (fun r w2 hQ => ?_)
  obtain ⟨rfl, rfl⟩ := hQ
  exact kk
end JC
section JR
variable {l : Launch} {own : String} {cc : ByteArray} {nL : Nat} {I : jjI} {ws : List Cond} {R : Room} {D : va_G} {cA : ClassId} {Q : Option Value → va_W → Prop} {k n : Nat} {w : va_W} {pc : Nat} {lv : List (Option Value)}
theorem jj_iret {v : Int32} (hd : decode cc pc = .ok (.ireturn, 1)) (hQ : Q (some (.int v)) w) : jjV l own cc nL (some .int) I ws R D cA (jjEnd D Q k n) k n w pc lv [.int v] := by
  intro p e s m args below meth c A H locs ls hF hI hA hK hP hD hS hl
  exact W.iret hF.1 hF.2.1 hF.2.2.1 (fun t ht hW => ⟨⟨_, w, rfl, hQ, by rw [ht]; exact hP, hD⟩, hS.F ht⟩) (fun q hq => hS.2.2 q hq) hd hF.2.2.2.2.2.2
theorem jj_zret {v : Int32} (hn : narrow .boolean (.int v) = .int v) (hd : decode cc pc = .ok (.ireturn, 1)) (hQ : Q (some (.int v)) w) : jjV l own cc nL (some .boolean) I ws R D cA (jjEnd D Q k n) k n w pc lv [.int v] := by
  intro p e s m args below meth c A H locs ls hF hI hA hK hP hD hS hl
  exact W.zret hF.1 hF.2.1 hF.2.2.1 hn (fun t ht hW => ⟨⟨_, w, rfl, hQ, by rw [ht]; exact hP, hD⟩, hS.F ht⟩) (fun q hq => hS.2.2 q hq) hd hF.2.2.2.2.2.2
theorem jj_lret {v : Int64} (hd : decode cc pc = .ok (.lreturn, 1)) (hQ : Q (some (.long v)) w) : jjV l own cc nL (some .long) I ws R D cA (jjEnd D Q k n) k n w pc lv [.long v] := by
  intro p e s m args below meth c A H locs ls hF hI hA hK hP hD hS hl
  exact W.lret hF.1 hF.2.1 hF.2.2.1 (fun t ht hW => ⟨⟨_, w, rfl, hQ, by rw [ht]; exact hP, hD⟩, hS.F ht⟩) (fun q hq => hS.2.2 q hq) hd hF.2.2.2.2.2.2
theorem jj_dret {v : UInt64} (hd : decode cc pc = .ok (.dreturn, 1)) (hQ : Q (some (.double v)) w) : jjV l own cc nL (some .double) I ws R D cA (jjEnd D Q k n) k n w pc lv [.double v] := by
  intro p e s m args below meth c A H locs ls hF hI hA hK hP hD hS hl
  exact W.dret hF.1 hF.2.1 hF.2.2.1 (fun t ht hW => ⟨⟨_, w, rfl, hQ, by rw [ht]; exact hP, hD⟩, hS.F ht⟩) (fun q hq => hS.2.2 q hq) hd hF.2.2.2.2.2.2
theorem jj_vret (hd : decode cc pc = .ok (.return_, 1)) (hQ : Q none w) : jjV l own cc nL none I ws R D cA (jjEnd D Q k n) k n w pc lv [] := by
  intro p e s m args below meth c A H locs ls hF hI hA hK hP hD hS hl
  exact W.vret hF.1 hF.2.1 hF.2.2.1 (fun t ht hW => ⟨⟨_, w, rfl, hQ, by rw [ht]; exact hP, hD⟩, hS.F ht⟩) (fun q hq => hS.2.2 q hq) hd hF.2.2.2.2.2.2
end JR
