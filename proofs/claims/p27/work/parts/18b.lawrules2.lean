/-! A method of the law with a table of handlers: act. -/
def jXg (A : Nat → Prop) (U : State) : Prop := jXf A U ∧ va_Nc jISE jIOB U
def jjConA (l : Launch) (y : MethodName) (ws : List Cond) (d : Nat) (D : va_G) (cA : ClassId) (av : List Value) (w : va_W) (mc ms : Nat) (Q : Option Value → va_W → Prop) : Prop :=
  ∀ sz : Nat, Met l y ws (jjRm d mc ms) (va_Pc av (fun U => jjPre D cA w sz U ∧ jXg (va_A w sz) U)) (jjQ D Q (va_A w sz)) mc ms (va_A w sz)
theorem jMet_ofWH {l : Launch} {y : MethodName} {ws ws' : List Cond} {rm : Room} {Pc : Array Value → State → Prop} {Qc : Array Value → State → Outcome → State → Prop} {mc ms : Nat} {free : Addr → Prop} {cc : ByteArray} {maxL : Nat} {ret : Option FieldType} {hh : List (Nat × Nat × Nat × Nat)}
    (hy : plainName y.cls = true) (hw : ws = Cond.codeWith y cc maxL ret hh :: ws')
    (body : ∀ p e s m args below meth c s₁, BodyLoose p l y (headSpec ws rm) cc maxL ret e s m args below meth c s₁ → c.maxLocals = maxL → Pc args s →
      W p l e (headSpec ws rm).room s m args below meth c s.heap [] 0 0 (MQ below Qc args s mc ms free) (entryFrame m args maxL)) : Met l y ws rm Pc Qc mc ms free := by
  refine MetFree.of_bodyS (code := cc) (maxLocals := maxL) (ret := ret) hy ?_ ?_
  · intro args s m h hn
    obtain ⟨m9, meth, c, hn9, h1, h2, h3, h4, -, h5, h6, -⟩ := Cond.codeWith_spec (atoms_spec (ws := ws) h _ (by rw [hw]; exact List.mem_cons_self))
    cases hn.symm.trans hn9
    exact ⟨meth, c, h1, h2, h3, h4, h5, h6⟩
  · intro p e s m args below meth c s₁ B hml hP _
    have hh0 : s₁.heap = s.heap := by rw [B.state]; rfl
    obtain ⟨t, a1, o, b1, b2, b3⟩ := body p e s m args below meth c s₁ B hml hP s₁ hh0 (Stand.of_body B)
    exact ⟨t, o, a1, b1, b2, ⟨b3.1, b3.2⟩⟩
theorem jjConA_of {l : Launch} {y : MethodName} {own : String} {cc : ByteArray} {nL d mc ms : Nat} {rt : Option FieldType} {ws ws' : List Cond} {D : va_G} {cA : ClassId} {av : List Value} {w : va_W} {Q : Option Value → va_W → Prop} (lv : List (Option Value))
    (hw : ws = Cond.codeWith y cc nL rt jHH :: ws') (hy : plainName y.cls = true) (ho : y.cls = own) (hlen : (lg_sl av).length ≤ nL) (hlv : lv_args 0 av = jjL 0 lv)
    (h : jjV l own cc nL rt jIh ws (jjRm d mc ms) D cA (jjEnd D Q mc ms) 0 0 w 0 lv []) : jjConA l y ws d D cA av w mc ms Q := by
  intro sz
  refine jMet_ofWH (cc := cc) (maxL := nL) (ret := rt) hy hw ?_
  intro p e s m args below meth c s₁ B hml hv
  obtain ⟨rfl, ⟨hsz, hP, hK, hD0⟩, hXf, hnc⟩ := hv
  have hts := atoms_spec (ws := ws) B.pre
  have hown : s.vm.findClass own = some m.cls := by rw [← ho]; exact findClass_of_methodNamed B.named
  have htab : c.exceptionTable.toList = jTab := vx_table (x := y) B (hts _ (by rw [hw]; exact List.mem_cons_self))
  subst hsz
  have hl := lv_entry av (n := nL) hlen
  rw [hlv] at hl
  rw [lg_entry_eq]
  exact h p e s m _ below meth c (va_A w s.heap.size) s.heap [] _ ⟨B.exec, B.bytes, B.returns, hml, hown, hts, B.notSynchronized⟩ ⟨hXf, htab, hnc⟩ (fun q h => Or.inr h) hK hP hD0.self va_S.rf hl
def jjMA (y : MethodName) (ws : List Cond) (bytes : ByteArray) (maxL : Nat) (ret : Option FieldType) (na : Nat) : Prop :=
  (∃ ws', ws = Cond.codeWith y bytes maxL ret jHH :: ws') ∧ (y.cls ≠ "java/lang/invoke/MethodHandle" ∧ y.cls ≠ "java/lang/invoke/VarHandle" ∧ (parseMethodDescriptor y.desc).map (fun d => d.parameters.length) = some na)
section JA
variable {l : Launch} {own : String} {cc : ByteArray} {nL : Nat} {rt : Option FieldType} {I : jjI} {ws : List Cond} {R : Room} {D : va_G} {cA : ClassId} {E : jjE} {k n : Nat} {w : va_W} {pc : Nat} {lv : List (Option Value)} {st : List Value}
theorem jj_callSA {y : MethodName} {ws2 : List Cond} {bytes : ByteArray} {maxL d mc ms na ix : Nat} {ret : Option FieldType} {As : List Value} (rest : List Value) {Q : Option Value → va_W → Prop} (hC : jjConA l y ws2 d D cA As w mc ms Q) (hI9 : ∀ A s meth c, I A s meth c → jXg A s) (hd : decode cc pc = .ok (.invokestatic ix, 3)) (hG : GoodIn ws (va_wsS own ix y ws2)) (hm : jjMA y ws2 bytes maxL ret na) (hR : d + 1 ≤ R.frames ∧ 8 + (maxL + 11) + 30 * d ≤ R.locals) (hAs : As.length = na) (hst : st = As.reverse ++ rest) (hrest : (rest.map fun v => v.category).sum ≤ 8) (hf : k + mc ≤ R.cells ∧ n + ms ≤ R.slots) (kk : ∀ (r : Option Value) (w' : va_W), Q r w' → jjV l own cc nL rt I ws R D cA E (k + mc) (n + ms) w' (pc + 3) lv (r.toList ++ rest)) : jjV l own cc nL rt I ws R D cA E k n w pc lv st := by
  intro p e s m args below meth c A H locs ls hF hI hA hK hP hD hS hl
  obtain ⟨⟨ws3, hw⟩, hy1, hy2, hy3⟩ := hm
  subst hst
  have hsub := jjA_sub hD hS hA
  obtain ⟨x1, x2⟩ := hI9 _ _ _ _ hI
  exact jj_wcall (vx_runSW (As := As) (rest := rest) ⟨hF.1, hF.2.1, hF.2.2.2.1, hF.2.2.2.2.1, hF.2.2.2.2.2.1⟩ (hC H.size) (vx_cwSW na hF.2.2.2.2.2.1 hG hw rfl rfl ⟨hy1, hy2, hy3⟩ hR) ⟨fun a U g mk q => ⟨q.1, ⟨q.2.1.1, q.2.1.2.1, va_K.moved (u := U) (U := U.calling g mk a) (Vm.Alike.refl U.vm) q.2.1.2.2.1, q.2.1.2.2.2⟩, ⟨q.2.2.1.blind, va_Nc.moved (u := U) (U := U.calling g mk a) (Vm.Alike.refl U.vm) q.2.2.2⟩⟩, fun U hU hW => ⟨rfl, ⟨by rw [hU], by rw [hU]; exact hP, va_K.moved hW.alike hK, hD.weaken (fun _ _ _ _ => trivial)⟩, ⟨x1.call hS hU hW hsub, va_Nc.moved hW.alike x2⟩⟩⟩ rfl hAs hl.1 rfl (lv_room hrest) hd hf) hS hsub hsub (fun r w' H1 locs1 hQ hP hD hS => kk r w' hQ p e s m args below meth c A H1 locs1 ls hF hI hA hK hP hD hS hl)
end JA
