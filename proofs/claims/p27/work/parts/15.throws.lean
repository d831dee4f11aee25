/-! Methods that answer or throw: their contracts, their ends, and what a throw needs of the start. -/
abbrev jXn : List String := ["java/lang/RuntimeException", "java/lang/Exception"]
def jXI (C : String) : MethodName := ⟨C, "<init>", "(Ljava/lang/String;)V"⟩
def jXB : List Cond := [.declares (jXI "java/lang/RuntimeException"), .declares (jXI "java/lang/Exception"), .declares (jXI "java/lang/Throwable"), .castable "java/lang/IllegalStateException" "java/lang/IllegalStateException", .castable "java/lang/IndexOutOfBoundsException" "java/lang/IndexOutOfBoundsException", .castable "java/lang/IllegalArgumentException" "java/lang/IllegalArgumentException"]
def jStr : List (Nat × String) := [(65, "there are 8 objects"), (84, "no such object, or symbol"), (92, "size is not 1 to 20"), (98, "there were 40 pieces"), (104, "no such piece, or symbol"), (125, "the piece has 3 references, is of a patch, or is laid"), (134, "reach is not 5 to 100"), (140, "there is a run"), (157, "no such fault"), (159, "what is not 0 to 1"), (165, "no such symbol"), (167, "what is not 0 to 3"), (172, "no such piece"), (174, "what is not 0 to 6"), (184, "no such word"), (189, "what is not 0 to 9"), (200, "no image, nothing to run, a gate that holds, or 4 runs"), (217, "no such run, or reference"), (225, "the stack has 8, or a gate holds"), (227, "no such run"), (236, "no such run, or place"), (244, "size is not 1 to 20, or group is not 0 to 3"), (248, "no image, a symbol that stands for nothing, 8 patches, or 40 pieces"), (256, "no such patch"), (264, "no such patch that waits"), (278, "no such object"), (280, "size is not 1 to 200")]
theorem jXB_warm {s U : State} (hW : s.WarmedH U.vm) (h : ∀ w ∈ jXB, va_Nw w s) : ∀ w ∈ jXB, va_Nw w U := by
  intro w hw
  have h1 := h w hw
  simp only [jXB, List.mem_cons, List.not_mem_nil, or_false] at hw
  rcases hw with rfl | rfl | rfl | rfl | rfl | rfl
  · exact va_Nw.warmD hW h1
  · exact va_Nw.warmD hW h1
  · exact va_Nw.warmD hW h1
  · exact va_Nw.warmC hW h1
  · exact va_Nw.warmC hW h1
  · exact va_Nw.warmC hW h1
theorem jXB_tab : ∀ w ∈ jXB, w.onTables = true := by decide +kernel
/-- what a throw needs of the start, and of the cells that may be written -/
def jXf (A : Nat → Prop) (s : State) : Prop := vx_Zq Bundle.tN "UNASSIGNED_STACK" Bundle.steD A s s.heap ∧ vx_Zq Bundle.tN "SUPPRESSED_SENTINEL" Bundle.listD A s s.heap ∧ (∀ w ∈ jXB, va_Nw w s) ∧ ∀ q ∈ jStr, ∃ sa, vk_R RX7 q.1 q.2 sa s
theorem jXf.call {A B : Nat → Prop} {s U : State} {H : Heap} {locs : List Loc} (h : jXf A s) (hS : va_S A s.heap H locs) (hU : U.heap = H) (hW : s.WarmedH U.vm) (hAB : ∀ q, B q → A q) : jXf B U :=
  ⟨by rw [hU]; exact ((h.1.kept hS.2.1).moved hW.alike).narrow hAB, by rw [hU]; exact ((h.2.1.kept hS.2.1).moved hW.alike).narrow hAB, jXB_warm hW h.2.2.1, fun q hq => (h.2.2.2 q hq).imp fun sa h => h.warm hW⟩
theorem jXf.blind {A : Nat → Prop} {U : State} {g : JFrame} {mk : MethodId} {a : Array Value} (h : jXf A U) : jXf A (U.calling g mk a) :=
  ⟨vx_Zq.moved (u := U) (U := U.calling g mk a) (Vm.Alike.refl U.vm) h.1, vx_Zq.moved (u := U) (U := U.calling g mk a) (Vm.Alike.refl U.vm) h.2.1, fun w hw => va_Nw.same (u := U) (jXB_tab w hw) rfl (h.2.2.1 w hw), fun q hq => (h.2.2.2 q hq).imp fun sa h => vk_R.same (u := U) rfl h⟩
/-- what a method leaves that has thrown an E -/
def jjXC (D : va_G) (X : String → va_W → Prop) (A : Nat → Prop) : String → State → State → Prop := fun E st t => ∃ w' : va_W, X E w' ∧ va_P D vwCl w' t.heap ∧ va_D A w' ∧ va_F A st t
def jjEndX (D : va_G) (Q : Option Value → va_W → Prop) (X : String → va_W → Prop) (mc ms : Nat) : jjE := fun s below args A => vx_MQ below (jjQ D Q A) (jjXC D X A) args s mc ms A
def jIx : jjI := fun A s _ c => (∀ x ∈ c.exceptionTable.toList, False) ∧ jXf A s
/-- from a world w, called with av, a method answers with Q, or throws with X -/
def jjConX (l : Launch) (y : MethodName) (ws : List Cond) (d : Nat) (D : va_G) (cA : ClassId) (av : List Value) (w : va_W) (mc ms : Nat) (Q : Option Value → va_W → Prop) (X : String → va_W → Prop) : Prop :=
  ∀ sz : Nat, vx_Met l y ws (jjRm d mc ms) (va_Pc av (fun U => jjPre D cA w sz U ∧ jXf (va_A w sz) U)) (jjQ D Q (va_A w sz)) (jjXC D X (va_A w sz)) mc ms (va_A w sz)
theorem jjConX_of {l : Launch} {y : MethodName} {own : String} {cc : ByteArray} {nL d mc ms : Nat} {rt : Option FieldType} {ws : List Cond} {D : va_G} {cA : ClassId} {av : List Value} {w : va_W} {Q : Option Value → va_W → Prop} {X : String → va_W → Prop} {na : Nat} (lv : List (Option Value))
    (hm : jjM y ws cc nL rt na) (hy : plainName y.cls = true) (ho : y.cls = own) (hlen : (lg_sl av).length ≤ nL) (hlv : lv_args 0 av = jjL 0 lv)
    (h : jjV l own cc nL rt jIx ws (jjRm d mc ms) D cA (jjEndX D Q X mc ms) 0 0 w 0 lv []) : jjConX l y ws d D cA av w mc ms Q X := by
  intro sz
  obtain ⟨⟨ws', hw⟩, -⟩ := hm
  refine vx_ofW (cc := cc) (maxL := nL) (ret := rt) hy hw ?_
  intro p e s m args below meth c s₁ B hml htab hv
  obtain ⟨rfl, ⟨hsz, hP, hK, hD0⟩, hXf⟩ := hv
  have hts := atoms_spec (ws := ws) B.pre
  have hown : s.vm.findClass own = some m.cls := by rw [← ho]; exact findClass_of_methodNamed B.named
  subst hsz
  have hl := lv_entry av (n := nL) hlen
  rw [hlv] at hl
  rw [lg_entry_eq]
  exact h p e s m _ below meth c (va_A w s.heap.size) s.heap [] _ ⟨B.exec, B.bytes, B.returns, hml, hown, hts, B.notSynchronized⟩ ⟨htab, hXf⟩ (fun q h => Or.inr h) hK hP hD0.self va_S.rf hl
section JX
variable {l : Launch} {own : String} {cc : ByteArray} {nL : Nat} {rt : Option FieldType} {I : jjI} {ws : List Cond} {R : Room} {D : va_G} {cA : ClassId} {Q : Option Value → va_W → Prop} {X : String → va_W → Prop} {k n mc ms : Nat} {w : va_W} {pc : Nat} {lv : List (Option Value)} {st : List Value}
theorem jjx_iret {v : Int32} (hd : decode cc pc = .ok (.ireturn, 1)) (hk : k ≤ mc) (hs : n ≤ ms) (hQ : Q (some (.int v)) w) : jjV l own cc nL (some .int) I ws R D cA (jjEndX D Q X mc ms) k n w pc lv [.int v] := by
  intro p e s m args below meth c A H locs ls hF hI hA hK hP hD hS hl
  exact W.widen hk hs (vx_ret (W.iret hF.1 hF.2.1 hF.2.2.1 (fun t ht hW => ⟨⟨_, w, rfl, hQ, by rw [ht]; exact hP, hD⟩, hS.F ht⟩) (fun q hq => hS.2.2 q hq) hd hF.2.2.2.2.2.2))
theorem jjx_zret {v : Int32} (hn : narrow .boolean (.int v) = .int v) (hd : decode cc pc = .ok (.ireturn, 1)) (hk : k ≤ mc) (hs : n ≤ ms) (hQ : Q (some (.int v)) w) : jjV l own cc nL (some .boolean) I ws R D cA (jjEndX D Q X mc ms) k n w pc lv [.int v] := by
  intro p e s m args below meth c A H locs ls hF hI hA hK hP hD hS hl
  exact W.widen hk hs (vx_ret (W.zret hF.1 hF.2.1 hF.2.2.1 hn (fun t ht hW => ⟨⟨_, w, rfl, hQ, by rw [ht]; exact hP, hD⟩, hS.F ht⟩) (fun q hq => hS.2.2 q hq) hd hF.2.2.2.2.2.2))
def jXwd (own : String) (ws : List Cond) (ik ic : Nat) (cls : String) : Prop := Cond.classLink own ik cls ∈ ws ∧ Cond.initialized cls ∈ ws ∧ ∀ w ∈ (vx_atS own ic cls jXn).filter goodWord, w ∈ ws
def jXcl (own : String) (ik ic : Nat) (cls : String) : Prop := Bundle.fit cls = true ∧ (∀ w ∈ (vx_atS own ic cls jXn).filter (fun w => !goodWord w), w ∈ jXB) ∧ ∀ w ∈ Cond.classLink own ik cls :: Cond.initialized cls :: vx_atS own ic cls jXn, vx_ot w = true
theorem jXn_fit : ∀ n ∈ jXn, Bundle.fit n = true := by decide +kernel
theorem jxc_ISE : jXcl RX7 63 67 "java/lang/IllegalStateException" := ⟨by decide +kernel, by decide +kernel, by decide +kernel⟩
theorem jxc_IOB : jXcl RX7 82 86 "java/lang/IndexOutOfBoundsException" := ⟨by decide +kernel, by decide +kernel, by decide +kernel⟩
theorem jxc_IAE : jXcl RX7 90 94 "java/lang/IllegalArgumentException" := ⟨by decide +kernel, by decide +kernel, by decide +kernel⟩
theorem jjx_throw {cls : String} {ik ic is : Nat} (text : String) (hl0 : l.stackTraces = false) (hc : jXcl RX7 ik ic cls) (hw : jXwd RX7 ws ik ic cls) (hstr : (is, text) ∈ jStr)
    (d0 : decode cc pc = .ok (.new ik, 3)) (d3 : decode cc (pc + 3) = .ok (.dup, 1)) (d4 : decode cc (pc + 4) = .ok (.ldc is, 2)) (d6 : decode cc (pc + 6) = .ok (.invokespecial ic, 3)) (d9 : decode cc (pc + 9) = .ok (.athrow, 1))
    (hR : 5 < R.frames ∧ 90 ≤ R.locals ∧ 1 ≤ R.cells ∧ 6 ≤ R.slots) (hst : (st.map fun v => v.category).sum ≤ 5) (hX : X cls w) : jjV l RX7 cc nL rt jIx ws R D cA (jjEndX D Q X 1 6) 0 0 w pc lv st := by
  intro p e s m args below meth c A H locs ls hF hI hA hK hP hD hS hl
  obtain ⟨htab, hU, hN, hB, hT⟩ := hI
  obtain ⟨sa, hsa⟩ := hT _ hstr
  have hwd := hF.2.2.2.2.2.1
  exact vx_throwS (A := A) (names := jXn) (text := text) (sa := sa) hF.1 hF.2.1 hl0 hF.2.2.2.2.1 hc.1 jXn_fit (hwd _ hw.1) (hwd _ hw.2.1) hsa (vx_hat (fun w h => hwd _ (hw.2.2 w h)) hc.2.1 (fun w h => va_Nw.use (jXB_tab w h) (hB w h))) hc.2.2 hU hN hS (hl.1.trans hF.2.2.2.1.symm) d0 d3 d4 d6 d9 (fun x hx => (htab x hx).elim) hR.1 (by show _ + 82 ≤ R.locals; omega) hR.2.2.1 hR.2.2.2 hF.2.2.2.2.2.2
    (fun t ha hz hq => ⟨w, hX, hP.kept (fun k q h => hq _ ((hP k q h).lt)), hD, ⟨Nat.le_trans hS.1 hz, fun q h1 h2 => (hq q (Nat.lt_of_lt_of_le h1 hS.1)).trans (hS.2.1 q h1 h2)⟩⟩) (fun q hq => hS.2.2 q hq) (Nat.le_refl 1) (Nat.le_refl 6)
theorem jjx_throwW {cls : String} {ik ic is : Nat} (text : String) (hl0 : l.stackTraces = false) (hc : jXcl RX7 ik ic cls) (hw : jXwd RX7 ws ik ic cls) (hstr : (is, text) ∈ jStr)
    (d0 : decode cc pc = .ok (.new ik, 3)) (d3 : decode cc (pc + 3) = .ok (.dup, 1)) (d4 : decode cc (pc + 4) = .ok (.ldc_w is, 3)) (d6 : decode cc (pc + 7) = .ok (.invokespecial ic, 3)) (d9 : decode cc (pc + 10) = .ok (.athrow, 1))
    (hR : 5 < R.frames ∧ 90 ≤ R.locals ∧ 1 ≤ R.cells ∧ 6 ≤ R.slots) (hst : (st.map fun v => v.category).sum ≤ 5) (hX : X cls w) : jjV l RX7 cc nL rt jIx ws R D cA (jjEndX D Q X 1 6) 0 0 w pc lv st := by
  intro p e s m args below meth c A H locs ls hF hI hA hK hP hD hS hl
  obtain ⟨htab, hU, hN, hB, hT⟩ := hI
  obtain ⟨sa, hsa⟩ := hT _ hstr
  have hwd := hF.2.2.2.2.2.1
  exact vx_throwSW (A := A) (names := jXn) (text := text) (sa := sa) hF.1 hF.2.1 hl0 hF.2.2.2.2.1 hc.1 jXn_fit (hwd _ hw.1) (hwd _ hw.2.1) hsa (vx_hat (fun w h => hwd _ (hw.2.2 w h)) hc.2.1 (fun w h => va_Nw.use (jXB_tab w h) (hB w h))) hc.2.2 hU hN hS (hl.1.trans hF.2.2.2.1.symm) d0 d3 d4 d6 d9 (fun x hx => (htab x hx).elim) hR.1 (by show _ + 82 ≤ R.locals; omega) hR.2.2.1 hR.2.2.2 hF.2.2.2.2.2.2
    (fun t ha hz hq => ⟨w, hX, hP.kept (fun k q h => hq _ ((hP k q h).lt)), hD, ⟨Nat.le_trans hS.1 hz, fun q h1 h2 => (hq q (Nat.lt_of_lt_of_le h1 hS.1)).trans (hS.2.1 q h1 h2)⟩⟩) (fun q hq => hS.2.2 q hq) (Nat.le_refl 1) (Nat.le_refl 6)
end JX
