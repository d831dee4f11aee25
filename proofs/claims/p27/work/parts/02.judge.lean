/-! The judgement jjV: a body at a point, over a world w of cells and a list lv of locals; one row an instruction, each out of the kit's row for W. -/
abbrev jjE : Type := State → List Frame → Array Value → (Nat → Prop) → State → Prop
/-- what else a body may take as given: of the cells that it may change, of its start, of its method -/
abbrev jjI : Type := (Nat → Prop) → State → Method → Code → Prop
def jI0 : jjI := fun _ _ _ _ => True
def jIc : jjI := fun _ _ meth _ => meth.name = "<init>"
/-- what stays the same through a body -/
def jjF (p : Program) (s : State) (m : MethodId) (args : Array Value) (meth : Method) (c : Code) (own : String) (cc : ByteArray) (nL : Nat) (rt : Option FieldType) (ws : List Cond) : Prop :=
  p.tables.exec = Jvm.exec ∧ c.code = cc ∧ meth.sig.returnType = rt ∧ c.maxLocals = nL ∧ s.vm.findClass own = some m.cls ∧ (∀ w ∈ ws, w.before args s = true) ∧ meth.locks = false
/-- the locals, slot by slot: none where nothing is known -/
def jjL : Nat → List (Option Value) → List (Nat × Value)
  | _, [] => []
  | i, none :: r => jjL (i + 1) r
  | i, some v :: r => (i, v) :: jjL (i + 1) r
theorem jjL_mem : ∀ (lv : List (Option Value)) (i : Nat) (q : Nat × Value), q ∈ jjL i lv ↔ ∃ j, lv[j]? = some (some q.2) ∧ q.1 = i + j := by
  intro lv
  induction lv with
  | nil => intro i q; simp [jjL]
  | cons o r ih =>
    intro i q
    cases o with
    | none =>
      rw [show jjL i (none :: r) = jjL (i + 1) r from rfl, ih]
      constructor
      · rintro ⟨j, h1, h2⟩; exact ⟨j + 1, by simpa using h1, by omega⟩
      · rintro ⟨j, h1, h2⟩
        cases j with
        | zero => simp at h1
        | succ j => exact ⟨j, by simpa using h1, by omega⟩
    | some v =>
      rw [show jjL i (some v :: r) = (i, v) :: jjL (i + 1) r from rfl, List.mem_cons, ih]
      constructor
      · rintro (h | ⟨j, h1, h2⟩)
        · subst h; exact ⟨0, by simp, by simp⟩
        · exact ⟨j + 1, by simpa using h1, by omega⟩
      · rintro ⟨j, h1, h2⟩
        cases j with
        | zero =>
          left
          simp at h1
          obtain ⟨a, b⟩ := q
          simp at h1 h2
          rw [h1, h2]
        | succ j => right; exact ⟨j, by simpa using h1, by omega⟩
theorem jjL_at {ls : Array Slot} {nL : Nat} {lv : List (Option Value)} (h : lv_has ls nL (jjL 0 lv)) {i : Nat} {v : Value} (hi : lv[i]? = some (some v)) : ls[i]? = some (.val v) := h.2.2 (i, v) ((jjL_mem lv 0 (i, v)).mpr ⟨i, hi, by simp⟩)
theorem jjL_has {ls : Array Slot} {nL : Nat} {l l' : List (Nat × Value)} (h : lv_has ls nL l) (hl : ∀ q ∈ l', q ∈ l) : lv_has ls nL l' := ⟨h.1, h.2.1, fun q hq => h.2.2 q (hl q hq)⟩
def jjC : Option Value → Bool
  | none => true
  | some v => v.category == 1
theorem jjL_set1 {lv : List (Option Value)} {i : Nat} {v : Value} (hc : ∀ u, (i = 0 ∨ lv[i - 1]? = some (some u) → i = 0 ∨ u.category = 1)) : ∀ q ∈ jjL 0 (lv.set i (some v)), q ∈ (i, v) :: (jjL 0 lv).filter (fun q => !(q.1 == i) && !(q.1 + 1 == i && q.2.category == 2)) := by
  intro q hq
  obtain ⟨j, h1, h2⟩ := (jjL_mem _ _ _).mp hq
  obtain ⟨a, b⟩ := q
  simp only [Nat.zero_add] at h1 h2
  subst h2
  rw [List.getElem?_set] at h1
  by_cases hj : i = a
  · subst hj
    by_cases hl : i < lv.length
    · simp [hl] at h1
      rw [h1]; exact List.mem_cons_self
    · simp [hl] at h1
  · rw [if_neg hj] at h1
    refine List.mem_cons_of_mem _ (List.mem_filter.mpr ⟨(jjL_mem _ _ _).mpr ⟨a, h1, by simp⟩, ?_⟩)
    have n1 : (a == i) = false := by simp; omega
    have n2 : (a + 1 == i && b.category == 2) = false := by
      by_cases h3 : a + 1 = i
      · have h4 := hc b (Or.inr (by rw [show i - 1 = a by omega]; exact h1))
        rcases h4 with h4 | h4
        · omega
        · simp [h4]
      · simp [h3]
    simp only [n1, n2]; rfl
theorem jjL_set2 {lv : List (Option Value)} {i : Nat} {v : Value} (hc : ∀ u, (i = 0 ∨ lv[i - 1]? = some (some u) → i = 0 ∨ u.category = 1)) : ∀ q ∈ jjL 0 ((lv.set i (some v)).set (i + 1) none), q ∈ (i, v) :: (jjL 0 lv).filter (fun q => !(q.1 == i) && (!(q.1 == i + 1) && !(q.1 + 1 == i && q.2.category == 2))) := by
  intro q hq
  obtain ⟨j, h1, h2⟩ := (jjL_mem _ _ _).mp hq
  obtain ⟨a, b⟩ := q
  simp only [Nat.zero_add] at h1 h2
  subst h2
  rw [List.getElem?_set] at h1
  by_cases hj1 : i + 1 = a
  · rw [if_pos hj1] at h1
    split at h1 <;> simp at h1
  · rw [if_neg hj1, List.getElem?_set] at h1
    by_cases hj : i = a
    · subst hj
      by_cases hl : i < lv.length
      · simp [hl] at h1
        rw [h1]; exact List.mem_cons_self
      · simp [hl] at h1
    · rw [if_neg hj] at h1
      refine List.mem_cons_of_mem _ (List.mem_filter.mpr ⟨(jjL_mem _ _ _).mpr ⟨a, h1, by simp⟩, ?_⟩)
      have n1 : (a == i) = false := by simp; omega
      have n3 : (a == i + 1) = false := by simp; omega
      have n2 : (a + 1 == i && b.category == 2) = false := by
        by_cases h3 : a + 1 = i
        · have h4 := hc b (Or.inr (by rw [show i - 1 = a by omega]; exact h1))
          rcases h4 with h4 | h4
          · omega
          · simp [h4]
        · simp [h3]
      simp only [n1, n2, n3]; rfl
theorem jjC_use {o : Option Value} (h : jjC o = true) {u : Value} (hu : some o = some (some u)) : u.category = 1 := by
  cases o with
  | none => cases hu
  | some w => cases hu; simpa [jjC] using h
/-- fewer known locals -/
def jjLe : List (Option Value) → List (Option Value) → Prop := fun a b => ∀ (i : Nat) (v : Value), a[i]? = some (some v) → b[i]? = some (some v)
theorem jjLe_nil {b : List (Option Value)} : jjLe [] b := fun i v h => by simp at h
theorem jjLe_none {a b : List (Option Value)} {x : Option Value} (h : jjLe a b) : jjLe (none :: a) (x :: b) := fun i v q => by
  cases i with
  | zero => simp at q
  | succ i => simpa using h i v (by simpa using q)
theorem jjLe_some {a b : List (Option Value)} {x : Option Value} (h : jjLe a b) : jjLe (x :: a) (x :: b) := fun i v q => by
  cases i with
  | zero => simpa using q
  | succ i => simpa using h i v (by simpa using q)
theorem jjLe.mem {a b : List (Option Value)} (h : jjLe a b) : ∀ q ∈ jjL 0 a, q ∈ jjL 0 b := fun q hq => by
  obtain ⟨j, h1, h2⟩ := (jjL_mem _ _ _).mp hq
  exact (jjL_mem _ _ _).mpr ⟨j, h j _ h1, h2⟩
/-- a body at a point: whatever the machine's state, if it holds the world w and the locals lv, it comes to E -/
def jjV (l : Launch) (own : String) (cc : ByteArray) (nL : Nat) (rt : Option FieldType) (I : jjI) (ws : List Cond) (R : Room) (D : va_G) (cA : ClassId) (E : jjE) (k n : Nat) (w : va_W) (pc : Nat) (lv : List (Option Value)) (st : List Value) : Prop :=
  ∀ (p : Program) (e : Env) (s : State) (m : MethodId) (args : Array Value) (below : List Frame) (meth : Method) (c : Code) (A : Nat → Prop) (H : Heap) (locs : List Loc) (ls : Array Slot),
    jjF p s m args meth c own cc nL rt ws → I A s meth c → (∀ q : Nat, s.heap.size ≤ q → A q) → va_K D vwCl [(cA, .int)] s → va_P D vwCl w H → va_D A w → va_S A s.heap H locs → lv_has ls nL (jjL 0 lv) →
    W p l e R s m args below meth c H locs k n (E s below args A) (F0 m pc ls st)
section JJ
variable {l : Launch} {own : String} {cc : ByteArray} {nL : Nat} {rt : Option FieldType} {I : jjI} {ws : List Cond} {R : Room} {D : va_G} {cA : ClassId} {E : jjE} {k n : Nat} {w : va_W} {pc : Nat} {lv : List (Option Value)} {st : List Value}
theorem jj_iconst {q : Int} {v : Int32} (hd : decode cc pc = .ok (.iconst q, 1)) (hv : Int32.ofInt q = v) (kk : jjV l own cc nL rt I ws R D cA E k n w (pc + 1) lv (.int v :: st)) : jjV l own cc nL rt I ws R D cA E k n w pc lv st := by
  intro p e s m args below meth c A H locs ls hF hI hA hK hP hD hS hl
  exact lv_iconst hF.1 hF.2.1 hd hv (kk p e s m args below meth c A H locs ls hF hI hA hK hP hD hS hl)
theorem jj_bipush {q : Int} {v : Int32} (hd : decode cc pc = .ok (.bipush q, 2)) (hv : (Int8.ofInt q).toInt32 = v) (kk : jjV l own cc nL rt I ws R D cA E k n w (pc + 2) lv (.int v :: st)) : jjV l own cc nL rt I ws R D cA E k n w pc lv st := by
  intro p e s m args below meth c A H locs ls hF hI hA hK hP hD hS hl
  exact lv_bipush hF.1 hF.2.1 hd hv (kk p e s m args below meth c A H locs ls hF hI hA hK hP hD hS hl)
theorem jj_sipush {q : Int} {v : Int32} (hd : decode cc pc = .ok (.sipush q, 3)) (hv : (Int16.ofInt q).toInt32 = v) (kk : jjV l own cc nL rt I ws R D cA E k n w (pc + 3) lv (.int v :: st)) : jjV l own cc nL rt I ws R D cA E k n w pc lv st := by
  intro p e s m args below meth c A H locs ls hF hI hA hK hP hD hS hl
  exact lv_sipush hF.1 hF.2.1 hd hv (kk p e s m args below meth c A H locs ls hF hI hA hK hP hD hS hl)
theorem jj_ldc {ix : Nat} {v : Int32} (hd : decode cc pc = .ok (.ldc ix, 2)) (hw : Cond.constant own ix v ∈ ws) (kk : jjV l own cc nL rt I ws R D cA E k n w (pc + 2) lv (.int v :: st)) : jjV l own cc nL rt I ws R D cA E k n w pc lv st := by
  intro p e s m args below meth c A H locs ls hF hI hA hK hP hD hS hl
  exact lv_ldc hF.1 hF.2.1 hF.2.2.2.2.1 (hF.2.2.2.2.2.1 _ hw) hd (kk p e s m args below meth c A H locs ls hF hI hA hK hP hD hS hl)
theorem jj_ldc2 {ix : Nat} {v : Int64} (hd : decode cc pc = .ok (.ldc2_w ix, 3)) (hw : Cond.constantLong own ix v ∈ ws) (kk : jjV l own cc nL rt I ws R D cA E k n w (pc + 3) lv (.long v :: st)) : jjV l own cc nL rt I ws R D cA E k n w pc lv st := by
  intro p e s m args below meth c A H locs ls hF hI hA hK hP hD hS hl
  exact lv_ldc2 hF.1 hF.2.1 hF.2.2.2.2.1 (hF.2.2.2.2.2.1 _ hw) hd (kk p e s m args below meth c A H locs ls hF hI hA hK hP hD hS hl)
theorem jj_ldc2d {ix : Nat} {v : UInt64} (hd : decode cc pc = .ok (.ldc2_w ix, 3)) (hw : Cond.constantDouble own ix v ∈ ws) (kk : jjV l own cc nL rt I ws R D cA E k n w (pc + 3) lv (.double v :: st)) : jjV l own cc nL rt I ws R D cA E k n w pc lv st := by
  intro p e s m args below meth c A H locs ls hF hI hA hK hP hD hS hl
  exact lv_ldc2d hF.1 hF.2.1 hF.2.2.2.2.1 (hF.2.2.2.2.2.1 _ hw) hd (kk p e s m args below meth c A H locs ls hF hI hA hK hP hD hS hl)
theorem jj_dconst0 (hd : decode cc pc = .ok (.dconst 0, 1)) (kk : jjV l own cc nL rt I ws R D cA E k n w (pc + 1) lv (.double FP.dconst0 :: st)) : jjV l own cc nL rt I ws R D cA E k n w pc lv st := by
  intro p e s m args below meth c A H locs ls hF hI hA hK hP hD hS hl
  exact lv_dconst0 hF.1 hF.2.1 hd (kk p e s m args below meth c A H locs ls hF hI hA hK hP hD hS hl)
theorem jj_iload_n {q : Fin 4} (i : Nat) {x : Int32} (hd : decode cc pc = .ok (.iload_n q, 1)) (hi : (q : Nat) = i) (hx : lv[i]? = some (some (.int x))) (kk : jjV l own cc nL rt I ws R D cA E k n w (pc + 1) lv (.int x :: st)) : jjV l own cc nL rt I ws R D cA E k n w pc lv st := by
  intro p e s m args below meth c A H locs ls hF hI hA hK hP hD hS hl
  exact lv_iload_n hF.1 hF.2.1 hd hi (jjL_at hl hx) (kk p e s m args below meth c A H locs ls hF hI hA hK hP hD hS hl)
theorem jj_iload {i : Nat} {x : Int32} (hd : decode cc pc = .ok (.iload i, 2)) (hx : lv[i]? = some (some (.int x))) (kk : jjV l own cc nL rt I ws R D cA E k n w (pc + 2) lv (.int x :: st)) : jjV l own cc nL rt I ws R D cA E k n w pc lv st := by
  intro p e s m args below meth c A H locs ls hF hI hA hK hP hD hS hl
  exact lv_iload hF.1 hF.2.1 hd (jjL_at hl hx) (kk p e s m args below meth c A H locs ls hF hI hA hK hP hD hS hl)
theorem jj_lload_n {q : Fin 4} (i : Nat) {x : Int64} (hd : decode cc pc = .ok (.lload_n q, 1)) (hi : (q : Nat) = i) (hx : lv[i]? = some (some (.long x))) (kk : jjV l own cc nL rt I ws R D cA E k n w (pc + 1) lv (.long x :: st)) : jjV l own cc nL rt I ws R D cA E k n w pc lv st := by
  intro p e s m args below meth c A H locs ls hF hI hA hK hP hD hS hl
  exact lv_lload_n hF.1 hF.2.1 hd hi (jjL_at hl hx) (kk p e s m args below meth c A H locs ls hF hI hA hK hP hD hS hl)
theorem jj_lload {i : Nat} {x : Int64} (hd : decode cc pc = .ok (.lload i, 2)) (hx : lv[i]? = some (some (.long x))) (kk : jjV l own cc nL rt I ws R D cA E k n w (pc + 2) lv (.long x :: st)) : jjV l own cc nL rt I ws R D cA E k n w pc lv st := by
  intro p e s m args below meth c A H locs ls hF hI hA hK hP hD hS hl
  exact lv_lload hF.1 hF.2.1 hd (jjL_at hl hx) (kk p e s m args below meth c A H locs ls hF hI hA hK hP hD hS hl)
theorem jj_aload_n {q : Fin 4} (i : Nat) {x : Nat} (hd : decode cc pc = .ok (.aload_n q, 1)) (hi : (q : Nat) = i) (hx : lv[i]? = some (some (.ref x))) (kk : jjV l own cc nL rt I ws R D cA E k n w (pc + 1) lv (.ref x :: st)) : jjV l own cc nL rt I ws R D cA E k n w pc lv st := by
  intro p e s m args below meth c A H locs ls hF hI hA hK hP hD hS hl
  exact lv_aload_n hF.1 hF.2.1 hd hi (jjL_at hl hx) (kk p e s m args below meth c A H locs ls hF hI hA hK hP hD hS hl)
theorem jj_aload {i : Nat} {x : Nat} (hd : decode cc pc = .ok (.aload i, 2)) (hx : lv[i]? = some (some (.ref x))) (kk : jjV l own cc nL rt I ws R D cA E k n w (pc + 2) lv (.ref x :: st)) : jjV l own cc nL rt I ws R D cA E k n w pc lv st := by
  intro p e s m args below meth c A H locs ls hF hI hA hK hP hD hS hl
  exact lv_aload hF.1 hF.2.1 hd (jjL_at hl hx) (kk p e s m args below meth c A H locs ls hF hI hA hK hP hD hS hl)
theorem jj_iadd {x y : Int32} (hd : decode cc pc = .ok (.iadd, 1)) (kk : jjV l own cc nL rt I ws R D cA E k n w (pc + 1) lv (.int (x + y) :: st)) : jjV l own cc nL rt I ws R D cA E k n w pc lv (.int y :: .int x :: st) := by
  intro p e s m args below meth c A H locs ls hF hI hA hK hP hD hS hl
  exact lv_iadd hF.1 hF.2.1 hd (kk p e s m args below meth c A H locs ls hF hI hA hK hP hD hS hl)
theorem jj_isub {x y : Int32} (hd : decode cc pc = .ok (.isub, 1)) (kk : jjV l own cc nL rt I ws R D cA E k n w (pc + 1) lv (.int (x - y) :: st)) : jjV l own cc nL rt I ws R D cA E k n w pc lv (.int y :: .int x :: st) := by
  intro p e s m args below meth c A H locs ls hF hI hA hK hP hD hS hl
  exact lv_isub hF.1 hF.2.1 hd (kk p e s m args below meth c A H locs ls hF hI hA hK hP hD hS hl)
theorem jj_imul {x y : Int32} (hd : decode cc pc = .ok (.imul, 1)) (kk : jjV l own cc nL rt I ws R D cA E k n w (pc + 1) lv (.int (x * y) :: st)) : jjV l own cc nL rt I ws R D cA E k n w pc lv (.int y :: .int x :: st) := by
  intro p e s m args below meth c A H locs ls hF hI hA hK hP hD hS hl
  exact lv_imul hF.1 hF.2.1 hd (kk p e s m args below meth c A H locs ls hF hI hA hK hP hD hS hl)
theorem jj_iand {x y : Int32} (hd : decode cc pc = .ok (.iand, 1)) (kk : jjV l own cc nL rt I ws R D cA E k n w (pc + 1) lv (.int (x &&& y) :: st)) : jjV l own cc nL rt I ws R D cA E k n w pc lv (.int y :: .int x :: st) := by
  intro p e s m args below meth c A H locs ls hF hI hA hK hP hD hS hl
  exact lv_iand hF.1 hF.2.1 hd (kk p e s m args below meth c A H locs ls hF hI hA hK hP hD hS hl)
theorem jj_ior {x y : Int32} (hd : decode cc pc = .ok (.ior, 1)) (kk : jjV l own cc nL rt I ws R D cA E k n w (pc + 1) lv (.int (x ||| y) :: st)) : jjV l own cc nL rt I ws R D cA E k n w pc lv (.int y :: .int x :: st) := by
  intro p e s m args below meth c A H locs ls hF hI hA hK hP hD hS hl
  exact lv_ior hF.1 hF.2.1 hd (kk p e s m args below meth c A H locs ls hF hI hA hK hP hD hS hl)
theorem jj_ixor {x y : Int32} (hd : decode cc pc = .ok (.ixor, 1)) (kk : jjV l own cc nL rt I ws R D cA E k n w (pc + 1) lv (.int (x ^^^ y) :: st)) : jjV l own cc nL rt I ws R D cA E k n w pc lv (.int y :: .int x :: st) := by
  intro p e s m args below meth c A H locs ls hF hI hA hK hP hD hS hl
  exact lv_ixor hF.1 hF.2.1 hd (kk p e s m args below meth c A H locs ls hF hI hA hK hP hD hS hl)
theorem jj_ishl {x y : Int32} (hd : decode cc pc = .ok (.ishl, 1)) (kk : jjV l own cc nL rt I ws R D cA E k n w (pc + 1) lv (.int (x <<< (y &&& 31)) :: st)) : jjV l own cc nL rt I ws R D cA E k n w pc lv (.int y :: .int x :: st) := by
  intro p e s m args below meth c A H locs ls hF hI hA hK hP hD hS hl
  exact lv_ishl hF.1 hF.2.1 hd (kk p e s m args below meth c A H locs ls hF hI hA hK hP hD hS hl)
theorem jj_ishr {x y : Int32} (hd : decode cc pc = .ok (.ishr, 1)) (kk : jjV l own cc nL rt I ws R D cA E k n w (pc + 1) lv (.int (x >>> (y &&& 31)) :: st)) : jjV l own cc nL rt I ws R D cA E k n w pc lv (.int y :: .int x :: st) := by
  intro p e s m args below meth c A H locs ls hF hI hA hK hP hD hS hl
  exact lv_ishr hF.1 hF.2.1 hd (kk p e s m args below meth c A H locs ls hF hI hA hK hP hD hS hl)
theorem jj_idiv {x y : Int32} (hd : decode cc pc = .ok (.idiv, 1)) (hy : ¬ y = 0) (kk : jjV l own cc nL rt I ws R D cA E k n w (pc + 1) lv (.int (x / y) :: st)) : jjV l own cc nL rt I ws R D cA E k n w pc lv (.int y :: .int x :: st) := by
  intro p e s m args below meth c A H locs ls hF hI hA hK hP hD hS hl
  exact lv_idiv hF.1 hF.2.1 hd hy (kk p e s m args below meth c A H locs ls hF hI hA hK hP hD hS hl)
theorem jj_irem {x y : Int32} (hd : decode cc pc = .ok (.irem, 1)) (hy : ¬ y = 0) (kk : jjV l own cc nL rt I ws R D cA E k n w (pc + 1) lv (.int (x - x / y * y) :: st)) : jjV l own cc nL rt I ws R D cA E k n w pc lv (.int y :: .int x :: st) := by
  intro p e s m args below meth c A H locs ls hF hI hA hK hP hD hS hl
  exact lv_irem hF.1 hF.2.1 hd hy (kk p e s m args below meth c A H locs ls hF hI hA hK hP hD hS hl)
theorem jj_ladd {x y : Int64} (hd : decode cc pc = .ok (.ladd, 1)) (kk : jjV l own cc nL rt I ws R D cA E k n w (pc + 1) lv (.long (x + y) :: st)) : jjV l own cc nL rt I ws R D cA E k n w pc lv (.long y :: .long x :: st) := by
  intro p e s m args below meth c A H locs ls hF hI hA hK hP hD hS hl
  exact lv_ladd hF.1 hF.2.1 hd (kk p e s m args below meth c A H locs ls hF hI hA hK hP hD hS hl)
theorem jj_lmul {x y : Int64} (hd : decode cc pc = .ok (.lmul, 1)) (kk : jjV l own cc nL rt I ws R D cA E k n w (pc + 1) lv (.long (x * y) :: st)) : jjV l own cc nL rt I ws R D cA E k n w pc lv (.long y :: .long x :: st) := by
  intro p e s m args below meth c A H locs ls hF hI hA hK hP hD hS hl
  exact lv_lmul hF.1 hF.2.1 hd (kk p e s m args below meth c A H locs ls hF hI hA hK hP hD hS hl)
theorem jj_i2l {x : Int32} (hd : decode cc pc = .ok (.i2l, 1)) (kk : jjV l own cc nL rt I ws R D cA E k n w (pc + 1) lv (.long x.toInt64 :: st)) : jjV l own cc nL rt I ws R D cA E k n w pc lv (.int x :: st) := by
  intro p e s m args below meth c A H locs ls hF hI hA hK hP hD hS hl
  exact lv_i2l hF.1 hF.2.1 hd rfl (kk p e s m args below meth c A H locs ls hF hI hA hK hP hD hS hl)
theorem jj_i2d {x : Int32} (hd : decode cc pc = .ok (.i2d, 1)) (kk : jjV l own cc nL rt I ws R D cA E k n w (pc + 1) lv (.double (FP.i2d x) :: st)) : jjV l own cc nL rt I ws R D cA E k n w pc lv (.int x :: st) := by
  intro p e s m args below meth c A H locs ls hF hI hA hK hP hD hS hl
  exact lv_i2d hF.1 hF.2.1 hd (kk p e s m args below meth c A H locs ls hF hI hA hK hP hD hS hl)
theorem jj_ddiv {x y : UInt64} (hd : decode cc pc = .ok (.ddiv, 1)) (hn : vf_n64 (FP.ddiv x y)) (kk : jjV l own cc nL rt I ws R D cA E k n w (pc + 1) lv (.double (FP.ddiv x y) :: st)) : jjV l own cc nL rt I ws R D cA E k n w pc lv (.double y :: .double x :: st) := by
  intro p e s m args below meth c A H locs ls hF hI hA hK hP hD hS hl
  exact lv_ddiv hF.1 hF.2.1 hd hn (kk p e s m args below meth c A H locs ls hF hI hA hK hP hD hS hl)
theorem jj_dcmp {x y : UInt64} {op : CmpOp} (hd : decode cc pc = .ok (.dcmp op, 1)) (kk : jjV l own cc nL rt I ws R D cA E k n w (pc + 1) lv (.int (Op.cmpValue (FP.dcmp x y) op) :: st)) : jjV l own cc nL rt I ws R D cA E k n w pc lv (.double y :: .double x :: st) := by
  intro p e s m args below meth c A H locs ls hF hI hA hK hP hD hS hl
  exact lv_dcmp hF.1 hF.2.1 hd (kk p e s m args below meth c A H locs ls hF hI hA hK hP hD hS hl)
theorem jj_dup {v : Value} (hd : decode cc pc = .ok (.dup, 1)) (hc : v.category = 1) (kk : jjV l own cc nL rt I ws R D cA E k n w (pc + 1) lv (v :: v :: st)) : jjV l own cc nL rt I ws R D cA E k n w pc lv (v :: st) := by
  intro p e s m args below meth c A H locs ls hF hI hA hK hP hD hS hl
  exact lv_dup hF.1 hF.2.1 hd hc (kk p e s m args below meth c A H locs ls hF hI hA hK hP hD hS hl)
theorem jj_pop {v : Value} (hd : decode cc pc = .ok (.pop, 1)) (hc : v.category = 1) (kk : jjV l own cc nL rt I ws R D cA E k n w (pc + 1) lv st) : jjV l own cc nL rt I ws R D cA E k n w pc lv (v :: st) := by
  intro p e s m args below meth c A H locs ls hF hI hA hK hP hD hS hl
  exact lv_pop hF.1 hF.2.1 hd hc (kk p e s m args below meth c A H locs ls hF hI hA hK hP hD hS hl)
theorem jj_name {x : Value} (kk : ∀ y, y = x → jjV l own cc nL rt I ws R D cA E k n w pc lv (y :: st)) : jjV l own cc nL rt I ws R D cA E k n w pc lv (x :: st) := kk x rfl
theorem jj_if_eq {x : Int32} {off : Int} (tgt : Nat) (hd : decode cc pc = .ok (.ifCond .eq off, 3)) (ht : (pc : Int) + off = (tgt : Int)) (kt : x = 0 → jjV l own cc nL rt I ws R D cA E k n w tgt lv st) (kf : ¬ x = 0 → jjV l own cc nL rt I ws R D cA E k n w (pc + 3) lv st) : jjV l own cc nL rt I ws R D cA E k n w pc lv (.int x :: st) := by
  intro p e s m args below meth c A H locs ls hF hI hA hK hP hD hS hl
  exact lv_if_eq hF.1 hF.2.1 hd ht (fun h => kt h p e s m args below meth c A H locs ls hF hI hA hK hP hD hS hl) (fun h => kf h p e s m args below meth c A H locs ls hF hI hA hK hP hD hS hl)
theorem jj_icmp_eq {x y : Int32} {off : Int} (tgt : Nat) (hd : decode cc pc = .ok (.if_icmp .eq off, 3)) (ht : (pc : Int) + off = (tgt : Int)) (kt : x = y → jjV l own cc nL rt I ws R D cA E k n w tgt lv st) (kf : ¬ x = y → jjV l own cc nL rt I ws R D cA E k n w (pc + 3) lv st) : jjV l own cc nL rt I ws R D cA E k n w pc lv (.int y :: .int x :: st) := by
  intro p e s m args below meth c A H locs ls hF hI hA hK hP hD hS hl
  exact lv_icmp_eq hF.1 hF.2.1 hd ht (fun h => kt h p e s m args below meth c A H locs ls hF hI hA hK hP hD hS hl) (fun h => kf h p e s m args below meth c A H locs ls hF hI hA hK hP hD hS hl)
theorem jj_if_ne {x : Int32} {off : Int} (tgt : Nat) (hd : decode cc pc = .ok (.ifCond .ne off, 3)) (ht : (pc : Int) + off = (tgt : Int)) (kt : ¬ x = 0 → jjV l own cc nL rt I ws R D cA E k n w tgt lv st) (kf : x = 0 → jjV l own cc nL rt I ws R D cA E k n w (pc + 3) lv st) : jjV l own cc nL rt I ws R D cA E k n w pc lv (.int x :: st) := by
  intro p e s m args below meth c A H locs ls hF hI hA hK hP hD hS hl
  exact lv_if_ne hF.1 hF.2.1 hd ht (fun h => kt h p e s m args below meth c A H locs ls hF hI hA hK hP hD hS hl) (fun h => kf h p e s m args below meth c A H locs ls hF hI hA hK hP hD hS hl)
theorem jj_icmp_ne {x y : Int32} {off : Int} (tgt : Nat) (hd : decode cc pc = .ok (.if_icmp .ne off, 3)) (ht : (pc : Int) + off = (tgt : Int)) (kt : ¬ x = y → jjV l own cc nL rt I ws R D cA E k n w tgt lv st) (kf : x = y → jjV l own cc nL rt I ws R D cA E k n w (pc + 3) lv st) : jjV l own cc nL rt I ws R D cA E k n w pc lv (.int y :: .int x :: st) := by
  intro p e s m args below meth c A H locs ls hF hI hA hK hP hD hS hl
  exact lv_icmp_ne hF.1 hF.2.1 hd ht (fun h => kt h p e s m args below meth c A H locs ls hF hI hA hK hP hD hS hl) (fun h => kf h p e s m args below meth c A H locs ls hF hI hA hK hP hD hS hl)
theorem jj_if_lt {x : Int32} {off : Int} (tgt : Nat) (hd : decode cc pc = .ok (.ifCond .lt off, 3)) (ht : (pc : Int) + off = (tgt : Int)) (kt : x < 0 → jjV l own cc nL rt I ws R D cA E k n w tgt lv st) (kf : ¬ x < 0 → jjV l own cc nL rt I ws R D cA E k n w (pc + 3) lv st) : jjV l own cc nL rt I ws R D cA E k n w pc lv (.int x :: st) := by
  intro p e s m args below meth c A H locs ls hF hI hA hK hP hD hS hl
  exact lv_if_lt hF.1 hF.2.1 hd ht (fun h => kt h p e s m args below meth c A H locs ls hF hI hA hK hP hD hS hl) (fun h => kf h p e s m args below meth c A H locs ls hF hI hA hK hP hD hS hl)
theorem jj_icmp_lt {x y : Int32} {off : Int} (tgt : Nat) (hd : decode cc pc = .ok (.if_icmp .lt off, 3)) (ht : (pc : Int) + off = (tgt : Int)) (kt : x < y → jjV l own cc nL rt I ws R D cA E k n w tgt lv st) (kf : ¬ x < y → jjV l own cc nL rt I ws R D cA E k n w (pc + 3) lv st) : jjV l own cc nL rt I ws R D cA E k n w pc lv (.int y :: .int x :: st) := by
  intro p e s m args below meth c A H locs ls hF hI hA hK hP hD hS hl
  exact lv_icmp_lt hF.1 hF.2.1 hd ht (fun h => kt h p e s m args below meth c A H locs ls hF hI hA hK hP hD hS hl) (fun h => kf h p e s m args below meth c A H locs ls hF hI hA hK hP hD hS hl)
theorem jj_if_ge {x : Int32} {off : Int} (tgt : Nat) (hd : decode cc pc = .ok (.ifCond .ge off, 3)) (ht : (pc : Int) + off = (tgt : Int)) (kt : 0 ≤ x → jjV l own cc nL rt I ws R D cA E k n w tgt lv st) (kf : ¬ 0 ≤ x → jjV l own cc nL rt I ws R D cA E k n w (pc + 3) lv st) : jjV l own cc nL rt I ws R D cA E k n w pc lv (.int x :: st) := by
  intro p e s m args below meth c A H locs ls hF hI hA hK hP hD hS hl
  exact lv_if_ge hF.1 hF.2.1 hd ht (fun h => kt h p e s m args below meth c A H locs ls hF hI hA hK hP hD hS hl) (fun h => kf h p e s m args below meth c A H locs ls hF hI hA hK hP hD hS hl)
theorem jj_icmp_ge {x y : Int32} {off : Int} (tgt : Nat) (hd : decode cc pc = .ok (.if_icmp .ge off, 3)) (ht : (pc : Int) + off = (tgt : Int)) (kt : y ≤ x → jjV l own cc nL rt I ws R D cA E k n w tgt lv st) (kf : ¬ y ≤ x → jjV l own cc nL rt I ws R D cA E k n w (pc + 3) lv st) : jjV l own cc nL rt I ws R D cA E k n w pc lv (.int y :: .int x :: st) := by
  intro p e s m args below meth c A H locs ls hF hI hA hK hP hD hS hl
  exact lv_icmp_ge hF.1 hF.2.1 hd ht (fun h => kt h p e s m args below meth c A H locs ls hF hI hA hK hP hD hS hl) (fun h => kf h p e s m args below meth c A H locs ls hF hI hA hK hP hD hS hl)
theorem jj_if_gt {x : Int32} {off : Int} (tgt : Nat) (hd : decode cc pc = .ok (.ifCond .gt off, 3)) (ht : (pc : Int) + off = (tgt : Int)) (kt : 0 < x → jjV l own cc nL rt I ws R D cA E k n w tgt lv st) (kf : ¬ 0 < x → jjV l own cc nL rt I ws R D cA E k n w (pc + 3) lv st) : jjV l own cc nL rt I ws R D cA E k n w pc lv (.int x :: st) := by
  intro p e s m args below meth c A H locs ls hF hI hA hK hP hD hS hl
  exact lv_if_gt hF.1 hF.2.1 hd ht (fun h => kt h p e s m args below meth c A H locs ls hF hI hA hK hP hD hS hl) (fun h => kf h p e s m args below meth c A H locs ls hF hI hA hK hP hD hS hl)
theorem jj_icmp_gt {x y : Int32} {off : Int} (tgt : Nat) (hd : decode cc pc = .ok (.if_icmp .gt off, 3)) (ht : (pc : Int) + off = (tgt : Int)) (kt : y < x → jjV l own cc nL rt I ws R D cA E k n w tgt lv st) (kf : ¬ y < x → jjV l own cc nL rt I ws R D cA E k n w (pc + 3) lv st) : jjV l own cc nL rt I ws R D cA E k n w pc lv (.int y :: .int x :: st) := by
  intro p e s m args below meth c A H locs ls hF hI hA hK hP hD hS hl
  exact lv_icmp_gt hF.1 hF.2.1 hd ht (fun h => kt h p e s m args below meth c A H locs ls hF hI hA hK hP hD hS hl) (fun h => kf h p e s m args below meth c A H locs ls hF hI hA hK hP hD hS hl)
theorem jj_if_le {x : Int32} {off : Int} (tgt : Nat) (hd : decode cc pc = .ok (.ifCond .le off, 3)) (ht : (pc : Int) + off = (tgt : Int)) (kt : x ≤ 0 → jjV l own cc nL rt I ws R D cA E k n w tgt lv st) (kf : ¬ x ≤ 0 → jjV l own cc nL rt I ws R D cA E k n w (pc + 3) lv st) : jjV l own cc nL rt I ws R D cA E k n w pc lv (.int x :: st) := by
  intro p e s m args below meth c A H locs ls hF hI hA hK hP hD hS hl
  exact lv_if_le hF.1 hF.2.1 hd ht (fun h => kt h p e s m args below meth c A H locs ls hF hI hA hK hP hD hS hl) (fun h => kf h p e s m args below meth c A H locs ls hF hI hA hK hP hD hS hl)
theorem jj_icmp_le {x y : Int32} {off : Int} (tgt : Nat) (hd : decode cc pc = .ok (.if_icmp .le off, 3)) (ht : (pc : Int) + off = (tgt : Int)) (kt : x ≤ y → jjV l own cc nL rt I ws R D cA E k n w tgt lv st) (kf : ¬ x ≤ y → jjV l own cc nL rt I ws R D cA E k n w (pc + 3) lv st) : jjV l own cc nL rt I ws R D cA E k n w pc lv (.int y :: .int x :: st) := by
  intro p e s m args below meth c A H locs ls hF hI hA hK hP hD hS hl
  exact lv_icmp_le hF.1 hF.2.1 hd ht (fun h => kt h p e s m args below meth c A H locs ls hF hI hA hK hP hD hS hl) (fun h => kf h p e s m args below meth c A H locs ls hF hI hA hK hP hD hS hl)
theorem jj_goto {off : Int} (tgt : Nat) (hd : decode cc pc = .ok (.goto off, 3)) (ht : (pc : Int) + off = (tgt : Int)) (kk : jjV l own cc nL rt I ws R D cA E k n w tgt lv st) : jjV l own cc nL rt I ws R D cA E k n w pc lv st := by
  intro p e s m args below meth c A H locs ls hF hI hA hK hP hD hS hl
  exact lv_goto hF.1 hF.2.1 hd ht (kk p e s m args below meth c A H locs ls hF hI hA hK hP hD hS hl)
theorem jj_tabOut {dflt lo hi : Int} {offs : Array Int} {len : Nat} {x : Int32} (tgt : Nat) (hd : decode cc pc = .ok (.tableswitch dflt lo hi offs, len)) (h : x.toInt < lo ∨ hi < x.toInt) (ht : (pc : Int) + dflt = (tgt : Int)) (kk : jjV l own cc nL rt I ws R D cA E k n w tgt lv st) : jjV l own cc nL rt I ws R D cA E k n w pc lv (.int x :: st) := by
  intro p e s m args below meth c A H locs ls hF hI hA hK hP hD hS hl
  exact lv_tableOut hF.1 hF.2.1 hd h ht (kk p e s m args below meth c A H locs ls hF hI hA hK hP hD hS hl)
theorem jj_tabIn {dflt lo hi : Int} {offs : Array Int} {len : Nat} {x : Int32} {off : Int} (tgt : Nat) (hd : decode cc pc = .ok (.tableswitch dflt lo hi offs, len)) (h1 : ¬ x.toInt < lo) (h2 : ¬ hi < x.toInt) (ho : offs[(x.toInt - lo).toNat]? = some off) (ht : (pc : Int) + off = (tgt : Int)) (kk : jjV l own cc nL rt I ws R D cA E k n w tgt lv st) : jjV l own cc nL rt I ws R D cA E k n w pc lv (.int x :: st) := by
  intro p e s m args below meth c A H locs ls hF hI hA hK hP hD hS hl
  exact lv_tableIn hF.1 hF.2.1 hd h1 h2 ho ht (kk p e s m args below meth c A H locs ls hF hI hA hK hP hD hS hl)
theorem jj_sub {lv' : List (Option Value)} (h : jjLe lv' lv) (kk : jjV l own cc nL rt I ws R D cA E k n w pc lv' st) : jjV l own cc nL rt I ws R D cA E k n w pc lv st := by
  intro p e s m args below meth c A H locs ls hF hI hA hK hP hD hS hl
  exact kk p e s m args below meth c A H locs ls hF hI hA hK hP hD hS (jjL_has hl h.mem)
theorem jj_widen {k' n' : Nat} (h1 : k ≤ k') (h2 : n ≤ n') (kk : jjV l own cc nL rt I ws R D cA E k' n' w pc lv st) : jjV l own cc nL rt I ws R D cA E k n w pc lv st := by
  intro p e s m args below meth c A H locs ls hF hI hA hK hP hD hS hl
  exact W.widen h1 h2 (kk p e s m args below meth c A H locs ls hF hI hA hK hP hD hS hl)
theorem jj_istore_n_0 {u : Option Value} {r : List (Option Value)} {x : Int32} {q : Fin 4} (hd : decode cc pc = .ok (.istore_n q, 1)) (hi : (q : Nat) = 0) (hn : 0 < nL) (kk : jjV l own cc nL rt I ws R D cA E k n w (pc + 1) (some (.int x) :: r) st) : jjV l own cc nL rt I ws R D cA E k n w pc (u :: r) (.int x :: st) := by
  intro p e s m args below meth c A H locs ls hF hI hA hK hP hD hS hl
  exact lv_istore_n hF.1 hF.2.1 hd hi hl hn rfl (fun ls' hl' => kk p e s m args below meth c A H locs ls' hF hI hA hK hP hD hS (jjL_has hl' (jjL_set1 (lv := (u :: r)) (i := 0) (fun q h => Or.inl rfl))))
theorem jj_istore_0 {u : Option Value} {r : List (Option Value)} {x : Int32} (hd : decode cc pc = .ok (.istore 0, 2)) (hn : 0 < nL) (kk : jjV l own cc nL rt I ws R D cA E k n w (pc + 2) (some (.int x) :: r) st) : jjV l own cc nL rt I ws R D cA E k n w pc (u :: r) (.int x :: st) := by
  intro p e s m args below meth c A H locs ls hF hI hA hK hP hD hS hl
  exact lv_istore hF.1 hF.2.1 hd hl hn rfl (fun ls' hl' => kk p e s m args below meth c A H locs ls' hF hI hA hK hP hD hS (jjL_has hl' (jjL_set1 (lv := (u :: r)) (i := 0) (fun q h => Or.inl rfl))))
theorem jj_astore_n_0 {u : Option Value} {r : List (Option Value)} {x : Nat} {q : Fin 4} (hd : decode cc pc = .ok (.astore_n q, 1)) (hi : (q : Nat) = 0) (hn : 0 < nL) (kk : jjV l own cc nL rt I ws R D cA E k n w (pc + 1) (some (.ref x) :: r) st) : jjV l own cc nL rt I ws R D cA E k n w pc (u :: r) (.ref x :: st) := by
  intro p e s m args below meth c A H locs ls hF hI hA hK hP hD hS hl
  exact lv_astore_n hF.1 hF.2.1 hd hi hl hn rfl (fun ls' hl' => kk p e s m args below meth c A H locs ls' hF hI hA hK hP hD hS (jjL_has hl' (jjL_set1 (lv := (u :: r)) (i := 0) (fun q h => Or.inl rfl))))
theorem jj_astore_0 {u : Option Value} {r : List (Option Value)} {x : Nat} (hd : decode cc pc = .ok (.astore 0, 2)) (hn : 0 < nL) (kk : jjV l own cc nL rt I ws R D cA E k n w (pc + 2) (some (.ref x) :: r) st) : jjV l own cc nL rt I ws R D cA E k n w pc (u :: r) (.ref x :: st) := by
  intro p e s m args below meth c A H locs ls hF hI hA hK hP hD hS hl
  exact lv_astore hF.1 hF.2.1 hd hl hn rfl (fun ls' hl' => kk p e s m args below meth c A H locs ls' hF hI hA hK hP hD hS (jjL_has hl' (jjL_set1 (lv := (u :: r)) (i := 0) (fun q h => Or.inl rfl))))
theorem jj_iinc_0 {r : List (Option Value)} {x z : Int32} {q : Int} (hd : decode cc pc = .ok (.iinc 0 q, 3)) (hz : Int32.ofInt q = z) (hn : 0 < nL) (kk : jjV l own cc nL rt I ws R D cA E k n w (pc + 3) (some (.int (x + z)) :: r) st) : jjV l own cc nL rt I ws R D cA E k n w pc (some (.int x) :: r) st := by
  intro p e s m args below meth c A H locs ls hF hI hA hK hP hD hS hl
  subst hz
  obtain ⟨j, hj⟩ := List.getElem?_of_mem ((jjL_mem (some (.int x) :: r) 0 (0, .int x)).mpr ⟨0, rfl, rfl⟩)
  exact lv_iinc (k := j) hF.1 hF.2.1 hd hl hj rfl hn rfl (fun ls' hl' => kk p e s m args below meth c A H locs ls' hF hI hA hK hP hD hS (jjL_has hl' (jjL_set1 (lv := (some (.int x) :: r)) (i := 0) (fun q h => Or.inl rfl))))
theorem jj_lstore_n_0 {u u2 : Option Value} {r : List (Option Value)} {x : Int64} {q : Fin 4} (hd : decode cc pc = .ok (.lstore_n q, 1)) (hi : (q : Nat) = 0) (hn : 0 + 1 < nL) (kk : jjV l own cc nL rt I ws R D cA E k n w (pc + 1) (some (.long x) :: none :: r) st) : jjV l own cc nL rt I ws R D cA E k n w pc (u :: u2 :: r) (.long x :: st) := by
  intro p e s m args below meth c A H locs ls hF hI hA hK hP hD hS hl
  exact lv_lstore_n hF.1 hF.2.1 hd hi hl hn rfl (fun ls' hl' => kk p e s m args below meth c A H locs ls' hF hI hA hK hP hD hS (jjL_has hl' (jjL_set2 (lv := (u :: u2 :: r)) (i := 0) (fun q h => Or.inl rfl))))
theorem jj_lstore_0 {u u2 : Option Value} {r : List (Option Value)} {x : Int64} (hd : decode cc pc = .ok (.lstore 0, 2)) (hn : 0 + 1 < nL) (kk : jjV l own cc nL rt I ws R D cA E k n w (pc + 2) (some (.long x) :: none :: r) st) : jjV l own cc nL rt I ws R D cA E k n w pc (u :: u2 :: r) (.long x :: st) := by
  intro p e s m args below meth c A H locs ls hF hI hA hK hP hD hS hl
  exact lv_lstore hF.1 hF.2.1 hd hl hn rfl (fun ls' hl' => kk p e s m args below meth c A H locs ls' hF hI hA hK hP hD hS (jjL_has hl' (jjL_set2 (lv := (u :: u2 :: r)) (i := 0) (fun q h => Or.inl rfl))))
theorem jj_istore_n_1 {o0 u : Option Value} {r : List (Option Value)} {x : Int32} {q : Fin 4} (hd : decode cc pc = .ok (.istore_n q, 1)) (hi : (q : Nat) = 1) (hc : jjC o0 = true) (hn : 1 < nL) (kk : jjV l own cc nL rt I ws R D cA E k n w (pc + 1) (o0 :: some (.int x) :: r) st) : jjV l own cc nL rt I ws R D cA E k n w pc (o0 :: u :: r) (.int x :: st) := by
  intro p e s m args below meth c A H locs ls hF hI hA hK hP hD hS hl
  exact lv_istore_n hF.1 hF.2.1 hd hi hl hn rfl (fun ls' hl' => kk p e s m args below meth c A H locs ls' hF hI hA hK hP hD hS (jjL_has hl' (jjL_set1 (lv := (o0 :: u :: r)) (i := 1) (fun q h => h.elim (fun z => by cases z) (fun z => Or.inr (jjC_use hc z))))))
theorem jj_istore_1 {o0 u : Option Value} {r : List (Option Value)} {x : Int32} (hd : decode cc pc = .ok (.istore 1, 2)) (hc : jjC o0 = true) (hn : 1 < nL) (kk : jjV l own cc nL rt I ws R D cA E k n w (pc + 2) (o0 :: some (.int x) :: r) st) : jjV l own cc nL rt I ws R D cA E k n w pc (o0 :: u :: r) (.int x :: st) := by
  intro p e s m args below meth c A H locs ls hF hI hA hK hP hD hS hl
  exact lv_istore hF.1 hF.2.1 hd hl hn rfl (fun ls' hl' => kk p e s m args below meth c A H locs ls' hF hI hA hK hP hD hS (jjL_has hl' (jjL_set1 (lv := (o0 :: u :: r)) (i := 1) (fun q h => h.elim (fun z => by cases z) (fun z => Or.inr (jjC_use hc z))))))
theorem jj_astore_n_1 {o0 u : Option Value} {r : List (Option Value)} {x : Nat} {q : Fin 4} (hd : decode cc pc = .ok (.astore_n q, 1)) (hi : (q : Nat) = 1) (hc : jjC o0 = true) (hn : 1 < nL) (kk : jjV l own cc nL rt I ws R D cA E k n w (pc + 1) (o0 :: some (.ref x) :: r) st) : jjV l own cc nL rt I ws R D cA E k n w pc (o0 :: u :: r) (.ref x :: st) := by
  intro p e s m args below meth c A H locs ls hF hI hA hK hP hD hS hl
  exact lv_astore_n hF.1 hF.2.1 hd hi hl hn rfl (fun ls' hl' => kk p e s m args below meth c A H locs ls' hF hI hA hK hP hD hS (jjL_has hl' (jjL_set1 (lv := (o0 :: u :: r)) (i := 1) (fun q h => h.elim (fun z => by cases z) (fun z => Or.inr (jjC_use hc z))))))
theorem jj_astore_1 {o0 u : Option Value} {r : List (Option Value)} {x : Nat} (hd : decode cc pc = .ok (.astore 1, 2)) (hc : jjC o0 = true) (hn : 1 < nL) (kk : jjV l own cc nL rt I ws R D cA E k n w (pc + 2) (o0 :: some (.ref x) :: r) st) : jjV l own cc nL rt I ws R D cA E k n w pc (o0 :: u :: r) (.ref x :: st) := by
  intro p e s m args below meth c A H locs ls hF hI hA hK hP hD hS hl
  exact lv_astore hF.1 hF.2.1 hd hl hn rfl (fun ls' hl' => kk p e s m args below meth c A H locs ls' hF hI hA hK hP hD hS (jjL_has hl' (jjL_set1 (lv := (o0 :: u :: r)) (i := 1) (fun q h => h.elim (fun z => by cases z) (fun z => Or.inr (jjC_use hc z))))))
theorem jj_iinc_1 {o0 : Option Value} {r : List (Option Value)} {x z : Int32} {q : Int} (hd : decode cc pc = .ok (.iinc 1 q, 3)) (hz : Int32.ofInt q = z) (hc : jjC o0 = true) (hn : 1 < nL) (kk : jjV l own cc nL rt I ws R D cA E k n w (pc + 3) (o0 :: some (.int (x + z)) :: r) st) : jjV l own cc nL rt I ws R D cA E k n w pc (o0 :: some (.int x) :: r) st := by
  intro p e s m args below meth c A H locs ls hF hI hA hK hP hD hS hl
  subst hz
  obtain ⟨j, hj⟩ := List.getElem?_of_mem ((jjL_mem (o0 :: some (.int x) :: r) 0 (1, .int x)).mpr ⟨1, rfl, rfl⟩)
  exact lv_iinc (k := j) hF.1 hF.2.1 hd hl hj rfl hn rfl (fun ls' hl' => kk p e s m args below meth c A H locs ls' hF hI hA hK hP hD hS (jjL_has hl' (jjL_set1 (lv := (o0 :: some (.int x) :: r)) (i := 1) (fun q h => h.elim (fun z => by cases z) (fun z => Or.inr (jjC_use hc z))))))
theorem jj_lstore_n_1 {o0 u u2 : Option Value} {r : List (Option Value)} {x : Int64} {q : Fin 4} (hd : decode cc pc = .ok (.lstore_n q, 1)) (hi : (q : Nat) = 1) (hc : jjC o0 = true) (hn : 1 + 1 < nL) (kk : jjV l own cc nL rt I ws R D cA E k n w (pc + 1) (o0 :: some (.long x) :: none :: r) st) : jjV l own cc nL rt I ws R D cA E k n w pc (o0 :: u :: u2 :: r) (.long x :: st) := by
  intro p e s m args below meth c A H locs ls hF hI hA hK hP hD hS hl
  exact lv_lstore_n hF.1 hF.2.1 hd hi hl hn rfl (fun ls' hl' => kk p e s m args below meth c A H locs ls' hF hI hA hK hP hD hS (jjL_has hl' (jjL_set2 (lv := (o0 :: u :: u2 :: r)) (i := 1) (fun q h => h.elim (fun z => by cases z) (fun z => Or.inr (jjC_use hc z))))))
theorem jj_lstore_1 {o0 u u2 : Option Value} {r : List (Option Value)} {x : Int64} (hd : decode cc pc = .ok (.lstore 1, 2)) (hc : jjC o0 = true) (hn : 1 + 1 < nL) (kk : jjV l own cc nL rt I ws R D cA E k n w (pc + 2) (o0 :: some (.long x) :: none :: r) st) : jjV l own cc nL rt I ws R D cA E k n w pc (o0 :: u :: u2 :: r) (.long x :: st) := by
  intro p e s m args below meth c A H locs ls hF hI hA hK hP hD hS hl
  exact lv_lstore hF.1 hF.2.1 hd hl hn rfl (fun ls' hl' => kk p e s m args below meth c A H locs ls' hF hI hA hK hP hD hS (jjL_has hl' (jjL_set2 (lv := (o0 :: u :: u2 :: r)) (i := 1) (fun q h => h.elim (fun z => by cases z) (fun z => Or.inr (jjC_use hc z))))))
theorem jj_istore_n_2 {o0 o1 u : Option Value} {r : List (Option Value)} {x : Int32} {q : Fin 4} (hd : decode cc pc = .ok (.istore_n q, 1)) (hi : (q : Nat) = 2) (hc : jjC o1 = true) (hn : 2 < nL) (kk : jjV l own cc nL rt I ws R D cA E k n w (pc + 1) (o0 :: o1 :: some (.int x) :: r) st) : jjV l own cc nL rt I ws R D cA E k n w pc (o0 :: o1 :: u :: r) (.int x :: st) := by
  intro p e s m args below meth c A H locs ls hF hI hA hK hP hD hS hl
  exact lv_istore_n hF.1 hF.2.1 hd hi hl hn rfl (fun ls' hl' => kk p e s m args below meth c A H locs ls' hF hI hA hK hP hD hS (jjL_has hl' (jjL_set1 (lv := (o0 :: o1 :: u :: r)) (i := 2) (fun q h => h.elim (fun z => by cases z) (fun z => Or.inr (jjC_use hc z))))))
theorem jj_istore_2 {o0 o1 u : Option Value} {r : List (Option Value)} {x : Int32} (hd : decode cc pc = .ok (.istore 2, 2)) (hc : jjC o1 = true) (hn : 2 < nL) (kk : jjV l own cc nL rt I ws R D cA E k n w (pc + 2) (o0 :: o1 :: some (.int x) :: r) st) : jjV l own cc nL rt I ws R D cA E k n w pc (o0 :: o1 :: u :: r) (.int x :: st) := by
  intro p e s m args below meth c A H locs ls hF hI hA hK hP hD hS hl
  exact lv_istore hF.1 hF.2.1 hd hl hn rfl (fun ls' hl' => kk p e s m args below meth c A H locs ls' hF hI hA hK hP hD hS (jjL_has hl' (jjL_set1 (lv := (o0 :: o1 :: u :: r)) (i := 2) (fun q h => h.elim (fun z => by cases z) (fun z => Or.inr (jjC_use hc z))))))
theorem jj_astore_n_2 {o0 o1 u : Option Value} {r : List (Option Value)} {x : Nat} {q : Fin 4} (hd : decode cc pc = .ok (.astore_n q, 1)) (hi : (q : Nat) = 2) (hc : jjC o1 = true) (hn : 2 < nL) (kk : jjV l own cc nL rt I ws R D cA E k n w (pc + 1) (o0 :: o1 :: some (.ref x) :: r) st) : jjV l own cc nL rt I ws R D cA E k n w pc (o0 :: o1 :: u :: r) (.ref x :: st) := by
  intro p e s m args below meth c A H locs ls hF hI hA hK hP hD hS hl
  exact lv_astore_n hF.1 hF.2.1 hd hi hl hn rfl (fun ls' hl' => kk p e s m args below meth c A H locs ls' hF hI hA hK hP hD hS (jjL_has hl' (jjL_set1 (lv := (o0 :: o1 :: u :: r)) (i := 2) (fun q h => h.elim (fun z => by cases z) (fun z => Or.inr (jjC_use hc z))))))
theorem jj_astore_2 {o0 o1 u : Option Value} {r : List (Option Value)} {x : Nat} (hd : decode cc pc = .ok (.astore 2, 2)) (hc : jjC o1 = true) (hn : 2 < nL) (kk : jjV l own cc nL rt I ws R D cA E k n w (pc + 2) (o0 :: o1 :: some (.ref x) :: r) st) : jjV l own cc nL rt I ws R D cA E k n w pc (o0 :: o1 :: u :: r) (.ref x :: st) := by
  intro p e s m args below meth c A H locs ls hF hI hA hK hP hD hS hl
  exact lv_astore hF.1 hF.2.1 hd hl hn rfl (fun ls' hl' => kk p e s m args below meth c A H locs ls' hF hI hA hK hP hD hS (jjL_has hl' (jjL_set1 (lv := (o0 :: o1 :: u :: r)) (i := 2) (fun q h => h.elim (fun z => by cases z) (fun z => Or.inr (jjC_use hc z))))))
theorem jj_iinc_2 {o0 o1 : Option Value} {r : List (Option Value)} {x z : Int32} {q : Int} (hd : decode cc pc = .ok (.iinc 2 q, 3)) (hz : Int32.ofInt q = z) (hc : jjC o1 = true) (hn : 2 < nL) (kk : jjV l own cc nL rt I ws R D cA E k n w (pc + 3) (o0 :: o1 :: some (.int (x + z)) :: r) st) : jjV l own cc nL rt I ws R D cA E k n w pc (o0 :: o1 :: some (.int x) :: r) st := by
  intro p e s m args below meth c A H locs ls hF hI hA hK hP hD hS hl
  subst hz
  obtain ⟨j, hj⟩ := List.getElem?_of_mem ((jjL_mem (o0 :: o1 :: some (.int x) :: r) 0 (2, .int x)).mpr ⟨2, rfl, rfl⟩)
  exact lv_iinc (k := j) hF.1 hF.2.1 hd hl hj rfl hn rfl (fun ls' hl' => kk p e s m args below meth c A H locs ls' hF hI hA hK hP hD hS (jjL_has hl' (jjL_set1 (lv := (o0 :: o1 :: some (.int x) :: r)) (i := 2) (fun q h => h.elim (fun z => by cases z) (fun z => Or.inr (jjC_use hc z))))))
theorem jj_lstore_n_2 {o0 o1 u u2 : Option Value} {r : List (Option Value)} {x : Int64} {q : Fin 4} (hd : decode cc pc = .ok (.lstore_n q, 1)) (hi : (q : Nat) = 2) (hc : jjC o1 = true) (hn : 2 + 1 < nL) (kk : jjV l own cc nL rt I ws R D cA E k n w (pc + 1) (o0 :: o1 :: some (.long x) :: none :: r) st) : jjV l own cc nL rt I ws R D cA E k n w pc (o0 :: o1 :: u :: u2 :: r) (.long x :: st) := by
  intro p e s m args below meth c A H locs ls hF hI hA hK hP hD hS hl
  exact lv_lstore_n hF.1 hF.2.1 hd hi hl hn rfl (fun ls' hl' => kk p e s m args below meth c A H locs ls' hF hI hA hK hP hD hS (jjL_has hl' (jjL_set2 (lv := (o0 :: o1 :: u :: u2 :: r)) (i := 2) (fun q h => h.elim (fun z => by cases z) (fun z => Or.inr (jjC_use hc z))))))
theorem jj_lstore_2 {o0 o1 u u2 : Option Value} {r : List (Option Value)} {x : Int64} (hd : decode cc pc = .ok (.lstore 2, 2)) (hc : jjC o1 = true) (hn : 2 + 1 < nL) (kk : jjV l own cc nL rt I ws R D cA E k n w (pc + 2) (o0 :: o1 :: some (.long x) :: none :: r) st) : jjV l own cc nL rt I ws R D cA E k n w pc (o0 :: o1 :: u :: u2 :: r) (.long x :: st) := by
  intro p e s m args below meth c A H locs ls hF hI hA hK hP hD hS hl
  exact lv_lstore hF.1 hF.2.1 hd hl hn rfl (fun ls' hl' => kk p e s m args below meth c A H locs ls' hF hI hA hK hP hD hS (jjL_has hl' (jjL_set2 (lv := (o0 :: o1 :: u :: u2 :: r)) (i := 2) (fun q h => h.elim (fun z => by cases z) (fun z => Or.inr (jjC_use hc z))))))
theorem jj_istore_n_3 {o0 o1 o2 u : Option Value} {r : List (Option Value)} {x : Int32} {q : Fin 4} (hd : decode cc pc = .ok (.istore_n q, 1)) (hi : (q : Nat) = 3) (hc : jjC o2 = true) (hn : 3 < nL) (kk : jjV l own cc nL rt I ws R D cA E k n w (pc + 1) (o0 :: o1 :: o2 :: some (.int x) :: r) st) : jjV l own cc nL rt I ws R D cA E k n w pc (o0 :: o1 :: o2 :: u :: r) (.int x :: st) := by
  intro p e s m args below meth c A H locs ls hF hI hA hK hP hD hS hl
  exact lv_istore_n hF.1 hF.2.1 hd hi hl hn rfl (fun ls' hl' => kk p e s m args below meth c A H locs ls' hF hI hA hK hP hD hS (jjL_has hl' (jjL_set1 (lv := (o0 :: o1 :: o2 :: u :: r)) (i := 3) (fun q h => h.elim (fun z => by cases z) (fun z => Or.inr (jjC_use hc z))))))
theorem jj_istore_3 {o0 o1 o2 u : Option Value} {r : List (Option Value)} {x : Int32} (hd : decode cc pc = .ok (.istore 3, 2)) (hc : jjC o2 = true) (hn : 3 < nL) (kk : jjV l own cc nL rt I ws R D cA E k n w (pc + 2) (o0 :: o1 :: o2 :: some (.int x) :: r) st) : jjV l own cc nL rt I ws R D cA E k n w pc (o0 :: o1 :: o2 :: u :: r) (.int x :: st) := by
  intro p e s m args below meth c A H locs ls hF hI hA hK hP hD hS hl
  exact lv_istore hF.1 hF.2.1 hd hl hn rfl (fun ls' hl' => kk p e s m args below meth c A H locs ls' hF hI hA hK hP hD hS (jjL_has hl' (jjL_set1 (lv := (o0 :: o1 :: o2 :: u :: r)) (i := 3) (fun q h => h.elim (fun z => by cases z) (fun z => Or.inr (jjC_use hc z))))))
theorem jj_astore_n_3 {o0 o1 o2 u : Option Value} {r : List (Option Value)} {x : Nat} {q : Fin 4} (hd : decode cc pc = .ok (.astore_n q, 1)) (hi : (q : Nat) = 3) (hc : jjC o2 = true) (hn : 3 < nL) (kk : jjV l own cc nL rt I ws R D cA E k n w (pc + 1) (o0 :: o1 :: o2 :: some (.ref x) :: r) st) : jjV l own cc nL rt I ws R D cA E k n w pc (o0 :: o1 :: o2 :: u :: r) (.ref x :: st) := by
  intro p e s m args below meth c A H locs ls hF hI hA hK hP hD hS hl
  exact lv_astore_n hF.1 hF.2.1 hd hi hl hn rfl (fun ls' hl' => kk p e s m args below meth c A H locs ls' hF hI hA hK hP hD hS (jjL_has hl' (jjL_set1 (lv := (o0 :: o1 :: o2 :: u :: r)) (i := 3) (fun q h => h.elim (fun z => by cases z) (fun z => Or.inr (jjC_use hc z))))))
theorem jj_astore_3 {o0 o1 o2 u : Option Value} {r : List (Option Value)} {x : Nat} (hd : decode cc pc = .ok (.astore 3, 2)) (hc : jjC o2 = true) (hn : 3 < nL) (kk : jjV l own cc nL rt I ws R D cA E k n w (pc + 2) (o0 :: o1 :: o2 :: some (.ref x) :: r) st) : jjV l own cc nL rt I ws R D cA E k n w pc (o0 :: o1 :: o2 :: u :: r) (.ref x :: st) := by
  intro p e s m args below meth c A H locs ls hF hI hA hK hP hD hS hl
  exact lv_astore hF.1 hF.2.1 hd hl hn rfl (fun ls' hl' => kk p e s m args below meth c A H locs ls' hF hI hA hK hP hD hS (jjL_has hl' (jjL_set1 (lv := (o0 :: o1 :: o2 :: u :: r)) (i := 3) (fun q h => h.elim (fun z => by cases z) (fun z => Or.inr (jjC_use hc z))))))
theorem jj_iinc_3 {o0 o1 o2 : Option Value} {r : List (Option Value)} {x z : Int32} {q : Int} (hd : decode cc pc = .ok (.iinc 3 q, 3)) (hz : Int32.ofInt q = z) (hc : jjC o2 = true) (hn : 3 < nL) (kk : jjV l own cc nL rt I ws R D cA E k n w (pc + 3) (o0 :: o1 :: o2 :: some (.int (x + z)) :: r) st) : jjV l own cc nL rt I ws R D cA E k n w pc (o0 :: o1 :: o2 :: some (.int x) :: r) st := by
  intro p e s m args below meth c A H locs ls hF hI hA hK hP hD hS hl
  subst hz
  obtain ⟨j, hj⟩ := List.getElem?_of_mem ((jjL_mem (o0 :: o1 :: o2 :: some (.int x) :: r) 0 (3, .int x)).mpr ⟨3, rfl, rfl⟩)
  exact lv_iinc (k := j) hF.1 hF.2.1 hd hl hj rfl hn rfl (fun ls' hl' => kk p e s m args below meth c A H locs ls' hF hI hA hK hP hD hS (jjL_has hl' (jjL_set1 (lv := (o0 :: o1 :: o2 :: some (.int x) :: r)) (i := 3) (fun q h => h.elim (fun z => by cases z) (fun z => Or.inr (jjC_use hc z))))))
theorem jj_lstore_n_3 {o0 o1 o2 u u2 : Option Value} {r : List (Option Value)} {x : Int64} {q : Fin 4} (hd : decode cc pc = .ok (.lstore_n q, 1)) (hi : (q : Nat) = 3) (hc : jjC o2 = true) (hn : 3 + 1 < nL) (kk : jjV l own cc nL rt I ws R D cA E k n w (pc + 1) (o0 :: o1 :: o2 :: some (.long x) :: none :: r) st) : jjV l own cc nL rt I ws R D cA E k n w pc (o0 :: o1 :: o2 :: u :: u2 :: r) (.long x :: st) := by
  intro p e s m args below meth c A H locs ls hF hI hA hK hP hD hS hl
  exact lv_lstore_n hF.1 hF.2.1 hd hi hl hn rfl (fun ls' hl' => kk p e s m args below meth c A H locs ls' hF hI hA hK hP hD hS (jjL_has hl' (jjL_set2 (lv := (o0 :: o1 :: o2 :: u :: u2 :: r)) (i := 3) (fun q h => h.elim (fun z => by cases z) (fun z => Or.inr (jjC_use hc z))))))
theorem jj_lstore_3 {o0 o1 o2 u u2 : Option Value} {r : List (Option Value)} {x : Int64} (hd : decode cc pc = .ok (.lstore 3, 2)) (hc : jjC o2 = true) (hn : 3 + 1 < nL) (kk : jjV l own cc nL rt I ws R D cA E k n w (pc + 2) (o0 :: o1 :: o2 :: some (.long x) :: none :: r) st) : jjV l own cc nL rt I ws R D cA E k n w pc (o0 :: o1 :: o2 :: u :: u2 :: r) (.long x :: st) := by
  intro p e s m args below meth c A H locs ls hF hI hA hK hP hD hS hl
  exact lv_lstore hF.1 hF.2.1 hd hl hn rfl (fun ls' hl' => kk p e s m args below meth c A H locs ls' hF hI hA hK hP hD hS (jjL_has hl' (jjL_set2 (lv := (o0 :: o1 :: o2 :: u :: u2 :: r)) (i := 3) (fun q h => h.elim (fun z => by cases z) (fun z => Or.inr (jjC_use hc z))))))
theorem jj_istore_4 {o0 o1 o2 o3 u : Option Value} {r : List (Option Value)} {x : Int32} (hd : decode cc pc = .ok (.istore 4, 2)) (hc : jjC o3 = true) (hn : 4 < nL) (kk : jjV l own cc nL rt I ws R D cA E k n w (pc + 2) (o0 :: o1 :: o2 :: o3 :: some (.int x) :: r) st) : jjV l own cc nL rt I ws R D cA E k n w pc (o0 :: o1 :: o2 :: o3 :: u :: r) (.int x :: st) := by
  intro p e s m args below meth c A H locs ls hF hI hA hK hP hD hS hl
  exact lv_istore hF.1 hF.2.1 hd hl hn rfl (fun ls' hl' => kk p e s m args below meth c A H locs ls' hF hI hA hK hP hD hS (jjL_has hl' (jjL_set1 (lv := (o0 :: o1 :: o2 :: o3 :: u :: r)) (i := 4) (fun q h => h.elim (fun z => by cases z) (fun z => Or.inr (jjC_use hc z))))))
theorem jj_astore_4 {o0 o1 o2 o3 u : Option Value} {r : List (Option Value)} {x : Nat} (hd : decode cc pc = .ok (.astore 4, 2)) (hc : jjC o3 = true) (hn : 4 < nL) (kk : jjV l own cc nL rt I ws R D cA E k n w (pc + 2) (o0 :: o1 :: o2 :: o3 :: some (.ref x) :: r) st) : jjV l own cc nL rt I ws R D cA E k n w pc (o0 :: o1 :: o2 :: o3 :: u :: r) (.ref x :: st) := by
  intro p e s m args below meth c A H locs ls hF hI hA hK hP hD hS hl
  exact lv_astore hF.1 hF.2.1 hd hl hn rfl (fun ls' hl' => kk p e s m args below meth c A H locs ls' hF hI hA hK hP hD hS (jjL_has hl' (jjL_set1 (lv := (o0 :: o1 :: o2 :: o3 :: u :: r)) (i := 4) (fun q h => h.elim (fun z => by cases z) (fun z => Or.inr (jjC_use hc z))))))
theorem jj_iinc_4 {o0 o1 o2 o3 : Option Value} {r : List (Option Value)} {x z : Int32} {q : Int} (hd : decode cc pc = .ok (.iinc 4 q, 3)) (hz : Int32.ofInt q = z) (hc : jjC o3 = true) (hn : 4 < nL) (kk : jjV l own cc nL rt I ws R D cA E k n w (pc + 3) (o0 :: o1 :: o2 :: o3 :: some (.int (x + z)) :: r) st) : jjV l own cc nL rt I ws R D cA E k n w pc (o0 :: o1 :: o2 :: o3 :: some (.int x) :: r) st := by
  intro p e s m args below meth c A H locs ls hF hI hA hK hP hD hS hl
  subst hz
  obtain ⟨j, hj⟩ := List.getElem?_of_mem ((jjL_mem (o0 :: o1 :: o2 :: o3 :: some (.int x) :: r) 0 (4, .int x)).mpr ⟨4, rfl, rfl⟩)
  exact lv_iinc (k := j) hF.1 hF.2.1 hd hl hj rfl hn rfl (fun ls' hl' => kk p e s m args below meth c A H locs ls' hF hI hA hK hP hD hS (jjL_has hl' (jjL_set1 (lv := (o0 :: o1 :: o2 :: o3 :: some (.int x) :: r)) (i := 4) (fun q h => h.elim (fun z => by cases z) (fun z => Or.inr (jjC_use hc z))))))
theorem jj_lstore_4 {o0 o1 o2 o3 u u2 : Option Value} {r : List (Option Value)} {x : Int64} (hd : decode cc pc = .ok (.lstore 4, 2)) (hc : jjC o3 = true) (hn : 4 + 1 < nL) (kk : jjV l own cc nL rt I ws R D cA E k n w (pc + 2) (o0 :: o1 :: o2 :: o3 :: some (.long x) :: none :: r) st) : jjV l own cc nL rt I ws R D cA E k n w pc (o0 :: o1 :: o2 :: o3 :: u :: u2 :: r) (.long x :: st) := by
  intro p e s m args below meth c A H locs ls hF hI hA hK hP hD hS hl
  exact lv_lstore hF.1 hF.2.1 hd hl hn rfl (fun ls' hl' => kk p e s m args below meth c A H locs ls' hF hI hA hK hP hD hS (jjL_has hl' (jjL_set2 (lv := (o0 :: o1 :: o2 :: o3 :: u :: u2 :: r)) (i := 4) (fun q h => h.elim (fun z => by cases z) (fun z => Or.inr (jjC_use hc z))))))
theorem jj_istore_5 {o0 o1 o2 o3 o4 u : Option Value} {r : List (Option Value)} {x : Int32} (hd : decode cc pc = .ok (.istore 5, 2)) (hc : jjC o4 = true) (hn : 5 < nL) (kk : jjV l own cc nL rt I ws R D cA E k n w (pc + 2) (o0 :: o1 :: o2 :: o3 :: o4 :: some (.int x) :: r) st) : jjV l own cc nL rt I ws R D cA E k n w pc (o0 :: o1 :: o2 :: o3 :: o4 :: u :: r) (.int x :: st) := by
  intro p e s m args below meth c A H locs ls hF hI hA hK hP hD hS hl
  exact lv_istore hF.1 hF.2.1 hd hl hn rfl (fun ls' hl' => kk p e s m args below meth c A H locs ls' hF hI hA hK hP hD hS (jjL_has hl' (jjL_set1 (lv := (o0 :: o1 :: o2 :: o3 :: o4 :: u :: r)) (i := 5) (fun q h => h.elim (fun z => by cases z) (fun z => Or.inr (jjC_use hc z))))))
theorem jj_astore_5 {o0 o1 o2 o3 o4 u : Option Value} {r : List (Option Value)} {x : Nat} (hd : decode cc pc = .ok (.astore 5, 2)) (hc : jjC o4 = true) (hn : 5 < nL) (kk : jjV l own cc nL rt I ws R D cA E k n w (pc + 2) (o0 :: o1 :: o2 :: o3 :: o4 :: some (.ref x) :: r) st) : jjV l own cc nL rt I ws R D cA E k n w pc (o0 :: o1 :: o2 :: o3 :: o4 :: u :: r) (.ref x :: st) := by
  intro p e s m args below meth c A H locs ls hF hI hA hK hP hD hS hl
  exact lv_astore hF.1 hF.2.1 hd hl hn rfl (fun ls' hl' => kk p e s m args below meth c A H locs ls' hF hI hA hK hP hD hS (jjL_has hl' (jjL_set1 (lv := (o0 :: o1 :: o2 :: o3 :: o4 :: u :: r)) (i := 5) (fun q h => h.elim (fun z => by cases z) (fun z => Or.inr (jjC_use hc z))))))
theorem jj_iinc_5 {o0 o1 o2 o3 o4 : Option Value} {r : List (Option Value)} {x z : Int32} {q : Int} (hd : decode cc pc = .ok (.iinc 5 q, 3)) (hz : Int32.ofInt q = z) (hc : jjC o4 = true) (hn : 5 < nL) (kk : jjV l own cc nL rt I ws R D cA E k n w (pc + 3) (o0 :: o1 :: o2 :: o3 :: o4 :: some (.int (x + z)) :: r) st) : jjV l own cc nL rt I ws R D cA E k n w pc (o0 :: o1 :: o2 :: o3 :: o4 :: some (.int x) :: r) st := by
  intro p e s m args below meth c A H locs ls hF hI hA hK hP hD hS hl
  subst hz
  obtain ⟨j, hj⟩ := List.getElem?_of_mem ((jjL_mem (o0 :: o1 :: o2 :: o3 :: o4 :: some (.int x) :: r) 0 (5, .int x)).mpr ⟨5, rfl, rfl⟩)
  exact lv_iinc (k := j) hF.1 hF.2.1 hd hl hj rfl hn rfl (fun ls' hl' => kk p e s m args below meth c A H locs ls' hF hI hA hK hP hD hS (jjL_has hl' (jjL_set1 (lv := (o0 :: o1 :: o2 :: o3 :: o4 :: some (.int x) :: r)) (i := 5) (fun q h => h.elim (fun z => by cases z) (fun z => Or.inr (jjC_use hc z))))))
theorem jj_lstore_5 {o0 o1 o2 o3 o4 u u2 : Option Value} {r : List (Option Value)} {x : Int64} (hd : decode cc pc = .ok (.lstore 5, 2)) (hc : jjC o4 = true) (hn : 5 + 1 < nL) (kk : jjV l own cc nL rt I ws R D cA E k n w (pc + 2) (o0 :: o1 :: o2 :: o3 :: o4 :: some (.long x) :: none :: r) st) : jjV l own cc nL rt I ws R D cA E k n w pc (o0 :: o1 :: o2 :: o3 :: o4 :: u :: u2 :: r) (.long x :: st) := by
  intro p e s m args below meth c A H locs ls hF hI hA hK hP hD hS hl
  exact lv_lstore hF.1 hF.2.1 hd hl hn rfl (fun ls' hl' => kk p e s m args below meth c A H locs ls' hF hI hA hK hP hD hS (jjL_has hl' (jjL_set2 (lv := (o0 :: o1 :: o2 :: o3 :: o4 :: u :: u2 :: r)) (i := 5) (fun q h => h.elim (fun z => by cases z) (fun z => Or.inr (jjC_use hc z))))))
theorem jj_istore_6 {o0 o1 o2 o3 o4 o5 u : Option Value} {r : List (Option Value)} {x : Int32} (hd : decode cc pc = .ok (.istore 6, 2)) (hc : jjC o5 = true) (hn : 6 < nL) (kk : jjV l own cc nL rt I ws R D cA E k n w (pc + 2) (o0 :: o1 :: o2 :: o3 :: o4 :: o5 :: some (.int x) :: r) st) : jjV l own cc nL rt I ws R D cA E k n w pc (o0 :: o1 :: o2 :: o3 :: o4 :: o5 :: u :: r) (.int x :: st) := by
  intro p e s m args below meth c A H locs ls hF hI hA hK hP hD hS hl
  exact lv_istore hF.1 hF.2.1 hd hl hn rfl (fun ls' hl' => kk p e s m args below meth c A H locs ls' hF hI hA hK hP hD hS (jjL_has hl' (jjL_set1 (lv := (o0 :: o1 :: o2 :: o3 :: o4 :: o5 :: u :: r)) (i := 6) (fun q h => h.elim (fun z => by cases z) (fun z => Or.inr (jjC_use hc z))))))
theorem jj_astore_6 {o0 o1 o2 o3 o4 o5 u : Option Value} {r : List (Option Value)} {x : Nat} (hd : decode cc pc = .ok (.astore 6, 2)) (hc : jjC o5 = true) (hn : 6 < nL) (kk : jjV l own cc nL rt I ws R D cA E k n w (pc + 2) (o0 :: o1 :: o2 :: o3 :: o4 :: o5 :: some (.ref x) :: r) st) : jjV l own cc nL rt I ws R D cA E k n w pc (o0 :: o1 :: o2 :: o3 :: o4 :: o5 :: u :: r) (.ref x :: st) := by
  intro p e s m args below meth c A H locs ls hF hI hA hK hP hD hS hl
  exact lv_astore hF.1 hF.2.1 hd hl hn rfl (fun ls' hl' => kk p e s m args below meth c A H locs ls' hF hI hA hK hP hD hS (jjL_has hl' (jjL_set1 (lv := (o0 :: o1 :: o2 :: o3 :: o4 :: o5 :: u :: r)) (i := 6) (fun q h => h.elim (fun z => by cases z) (fun z => Or.inr (jjC_use hc z))))))
theorem jj_iinc_6 {o0 o1 o2 o3 o4 o5 : Option Value} {r : List (Option Value)} {x z : Int32} {q : Int} (hd : decode cc pc = .ok (.iinc 6 q, 3)) (hz : Int32.ofInt q = z) (hc : jjC o5 = true) (hn : 6 < nL) (kk : jjV l own cc nL rt I ws R D cA E k n w (pc + 3) (o0 :: o1 :: o2 :: o3 :: o4 :: o5 :: some (.int (x + z)) :: r) st) : jjV l own cc nL rt I ws R D cA E k n w pc (o0 :: o1 :: o2 :: o3 :: o4 :: o5 :: some (.int x) :: r) st := by
  intro p e s m args below meth c A H locs ls hF hI hA hK hP hD hS hl
  subst hz
  obtain ⟨j, hj⟩ := List.getElem?_of_mem ((jjL_mem (o0 :: o1 :: o2 :: o3 :: o4 :: o5 :: some (.int x) :: r) 0 (6, .int x)).mpr ⟨6, rfl, rfl⟩)
  exact lv_iinc (k := j) hF.1 hF.2.1 hd hl hj rfl hn rfl (fun ls' hl' => kk p e s m args below meth c A H locs ls' hF hI hA hK hP hD hS (jjL_has hl' (jjL_set1 (lv := (o0 :: o1 :: o2 :: o3 :: o4 :: o5 :: some (.int x) :: r)) (i := 6) (fun q h => h.elim (fun z => by cases z) (fun z => Or.inr (jjC_use hc z))))))
theorem jj_lstore_6 {o0 o1 o2 o3 o4 o5 u u2 : Option Value} {r : List (Option Value)} {x : Int64} (hd : decode cc pc = .ok (.lstore 6, 2)) (hc : jjC o5 = true) (hn : 6 + 1 < nL) (kk : jjV l own cc nL rt I ws R D cA E k n w (pc + 2) (o0 :: o1 :: o2 :: o3 :: o4 :: o5 :: some (.long x) :: none :: r) st) : jjV l own cc nL rt I ws R D cA E k n w pc (o0 :: o1 :: o2 :: o3 :: o4 :: o5 :: u :: u2 :: r) (.long x :: st) := by
  intro p e s m args below meth c A H locs ls hF hI hA hK hP hD hS hl
  exact lv_lstore hF.1 hF.2.1 hd hl hn rfl (fun ls' hl' => kk p e s m args below meth c A H locs ls' hF hI hA hK hP hD hS (jjL_has hl' (jjL_set2 (lv := (o0 :: o1 :: o2 :: o3 :: o4 :: o5 :: u :: u2 :: r)) (i := 6) (fun q h => h.elim (fun z => by cases z) (fun z => Or.inr (jjC_use hc z))))))
theorem jj_istore_7 {o0 o1 o2 o3 o4 o5 o6 u : Option Value} {r : List (Option Value)} {x : Int32} (hd : decode cc pc = .ok (.istore 7, 2)) (hc : jjC o6 = true) (hn : 7 < nL) (kk : jjV l own cc nL rt I ws R D cA E k n w (pc + 2) (o0 :: o1 :: o2 :: o3 :: o4 :: o5 :: o6 :: some (.int x) :: r) st) : jjV l own cc nL rt I ws R D cA E k n w pc (o0 :: o1 :: o2 :: o3 :: o4 :: o5 :: o6 :: u :: r) (.int x :: st) := by
  intro p e s m args below meth c A H locs ls hF hI hA hK hP hD hS hl
  exact lv_istore hF.1 hF.2.1 hd hl hn rfl (fun ls' hl' => kk p e s m args below meth c A H locs ls' hF hI hA hK hP hD hS (jjL_has hl' (jjL_set1 (lv := (o0 :: o1 :: o2 :: o3 :: o4 :: o5 :: o6 :: u :: r)) (i := 7) (fun q h => h.elim (fun z => by cases z) (fun z => Or.inr (jjC_use hc z))))))
theorem jj_astore_7 {o0 o1 o2 o3 o4 o5 o6 u : Option Value} {r : List (Option Value)} {x : Nat} (hd : decode cc pc = .ok (.astore 7, 2)) (hc : jjC o6 = true) (hn : 7 < nL) (kk : jjV l own cc nL rt I ws R D cA E k n w (pc + 2) (o0 :: o1 :: o2 :: o3 :: o4 :: o5 :: o6 :: some (.ref x) :: r) st) : jjV l own cc nL rt I ws R D cA E k n w pc (o0 :: o1 :: o2 :: o3 :: o4 :: o5 :: o6 :: u :: r) (.ref x :: st) := by
  intro p e s m args below meth c A H locs ls hF hI hA hK hP hD hS hl
  exact lv_astore hF.1 hF.2.1 hd hl hn rfl (fun ls' hl' => kk p e s m args below meth c A H locs ls' hF hI hA hK hP hD hS (jjL_has hl' (jjL_set1 (lv := (o0 :: o1 :: o2 :: o3 :: o4 :: o5 :: o6 :: u :: r)) (i := 7) (fun q h => h.elim (fun z => by cases z) (fun z => Or.inr (jjC_use hc z))))))
theorem jj_iinc_7 {o0 o1 o2 o3 o4 o5 o6 : Option Value} {r : List (Option Value)} {x z : Int32} {q : Int} (hd : decode cc pc = .ok (.iinc 7 q, 3)) (hz : Int32.ofInt q = z) (hc : jjC o6 = true) (hn : 7 < nL) (kk : jjV l own cc nL rt I ws R D cA E k n w (pc + 3) (o0 :: o1 :: o2 :: o3 :: o4 :: o5 :: o6 :: some (.int (x + z)) :: r) st) : jjV l own cc nL rt I ws R D cA E k n w pc (o0 :: o1 :: o2 :: o3 :: o4 :: o5 :: o6 :: some (.int x) :: r) st := by
  intro p e s m args below meth c A H locs ls hF hI hA hK hP hD hS hl
  subst hz
  obtain ⟨j, hj⟩ := List.getElem?_of_mem ((jjL_mem (o0 :: o1 :: o2 :: o3 :: o4 :: o5 :: o6 :: some (.int x) :: r) 0 (7, .int x)).mpr ⟨7, rfl, rfl⟩)
  exact lv_iinc (k := j) hF.1 hF.2.1 hd hl hj rfl hn rfl (fun ls' hl' => kk p e s m args below meth c A H locs ls' hF hI hA hK hP hD hS (jjL_has hl' (jjL_set1 (lv := (o0 :: o1 :: o2 :: o3 :: o4 :: o5 :: o6 :: some (.int x) :: r)) (i := 7) (fun q h => h.elim (fun z => by cases z) (fun z => Or.inr (jjC_use hc z))))))
theorem jj_lstore_7 {o0 o1 o2 o3 o4 o5 o6 u u2 : Option Value} {r : List (Option Value)} {x : Int64} (hd : decode cc pc = .ok (.lstore 7, 2)) (hc : jjC o6 = true) (hn : 7 + 1 < nL) (kk : jjV l own cc nL rt I ws R D cA E k n w (pc + 2) (o0 :: o1 :: o2 :: o3 :: o4 :: o5 :: o6 :: some (.long x) :: none :: r) st) : jjV l own cc nL rt I ws R D cA E k n w pc (o0 :: o1 :: o2 :: o3 :: o4 :: o5 :: o6 :: u :: u2 :: r) (.long x :: st) := by
  intro p e s m args below meth c A H locs ls hF hI hA hK hP hD hS hl
  exact lv_lstore hF.1 hF.2.1 hd hl hn rfl (fun ls' hl' => kk p e s m args below meth c A H locs ls' hF hI hA hK hP hD hS (jjL_has hl' (jjL_set2 (lv := (o0 :: o1 :: o2 :: o3 :: o4 :: o5 :: o6 :: u :: u2 :: r)) (i := 7) (fun q h => h.elim (fun z => by cases z) (fun z => Or.inr (jjC_use hc z))))))
theorem jj_istore_8 {o0 o1 o2 o3 o4 o5 o6 o7 u : Option Value} {r : List (Option Value)} {x : Int32} (hd : decode cc pc = .ok (.istore 8, 2)) (hc : jjC o7 = true) (hn : 8 < nL) (kk : jjV l own cc nL rt I ws R D cA E k n w (pc + 2) (o0 :: o1 :: o2 :: o3 :: o4 :: o5 :: o6 :: o7 :: some (.int x) :: r) st) : jjV l own cc nL rt I ws R D cA E k n w pc (o0 :: o1 :: o2 :: o3 :: o4 :: o5 :: o6 :: o7 :: u :: r) (.int x :: st) := by
  intro p e s m args below meth c A H locs ls hF hI hA hK hP hD hS hl
  exact lv_istore hF.1 hF.2.1 hd hl hn rfl (fun ls' hl' => kk p e s m args below meth c A H locs ls' hF hI hA hK hP hD hS (jjL_has hl' (jjL_set1 (lv := (o0 :: o1 :: o2 :: o3 :: o4 :: o5 :: o6 :: o7 :: u :: r)) (i := 8) (fun q h => h.elim (fun z => by cases z) (fun z => Or.inr (jjC_use hc z))))))
theorem jj_astore_8 {o0 o1 o2 o3 o4 o5 o6 o7 u : Option Value} {r : List (Option Value)} {x : Nat} (hd : decode cc pc = .ok (.astore 8, 2)) (hc : jjC o7 = true) (hn : 8 < nL) (kk : jjV l own cc nL rt I ws R D cA E k n w (pc + 2) (o0 :: o1 :: o2 :: o3 :: o4 :: o5 :: o6 :: o7 :: some (.ref x) :: r) st) : jjV l own cc nL rt I ws R D cA E k n w pc (o0 :: o1 :: o2 :: o3 :: o4 :: o5 :: o6 :: o7 :: u :: r) (.ref x :: st) := by
  intro p e s m args below meth c A H locs ls hF hI hA hK hP hD hS hl
  exact lv_astore hF.1 hF.2.1 hd hl hn rfl (fun ls' hl' => kk p e s m args below meth c A H locs ls' hF hI hA hK hP hD hS (jjL_has hl' (jjL_set1 (lv := (o0 :: o1 :: o2 :: o3 :: o4 :: o5 :: o6 :: o7 :: u :: r)) (i := 8) (fun q h => h.elim (fun z => by cases z) (fun z => Or.inr (jjC_use hc z))))))
theorem jj_iinc_8 {o0 o1 o2 o3 o4 o5 o6 o7 : Option Value} {r : List (Option Value)} {x z : Int32} {q : Int} (hd : decode cc pc = .ok (.iinc 8 q, 3)) (hz : Int32.ofInt q = z) (hc : jjC o7 = true) (hn : 8 < nL) (kk : jjV l own cc nL rt I ws R D cA E k n w (pc + 3) (o0 :: o1 :: o2 :: o3 :: o4 :: o5 :: o6 :: o7 :: some (.int (x + z)) :: r) st) : jjV l own cc nL rt I ws R D cA E k n w pc (o0 :: o1 :: o2 :: o3 :: o4 :: o5 :: o6 :: o7 :: some (.int x) :: r) st := by
  intro p e s m args below meth c A H locs ls hF hI hA hK hP hD hS hl
  subst hz
  obtain ⟨j, hj⟩ := List.getElem?_of_mem ((jjL_mem (o0 :: o1 :: o2 :: o3 :: o4 :: o5 :: o6 :: o7 :: some (.int x) :: r) 0 (8, .int x)).mpr ⟨8, rfl, rfl⟩)
  exact lv_iinc (k := j) hF.1 hF.2.1 hd hl hj rfl hn rfl (fun ls' hl' => kk p e s m args below meth c A H locs ls' hF hI hA hK hP hD hS (jjL_has hl' (jjL_set1 (lv := (o0 :: o1 :: o2 :: o3 :: o4 :: o5 :: o6 :: o7 :: some (.int x) :: r)) (i := 8) (fun q h => h.elim (fun z => by cases z) (fun z => Or.inr (jjC_use hc z))))))
/-- field kk of class number ci, by the pool's entry ix -/
def jjFd (own : String) (ws : List Cond) (ix ci kk : Nat) (C : String) (T : u_T) (N : Nat) : Prop := vwCl[ci]? = some (C, T, N) ∧ kk < N ∧ (∀ w ∈ u_ws C T N, w ∈ ws) ∧ Cond.fieldLink own ix (T kk).1 (T kk).2.1 (T kk).2.2.1 ∈ ws
theorem jj_getf {ix ci kf N a : Nat} {C : String} {T : u_T} {fs : List Value} {v : Value} (hd : decode cc pc = .ok (.getfield ix, 3)) (hf : jjFd own ws ix ci kf C T N) (q0 : Nat) (hq : w[q0]? = some (a, .inr (ci, fs))) (hv : fs[kf]? = some v) (kk : jjV l own cc nL rt I ws R D cA E k n w (pc + 3) lv (v :: st)) : jjV l own cc nL rt I ws R D cA E k n w pc lv (.ref a :: st) := by
  intro p e s m args below meth c A H locs ls hF hI hA hK hP hD hS hl
  exact va_get hF.1 hF.2.1 hF.2.2.2.2.2.1 hf.2.2.1 hF.2.2.2.2.1 hK hP q0 hq hf.1 kf hf.2.1 (hF.2.2.2.2.2.1 _ hf.2.2.2) (fun _ h => h) hv hd (kk p e s m args below meth c A H locs ls hF hI hA hK hP hD hS hl)
theorem jj_putf {ix ci kf N a : Nat} {C : String} {T : u_T} {fs : List Value} {v : Value} {w' : va_W} {ty : FieldType} (hd : decode cc pc = .ok (.putfield ix, 3)) (hf : jjFd own ws ix ci kf C T N) (q0 : Nat) (hq : w[q0]? = some (a, .inr (ci, fs))) (ty0 : Nat → FieldType) (hty : ∀ k, k < N → parseFieldDescriptor (T k).2.2.1 = some (ty0 k)) (hnm : ∀ a, a < N → ∀ b, b < N → a ≠ b → (T a).2.1 ≠ (T b).2.1) (hfin : (T kf).2.2.2 = false) (hdt : parseFieldDescriptor (T kf).2.2.1 = some ty) (hn : narrow ty v = v) (hfit : fits ty v = true) (hlen : kf < fs.length) (hw : w.set q0 (a, .inr (ci, fs.set kf v)) = w') (kk : jjV l own cc nL rt I ws R D cA E k n w' (pc + 3) lv st) : jjV l own cc nL rt I ws R D cA E k n w pc lv (v :: .ref a :: st) := by
  intro p e s m args below meth c A H locs ls hF hI hA hK hP hD hS hl
  subst hw
  exact va_put hF.1 hF.2.1 hF.2.2.2.2.2.1 hf.2.2.1 ty0 hty hnm hF.2.2.2.2.1 hK hP hD hS q0 hq hf.1 kf hf.2.1 (hF.2.2.2.2.2.1 _ hf.2.2.2) (fun _ h => h) hfin hdt hn hfit hlen hd (fun H1 locs1 hP hD hS => kk p e s m args below meth c A H1 locs1 ls hF hI hA hK hP hD hS hl)
theorem jj_putF {ix ci kf N a : Nat} {C : String} {T : u_T} {fs : List Value} {v : Value} {w' : va_W} {ty : FieldType} (hd : decode cc pc = .ok (.putfield ix, 3)) (hf : jjFd own ws ix ci kf C T N) (q0 : Nat) (hq : w[q0]? = some (a, .inr (ci, fs))) (ty0 : Nat → FieldType) (hty : ∀ k, k < N → parseFieldDescriptor (T k).2.2.1 = some (ty0 k)) (hnm : ∀ a, a < N → ∀ b, b < N → a ≠ b → (T a).2.1 ≠ (T b).2.1) (hfin : (T kf).2.2.2 = true) (hini : ∀ A s meth c, I A s meth c → meth.name = "<init>") (hdec : (T kf).1 = own) (hdt : parseFieldDescriptor (T kf).2.2.1 = some ty) (hn : narrow ty v = v) (hfit : fits ty v = true) (hlen : kf < fs.length) (hw : w.set q0 (a, .inr (ci, fs.set kf v)) = w') (kk : jjV l own cc nL rt I ws R D cA E k n w' (pc + 3) lv st) : jjV l own cc nL rt I ws R D cA E k n w pc lv (v :: .ref a :: st) := by
  intro p e s m args below meth c A H locs ls hF hI hA hK hP hD hS hl
  subst hw
  exact va_putF hF.1 hF.2.1 hF.2.2.2.2.2.1 hf.2.2.1 ty0 hty hnm hF.2.2.2.2.1 hK hP hD hS q0 hq hf.1 kf hf.2.1 (hF.2.2.2.2.2.1 _ hf.2.2.2) (fun _ h => h) hfin (hini _ _ _ _ hI) hdec hdt hn hfit hlen hd (fun H1 locs1 hP hD hS => kk p e s m args below meth c A H1 locs1 ls hF hI hA hK hP hD hS hl)
theorem jj_iald {a N : Nat} {f : Nat → Int32} {i : Int32} (hd : decode cc pc = .ok (.iaload, 1)) (q0 : Nat) (hq : w[q0]? = some (a, .inl (cA, N, .inl f))) (hi : vp_in i N) (kk : jjV l own cc nL rt I ws R D cA E k n w (pc + 1) lv (.int (f i.toNatClampNeg) :: st)) : jjV l own cc nL rt I ws R D cA E k n w pc lv (.int i :: .ref a :: st) := by
  intro p e s m args below meth c A H locs ls hF hI hA hK hP hD hS hl
  exact va_iald hF.1 hF.2.1 hK hP q0 0 hq rfl hi hd (kk p e s m args below meth c A H locs ls hF hI hA hK hP hD hS hl)
theorem jj_iast {a N : Nat} {f : Nat → Int32} {i x : Int32} {w' : va_W} (hd : decode cc pc = .ok (.iastore, 1)) (q0 : Nat) (hq : w[q0]? = some (a, .inl (cA, N, .inl f))) (hi : vp_in i N) (hw : w.set q0 (a, .inl (cA, N, .inl (upd f i.toNatClampNeg x))) = w') (kk : jjV l own cc nL rt I ws R D cA E k n w' (pc + 1) lv st) : jjV l own cc nL rt I ws R D cA E k n w pc lv (.int x :: .int i :: .ref a :: st) := by
  intro p e s m args below meth c A H locs ls hF hI hA hK hP hD hS hl
  refine va_iast hF.1 hF.2.1 hK hP hD hS q0 0 hq rfl hi hd (fun H1 locs1 hP hD hS => ?_)
  subst hw
  exact kk p e s m args below meth c A H1 locs1 ls hF hI hA hK hP hD hS hl
theorem jj_alen {a N : Nat} {f : Nat → Int32} (hd : decode cc pc = .ok (.arraylength, 1)) (q0 : Nat) (hq : w[q0]? = some (a, .inl (cA, N, .inl f))) (kk : jjV l own cc nL rt I ws R D cA E k n w (pc + 1) lv (.int (nI N) :: st)) : jjV l own cc nL rt I ws R D cA E k n w pc lv (.ref a :: st) := by
  intro p e s m args below meth c A H locs ls hF hI hA hK hP hD hS hl
  exact va_alen hF.1 hF.2.1 hK hP q0 0 hq (ty := .int) rfl rfl hd (kk p e s m args below meth c A H locs ls hF hI hA hK hP hD hS hl)
end JJ
