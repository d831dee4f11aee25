/-! The world of one LinkfactoryYard: its ten objects, its 34 rows, their arrays; the state S: numbers (S.1), rows (S.2). -/
abbrev jS : Type := (Nat → Int32) × (Nat → Nat → Int32)
def jlen : Nat → Nat := fun r => match r with
  | 0 => 16
  | 1 => 8
  | 2 => 40
  | 3 => 40
  | 4 => 40
  | 5 => 40
  | 6 => 40
  | 7 => 120
  | 8 => 120
  | 9 => 33
  | 10 => 33
  | 11 => 8
  | 12 => 16
  | 13 => 128
  | 14 => 16
  | 15 => 40
  | 16 => 128
  | 17 => 16
  | 18 => 40
  | 19 => 128
  | 20 => 16
  | 21 => 40
  | 22 => 128
  | 23 => 200
  | 24 => 200
  | 25 => 16
  | 26 => 200
  | 27 => 200
  | 28 => 16
  | 29 => 4
  | 30 => 32
  | 31 => 8
  | 32 => 8
  | _ => 8
theorem jlen_lt (r : Nat) : jlen r < 2 ^ 31 := by unfold jlen; split <;> decide
def jO (ob ro : Nat → Nat) (S : jS) : va_W := [
  (ob 0, .inr (7, [.ref (ob 1), .ref (ob 2), .ref (ob 3), .ref (ob 4), .ref (ob 5), .ref (ob 6), .ref (ro 0), .int (S.1 0)])),
  (ob 1, .inr (6, [.ref (ro 1), .int (S.1 1), .ref (ro 2), .ref (ro 3), .ref (ro 4), .ref (ro 5), .ref (ro 6), .ref (ro 7), .ref (ro 8), .int (S.1 2)])),
  (ob 2, .inr (2, [.ref (ob 7), .ref (ro 9), .ref (ro 10), .int (S.1 3), .ref (ro 11), .ref (ro 12), .ref (ro 13), .int (S.1 4), .int (S.1 5), .int (S.1 6)])),
  (ob 3, .inr (0, [.int (S.1 16 &&& 1), .ref (ob 8), .ref (ro 23), .ref (ro 24), .ref (ro 25)])),
  (ob 4, .inr (0, [.int (S.1 17 &&& 1), .ref (ob 9), .ref (ro 26), .ref (ro 27), .ref (ro 28)])),
  (ob 5, .inr (5, [.ref (ro 29), .ref (ro 30)])),
  (ob 6, .inr (3, [.ref (ro 31), .ref (ro 32), .ref (ro 33), .int (S.1 18)])),
  (ob 7, .inr (1, [.int (S.1 7), .int (S.1 8), .int (S.1 9), .ref (ro 14), .ref (ro 15), .ref (ro 16)])),
  (ob 8, .inr (1, [.int (S.1 10), .int (S.1 11), .int (S.1 12), .ref (ro 17), .ref (ro 18), .ref (ro 19)])),
  (ob 9, .inr (1, [.int (S.1 13), .int (S.1 14), .int (S.1 15), .ref (ro 20), .ref (ro 21), .ref (ro 22)]))]
def jR (ro ar : Nat → Nat) : va_W := (List.range 34).map (fun r => (ro r, .inr (4, [.ref (ar r)])))
def jA (cA : ClassId) (ar : Nat → Nat) (S : jS) : va_W := (List.range 34).map (fun r => (ar r, .inl (cA, jlen r, .inl (S.2 r))))
/-- the cells of a LinkfactoryYard in state S, at the addresses ob, ro, ar -/
def jW (cA : ClassId) (ob ro ar : Nat → Nat) (S : jS) : va_W := jO ob ro S ++ (jR ro ar ++ jA cA ar S)
def js (S : jS) (k : Nat) (v : Int32) : jS := (fun q => if q = k then v else S.1 q, S.2)
def jr (S : jS) (r : Nat) (f : Nat → Int32) : jS := (S.1, fun q => if q = r then f else S.2 q)
theorem js_1 (S : jS) (k : Nat) (v : Int32) : (js S k v).1 k = v := if_pos rfl
theorem js_n (S : jS) {k j : Nat} (v : Int32) (h : j ≠ k) : (js S k v).1 j = S.1 j := if_neg h
theorem js_2 (S : jS) (k : Nat) (v : Int32) : (js S k v).2 = S.2 := rfl
theorem jr_1 (S : jS) (r : Nat) (f : Nat → Int32) : (jr S r f).1 = S.1 := rfl
theorem jr_2 (S : jS) (r : Nat) (f : Nat → Int32) : (jr S r f).2 r = f := if_pos rfl
theorem jr_n (S : jS) {r q : Nat} (f : Nat → Int32) (h : q ≠ r) : (jr S r f).2 q = S.2 q := if_neg h
section JW
variable {cA : ClassId} {ob ro ar : Nat → Nat} {S : jS}
theorem jO_len : (jO ob ro S).length = 10 := rfl
theorem jR_len : (jR ro ar).length = 34 := by simp [jR]
theorem jA_len : (jA cA ar S).length = 34 := by simp [jA]
theorem jW_o {q : Nat} (h : q < 10) : (jW cA ob ro ar S)[q]? = (jO ob ro S)[q]? := by
  unfold jW
  rw [List.getElem?_append_left (by rw [jO_len]; exact h)]
theorem jW_r {r : Nat} (h : r < 34) : (jW cA ob ro ar S)[10 + r]? = some (ro r, .inr (4, [.ref (ar r)])) := by
  unfold jW
  rw [List.getElem?_append_right (by rw [jO_len]; omega), jO_len, List.getElem?_append_left (by rw [jR_len]; omega), Nat.add_sub_cancel_left]
  simp [jR, h]
theorem jW_a {r : Nat} (h : r < 34) : (jW cA ob ro ar S)[44 + r]? = some (ar r, .inl (cA, jlen r, .inl (S.2 r))) := by
  unfold jW
  rw [List.getElem?_append_right (by rw [jO_len]; omega), jO_len, List.getElem?_append_right (by rw [jR_len]; omega), jR_len, show 44 + r - 10 - 34 = r by omega]
  simp [jA, h]
theorem jW_so {q k : Nat} {x : Nat × va_E} {v : Int32} (h : q < 10) (hx : (jO ob ro S).set q x = jO ob ro (js S k v)) : (jW cA ob ro ar S).set q x = jW cA ob ro ar (js S k v) := by
  unfold jW
  rw [List.set_append_left _ _ (by rw [jO_len]; exact h), hx]
  rfl
theorem jW_sa {r : Nat} {f : Nat → Int32} (h : r < 34) : (jW cA ob ro ar S).set (44 + r) (ar r, .inl (cA, jlen r, .inl f)) = jW cA ob ro ar (jr S r f) := by
  have e1 : jO ob ro (jr S r f) = jO ob ro S := rfl
  have e2 : jA cA ar (jr S r f) = (jA cA ar S).set r (ar r, .inl (cA, jlen r, .inl f)) := by
    refine List.ext_getElem? (fun i => ?_)
    rw [List.getElem?_set]
    by_cases hi : r = i
    · subst hi
      rw [if_pos rfl, if_pos (by rw [jA_len]; exact h)]
      simp [jA, h, jr]
    · rw [if_neg hi]
      by_cases h34 : i < 34
      · simp [jA, h34, jr, Ne.symm hi]
      · simp [jA, h34]
  unfold jW
  rw [e1, e2, List.set_append_right _ _ (by rw [jO_len]; omega), jO_len, List.set_append_right _ _ (by rw [jR_len]; omega), jR_len, show 44 + r - 10 - 34 = r by omega]
end JW
/-! the rows as the class's Row keeps them: outside of it -1, and nothing is kept -/
abbrev jin (n : Nat) (i : Int32) : Prop := 0 ≤ i ∧ i < nI n
def rget (n : Nat) (f : Nat → Int32) (i : Int32) : Int32 := if jin n i then f i.toNatClampNeg else -1
def rset (n : Nat) (f : Nat → Int32) (i v : Int32) : Nat → Int32 := if jin n i then upd f i.toNatClampNeg v else f
def rfill (n : Nat) (v : Int32) (f : Nat → Int32) : Nat → Int32 := fun i => if i < n then v else f i
def rcopy (n : Nat) (g f : Nat → Int32) : Nat → Int32 := fun i => if i < n then g i else f i
def rcnt (f : Nat → Int32) (v : Int32) : Nat → Nat
  | 0 => 0
  | i + 1 => rcnt f v i + if f i = v then 1 else 0
def jg (S : jS) (r : Nat) (i : Int32) : Int32 := rget (jlen r) (S.2 r) i
def jset (S : jS) (r : Nat) (i v : Int32) : jS := jr S r (rset (jlen r) (S.2 r) i v)
def jadd (S : jS) (r : Nat) (i v : Int32) : jS := jset S r i (jg S r i + v)
def jfill (S : jS) (r : Nat) (v : Int32) : jS := jr S r (rfill (jlen r) v (S.2 r))
def jcopy (S : jS) (r q : Nat) : jS := jr S r (rcopy (min (jlen r) (jlen q)) (S.2 q) (S.2 r))
def jcnt (S : jS) (r : Nat) (v : Int32) : Int32 := nI (rcnt (S.2 r) v (jlen r))
