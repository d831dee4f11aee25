/-! A piece in another's place, in the spare image. -/
section Repl
theorem set_g {S : jS} {r i : Nat} {v : Int32} (hi : i < jlen r) (q : Nat) (hq : q < 2 ^ 31) : gN (jset S r (nI i) v) r q = if q = i then v else gN S r q := by
  have hl := jlen_lt r
  unfold gN
  rw [jg_jset_eq]
  by_cases e : q = i
  · subst e
    rw [if_pos ⟨⟨nI_pos' (by omega), nI_lt hi hl⟩, rfl⟩, if_pos rfl]
  · rw [if_neg (fun z => e (nI_ij hq (by omega) z.2)), if_neg e]
theorem set_r {S : jS} {r q : Nat} (i v : Int32) (h : q ≠ r) : (jset S r i v).2 q = S.2 q := jr_n _ _ h
theorem g_of {S T : jS} {r : Nat} (h : T.2 r = S.2 r) (i : Nat) : gN T r i = gN S r i := by unfold gN jg; rw [h]
/-- what laying p at x, and taking s away from a, leaves -/
theorem rp2_sp {S : jS} {p y z x s a w : Nat} (hp : p < 40) (hy : y < 16) (e3 : gN S 3 p = nI y) (e4 : gN S 4 p = nI z) (hx : x + z ≤ 200) (hs : s < 40) (es : gN S 20 y = nI s) (ea : gN S 21 s = nI a) (ew : gN S 4 s = nI w) (ha : a + w ≤ 200) :
    (rpS2 S (nI p) (nI x)).1 = S.1 ∧ (∀ r, r ≠ 20 → r ≠ 21 → r ≠ 26 → r ≠ 27 → (rpS2 S (nI p) (nI x)).2 r = S.2 r) ∧
    (∀ q, q < 200 → gN (rpS2 S (nI p) (nI x)) 26 q = if a ≤ q ∧ q < a + w then 0 else if x ≤ q ∧ q < x + z then 1 else gN S 26 q) ∧
    (∀ q, q < 200 → gN (rpS2 S (nI p) (nI x)) 27 q = if a ≤ q ∧ q < a + w then -1 else if x ≤ q ∧ q < x + z then nI p else gN S 27 q) ∧
    (∀ q, q < 40 → gN (rpS2 S (nI p) (nI x)) 21 q = if q = s then -1 else if q = p then nI x else gN S 21 q) ∧
    (∀ q, q < 16 → gN (rpS2 S (nI p) (nI x)) 20 q = if q = y then nI p else gN S 20 q) := by
  have E3 : jg S 3 (nI p) = nI y := e3
  have E4 : jg S 4 (nI p) = nI z := e4
  have Es : mStand S 2 (nI y) = nI s := es
  have Ea : mPlace S 2 (nI s) = nI a := ea
  obtain ⟨m1, m2, m3, m4⟩ := mark_sp (S := S) (a := 26) (b := 27) (x := x) (z := z) (v := 1) (c := nI p) (by decide) rfl rfl hx
  have h1 : rpS1 S (nI p) (nI x) = jset (jset (jMark S 26 27 (nI x) (nI z) 1 (nI p)) 21 (nI p) (nI x)) 20 (nI y) (nI p) := by
    unfold rpS1; rw [E3, E4]
  have r1 : ∀ r, r ≠ 20 → r ≠ 21 → r ≠ 26 → r ≠ 27 → (rpS1 S (nI p) (nI x)).2 r = S.2 r := fun r a0 a1 a2 a3 => by
    rw [h1, set_r _ _ a0, set_r _ _ a1]; exact m2 r a2 a3
  have Ew : jg (rpS1 S (nI p) (nI x)) 4 (nI s) = nI w := by
    have := g_of (r1 4 (by decide) (by decide) (by decide) (by decide)) s
    exact this.trans ew
  have h2 : rpS2 S (nI p) (nI x) = jset (jMark (rpS1 S (nI p) (nI x)) 26 27 (nI a) (nI w) 0 (-1)) 21 (nI s) (-1) := by
    unfold rpS2; rw [E3, Es, Ea, Ew]
  obtain ⟨n1, n2, n3, n4⟩ := mark_sp (S := rpS1 S (nI p) (nI x)) (a := 26) (b := 27) (x := a) (z := w) (v := 0) (c := -1) (by decide) rfl rfl ha
  refine ⟨?_, fun r a0 a1 a2 a3 => ?_, fun q hq => ?_, fun q hq => ?_, fun q hq => ?_, fun q hq => ?_⟩
  · rw [h2]
    show (jMark (rpS1 S (nI p) (nI x)) 26 27 (nI a) (nI w) 0 (-1)).1 = S.1
    rw [n1, h1]; exact m1
  · rw [h2, set_r _ _ a1, n2 r a2 a3]; exact r1 r a0 a1 a2 a3
  · rw [h2, g_of (set_r _ _ (by decide)) q, n3 q hq, h1, g_of (set_r _ _ (by decide)) q, g_of (set_r _ _ (by decide)) q, m3 q hq]
  · rw [h2, g_of (set_r _ _ (by decide)) q, n4 q hq, h1, g_of (set_r _ _ (by decide)) q, g_of (set_r _ _ (by decide)) q, m4 q hq]
  · rw [h2, set_g (r := 21) hs q (by omega), g_of (n2 21 (by decide) (by decide)) q, h1, g_of (set_r _ _ (by decide)) q, set_g (r := 21) hp q (by omega), g_of (m2 21 (by decide) (by decide)) q]
  · rw [h2, g_of (set_r _ _ (by decide)) q, g_of (n2 20 (by decide) (by decide)) q, h1, set_g (r := 20) hy q (by omega), g_of (set_r _ _ (by decide)) q, g_of (m2 20 (by decide) (by decide)) q]
end Repl
