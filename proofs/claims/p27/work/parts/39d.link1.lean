/-! A link that fails; a run that comes back. -/
section Link1
variable {S : jS}
theorem mark_n (S : jS) (a b : Nat) (x z v c : Int32) : (jMark S a b x z v c).1 = S.1 := funext fun k => jfo_1 (f := mk1 a b x v c) (fun _ _ => rfl) S _
theorem bg1_n (i : Nat) (T : jS) : (bg1 i T).1 = T.1 := by
  unfold bg1; split
  · exact mark_n _ _ _ _ _ _ _
  · rfl
theorem bg2_n (i : Nat) (T : jS) : (bg2 i T).1 = T.1 := by
  unfold bg2; split
  · rfl
  · exact mark_n _ _ _ _ _ _ _
theorem begin_n (S : jS) : (jBegin S).1 = (jBeg0 S).1 := funext fun k => by
  unfold jBegin
  rw [jfo_1 (f := bg2) (fun i T => by rw [bg2_n])]
  unfold jBeg1
  rw [jfo_1 (f := bg1) (fun i T => by rw [bg1_n])]
theorem beg0_n (S : jS) {k : Nat} (h : k < 10 ∨ 12 < k) (h2 : k ≠ 16) : (jBeg0 S).1 k = S.1 k := by
  unfold jBeg0
  rw [mark_n]
  show (jLcopy (js S 16 1) 1 0).1 k = S.1 k
  have e : (jLcopy (js S 16 1) 1 0).1 k = (jLc3 (js S 16 1) 1 0).1 k := rfl
  rw [e]
  unfold jLc3 jLc2 jLc1
  rw [js_n _ _ (by omega), js_n _ _ (by omega), js_n _ _ (by omega), js_n _ _ h2]
theorem lnk_no (h : ¬ (lnk S).1 3 ≤ 0) : lnk S = dS1 S := by
  unfold lnk at h ⊢
  split
  · rename_i h0
    rw [if_pos h0, js_n _ _ (by decide), begin_n, beg0_n _ (by decide) (by decide), h0] at h
    exact absurd (by decide) h
  · rfl
theorem lnk_yes (h : (lnk S).1 3 ≤ 0) : (dS1 S).1 3 = 0 ∧ lnk S = js (jBegin (dS1 S)) 18 0 := by
  have h0 : (dS1 S).1 3 = 0 := by
    refine Classical.byContradiction (fun z => ?_)
    unfold lnk at h
    rw [if_neg z] at h
    obtain ⟨c, c1, c2, -⟩ := try_3 S (S.1 0) (-1)
    have c2' : (dS1 S).1 3 = nI c := c2
    rw [c2'] at h z
    have : c = 0 := by
      refine Classical.byContradiction (fun hc => ?_)
      exact nI_ge (a := 0) (b := c) (by omega) (by omega) h
    subst this
    exact z rfl
  exact ⟨h0, if_pos h0⟩
theorem link_f1 (h : ¬ (lnk S).1 3 ≤ 0) : tMany (lnk S) 4 = tMany S 4 := by
  rw [lnk_no h, ← cut_tMany (dS1 S), (fr_dS1 S).cut, cut_tMany]
theorem link_cnt (h : ¬ (lnk S).1 3 ≤ 0) : ∃ c, c < 32 ∧ (lnk S).1 3 = nI (c + 1) ∧ (dS1 (lnk S)).1 3 = nI (c + 1) ∧ ¬ gN (dS1 (lnk S)) 9 c ≤ 0 := by
  have e := lnk_no h
  rw [e] at h ⊢
  obtain ⟨c, c1, c2, -⟩ := try_3 S (S.1 0) (-1)
  have c2' : (dS1 S).1 3 = nI c := c2
  obtain ⟨c', d1, d2, d3⟩ := try_3 (dS1 S) ((dS1 S).1 0) (-1)
  have d2' : (dS1 (dS1 S)).1 3 = nI c' := d2
  have hr := (rr_dS1 (fr_dS1 S)).1 3
  rw [d2', c2'] at hr
  have hcc : c' = c := nI_ij (by omega) (by omega) hr
  subst hcc
  have hc0 : c' ≠ 0 := fun z => by
    rw [c2', z] at h
    exact h (by decide)
  obtain ⟨n, rfl⟩ : ∃ n, c' = n + 1 := ⟨c' - 1, by omega⟩
  exact ⟨n, by omega, c2', d2', d3 n (by omega)⟩
theorem link_f2 (h : ¬ (lnk S).1 3 ≤ 0) : gFault (lnk S) ((lnk S).1 3 - 1) 0 = none := by
  obtain ⟨c, c1, c2, c3, -⟩ := link_cnt h
  unfold gFault
  rw [c2, c3, nI_sub1, if_pos (mw_of (n := c + 1) rfl (by omega) (by omega)), if_pos (by decide)]
theorem link_f3 (h : ¬ (lnk S).1 3 ≤ 0) : ¬ tFault (dS1 (lnk S)) ((lnk S).1 3 - 1) 0 ≤ 0 := by
  obtain ⟨c, c1, c2, c3, c4⟩ := link_cnt h
  rw [c2, nI_sub1]
  exact c4
theorem link_no_inv (H : Inv S) (h : ¬ (lnk S).1 3 ≤ 0) : Inv (lnk S) ∧ Inv (dS1 (lnk S)) := by
  rw [lnk_no h]
  exact ⟨H.fr (fr_dS1 S), (H.fr (fr_dS1 S)).fr (fr_dS1 _)⟩
theorem link_l7 (h : (lnk S).1 3 ≤ 0) : tMany (lnk S) 7 = 0 := by
  rw [(lnk_yes h).2]
  show (js (jBegin (dS1 S)) 18 0).1 18 = 0
  exact js_1 _ _ _
theorem link_l9 (h : (lnk S).1 3 ≤ 0) : tMany (lnk S) 9 = 1 := by
  have e : (lnk S).1 16 = 1 := by
    rw [(lnk_yes h).2, js_n _ _ (by decide), begin_n]
    unfold jBeg0
    rw [mark_n]
    show (jLcopy (js (dS1 S) 16 1) 1 0).1 16 = 1
    have e : (jLcopy (js (dS1 S) 16 1) 1 0).1 16 = (jLc3 (js (dS1 S) 16 1) 1 0).1 16 := rfl
    rw [e]
    unfold jLc3 jLc2 jLc1
    rw [js_n _ _ (by decide), js_n _ _ (by decide), js_n _ _ (by decide), js_1]
  have e9 : tMany (lnk S) 9 = if (lnk S).1 16 &&& 1 = 0 then 0 else 1 := by simp [tMany]
  rw [e9, e]; decide
theorem Inv0.pop (H : Inv0 S) {r h : Nat} (hr : r < 4) (h0 : 0 < h) (h8 : h ≤ 8) (e : gN S 29 r = nI h) : Inv0 (jPop S (nI r)) := by
  have e' : jg S 29 (nI r) = nI h := e
  have em : nI h + (-1) = nI (h - 1) := by
    have : nI h - 1 = nI (h - 1) := nI_subn (a := h) (b := 1) (c := h - 1) (by omega)
    rw [← this, Int32.sub_eq_add_neg]
  have p29 : ∀ q, q < 4 → gN (jPop S (nI r)) 29 q = if q = r then nI (h - 1) else gN S 29 q := fun q hq => by
    unfold jPop jadd gN
    rw [jg_jset_eq, e', em]
    by_cases hqr : q = r
    · subst hqr
      rw [if_pos ⟨⟨nI_pos' (by omega), nI_lt (b := 4) hq (by decide)⟩, rfl⟩, if_pos rfl]
    · rw [if_neg (fun z => hqr (nI_ij (by omega) (by omega) z.2)), if_neg hqr]
  have p30 : ∀ i, gN (jPop S (nI r)) 30 i = gN S 30 i := fun i => by
    unfold jPop jadd gN
    rw [jg_jset_ne _ _ _ _ (by decide)]
  refine H.fj (pop_J _ _) (fun q hq => ?_)
  obtain ⟨g, g1, g2, g3⟩ := H.rn q hq
  by_cases hqr : q = r
  · subst hqr
    have : g = h := nI_ij (by omega) (by omega) (g2.symm.trans e)
    subst this
    refine ⟨g - 1, by omega, by rw [p29 q hq, if_pos rfl], fun k hk => ?_⟩
    rw [p30]; exact g3 k (by omega)
  · refine ⟨g, g1, by rw [p29 q hq, if_neg hqr]; exact g2, fun k hk => ?_⟩
    rw [p30]; exact g3 k hk
end Link1
