/-! A link that succeeds. -/
section Link2
variable {S : jS}
theorem fill_g {U : jS} {r i : Nat} {v : Int32} (hi : i < jlen r) : gN (jfill U r v) r i = v := by
  have := jlen_lt r
  unfold gN
  rw [jg_jfill_eq, if_pos ⟨nI_pos' (by omega), nI_lt hi this⟩]
theorem fill_n {U : jS} {r q : Nat} {v : Int32} (h : q ≠ r) (i : Nat) : gN (jfill U r v) q i = gN U q i := g_of (jr_n _ _ h) i
theorem begin_b (S : jS) (r : Int32) : (lkBegin S r).1 3 = 0 ∧ (lkBegin S r).1 8 = 0 ∧ (lkBegin S r).1 9 = 0 ∧ (∀ i, i < 16 → gN (lkBegin S r) 14 i = -1) ∧ (∀ i, i < 40 → gN (lkBegin S r) 15 i = -1) ∧ (∀ i, i < 128 → gN (lkBegin S r) 16 i = -1) := by
  have e : ∀ q i, gN (lkBegin S r) q i = gN (jfill (jClear S 0 r) 12 0) q i := fun q i => rfl
  unfold jClear at e
  refine ⟨?_, ?_, ?_, fun i hi => ?_, fun i hi => ?_, fun i hi => ?_⟩
  · unfold lkBegin; rw [js_1]
  · unfold lkBegin
    rw [js_n _ _ (by decide), js_n _ _ (by decide), js_n _ _ (by decide), js_n _ _ (by decide)]
    rfl
  · unfold lkBegin
    rw [js_n _ _ (by decide), js_n _ _ (by decide), js_n _ _ (by decide), js_n _ _ (by decide)]
    rfl
  · rw [e, fill_n (by decide), fill_n (by decide), fill_n (by decide)]
    exact fill_g (r := 14) hi
  · rw [e, fill_n (by decide), fill_n (by decide)]
    exact fill_g (r := 15) hi
  · rw [e, fill_n (by decide)]
    exact fill_g (r := 16) hi
/-- what a link without faults has laid -/
def Lnk (S T : jS) (n : Nat) : Prop :=
  (FrS S T) ∧
  (Apt T (mPc S)) ∧
  (∀ y, y < 16 → gN T 14 y = -1 ∨ ∃ p, p < mPc S ∧ gN T 14 y = nI p ∧ gN T 3 p = nI y ∧ gN T 15 p ≠ -1) ∧
  (∀ p, p < mPc S → itP T p ≠ -1 → ∀ k j t, gN S 6 p = nI k → k ≤ 3 → j < k → t < 16 → gN S 7 (3 * p + j) = nI t → gN T 14 t ≠ -1)
theorem Lnk.fr {S T : jS} {n : Nat} (h : Lnk S T n) : FrS S T := h.1
theorem Lnk.ap {S T : jS} {n : Nat} (h : Lnk S T n) : Apt T (mPc S) := h.2.1
theorem Lnk.st {S T : jS} {n : Nat} (h : Lnk S T n) : ∀ y, y < 16 → gN T 14 y = -1 ∨ ∃ p, p < mPc S ∧ gN T 14 y = nI p ∧ gN T 3 p = nI y ∧ gN T 15 p ≠ -1 := h.2.2.1
theorem Lnk.tg {S T : jS} {n : Nat} (h : Lnk S T n) : ∀ p, p < mPc S → itP T p ≠ -1 → ∀ k j t, gN S 6 p = nI k → k ≤ 3 → j < k → t < 16 → gN S 7 (3 * p + j) = nI t → gN T 14 t ≠ -1 := h.2.2.2
theorem lnk_laid (H : Inv S) (h : (dS1 S).1 3 = 0) : ∃ n, Lnk S (dS1 S) n := by
  have hN := H.npN.2
  obtain ⟨b3, b8, b9, b14, b15, b16⟩ := begin_b S (S.1 0)
  have FB : FrS S (lkBegin S (S.1 0)) := fr_begin S _
  have hT : FrS S (dS1 S) := fr_dS1 S
  have eC : lkC S (S.1 0) (-1) = lkChoose (lkNeeded (lkPlain (lkBegin S (S.1 0)) (-1)) (-1)) := rfl
  have ed : dS1 S = lkTry S (S.1 0) (-1) := rfl
  rw [ed] at h hT ⊢
  have tok : (lkC S (S.1 0) (-1)).1 3 = 0 → _ := fun h0 => try_ok h0 h
  generalize lkTry S (S.1 0) (-1) = T at hT tok
  generalize lkBegin S (S.1 0) = B at b3 b8 b9 b14 b15 b16 FB eC
  have hB1 : mOb B = 3 := by
    unfold mOb; rw [FB.1 1 (by decide), H.ob]; rfl
  have hB2 : mPc B = mPc S := by unfold mPc; rw [FB.1 2 (by decide)]
  have no : ∀ {k : Nat} {P : Prop}, k < 0 → P := fun h => absurd h (Nat.not_lt_zero _)
  obtain ⟨n, n6, K⟩ := take_ok (B := B) hB1 ⟨fun _ _ _ _ => rfl, fun _ _ => rfl, b8, fun i hi => no hi, fun i p k j t hi => no hi⟩ (-1)
  generalize lkNeeded (lkPlain B (-1)) (-1) = N at K eC
  have gS : ∀ r, r ≠ 11 → r < 9 → ∀ i, gN N r i = gN S r i := fun r a b i => (g_of (K.kr r a) i).trans (g_of (FB.2 r (by omega)) i)
  have hNp : mPc N = mPc S := (tk_pc K).trans hB2
  have Q : Chs N n (mPc S) (lkChoose N) := by
    have q := chs_go (N := N) (n := n) (np := mPc S) hN hNp (fun p hp => by rw [gS 3 (by decide) (by decide)]; exact (H.pc p hp).sy) (fun y hy => (g_of (K.kr 14 (by decide)) y).trans (b14 y hy)) n (Nat.le_refl _)
    unfold lkChoose
    rw [K.n8, nI_clamp (by omega)]
    exact q
  rw [eC] at tok
  generalize lkChoose N = C at Q tok
  have c3 : C.1 3 = 0 := by rw [Q.n1, K.kn 3 (by decide) (by decide) (by decide)]; exact b3
  obtain ⟨t1, t2, t3⟩ := tok c3
  have gC : ∀ r, r ≠ 11 → r < 9 → ∀ i, gN C r i = gN S r i := fun r a b i => (g_of (Q.kr r (by omega) (by omega)) i).trans (gS r a b i)
  have hCp : mPc C = mPc S := by
    have : C.1 2 = N.1 2 := by rw [Q.n1]
    unfold mPc at hNp ⊢; rw [this]; exact hNp
  have hs : ∀ p, p < mPc C → ∃ z, 1 ≤ z ∧ z ≤ 20 ∧ gN C 4 p = nI z := fun p hp => by
    rw [gC 4 (by decide) (by decide)]; exact (H.pc p (by omega)).sz
  have L := lay_ok (C := C) (n := n) (by rw [Q.n1]; exact K.n8) (by omega) (by rw [Q.n1, K.kn 9 (by decide) (by decide) (by decide), b9]; rfl) hs (by omega) (fun i hi => by
    unfold itP
    split
    · exact (g_of ((Q.kr 15 (by decide) (by decide)).trans (K.kr 15 (by decide))) i).trans (b15 i (by omega))
    · exact (g_of ((Q.kr 16 (by decide) (by decide)).trans (K.kr 16 (by decide))) _).trans (b16 _ (by omega)))
  rw [← t1] at L t2
  obtain ⟨m, w, m1, m2, w1, w2, c1, c2, c4⟩ := L.ex
  have hw : w ≤ 200 := by
    refine Classical.byContradiction (fun q => ?_)
    rw [w1] at t2
    exact nI_ge (a := 200) (b := w) (by omega) (by omega) t2
  have r4 : T.2 4 = C.2 4 := L.kr 4 (by decide) (by decide) (by decide)
  have hTp : mPc T = mPc S := by unfold mPc; rw [hT.1 2 (by decide)]
  have ez : ∀ i, itZ T i = itZ C i := itZ_cg r4
  refine ⟨n, hT, ⟨hN, fun i hi hp => ?_, fun i j hi hj vi vj hij => ?_, fun p hp => ?_, fun p hp h40 => ?_⟩, fun y hy => ?_, fun p hp hl k j t h6 hk hj ht h7 => ?_⟩
  · rw [ez]
    obtain ⟨x1, x2, x3⟩ := c2 i hi hp
    exact ⟨x1, x2, by omega⟩
  · rw [ez, ez]; exact c4 i j hi hj vi vj hij
  · obtain ⟨z, z1, z2, z3⟩ := hs p (by omega)
    have e : gN T 4 p = nI z := (g_of r4 p).trans z3
    have e2 : itZ T p = z := by unfold itZ; rw [if_pos (by omega), e, nI_clamp (by omega)]
    rw [e2]; exact ⟨e, z2⟩
  · refine Classical.byContradiction (fun q => ?_)
    rcases (c1 p (by omega)).mp q with ⟨x, -⟩ | ⟨x, -⟩
    · omega
    · omega
  · have e14 : gN T 14 y = gN C 14 y := g_of (L.kr 14 (by decide) (by decide) (by decide)) y
    rw [e14]
    rcases Q.st y hy with h | ⟨p, i, p1, p2, p3, i1, p4⟩
    · exact Or.inl h
    · refine Or.inr ⟨p, p1, p2, ?_, ?_⟩
      · have : gN T 3 p = gN N 3 p := (g_of (L.kr 3 (by decide) (by decide) (by decide)) p).trans (g_of (Q.kr 3 (by decide) (by decide)) p)
        rw [this]; exact p3
      · have : itP T p ≠ -1 := (c1 p (by omega)).mpr (Or.inl ⟨by omega, i, i1, by
          have x : gN T 2 p = gN N 2 p := (g_of (L.kr 2 (by decide) (by decide) (by decide)) p).trans (g_of (Q.kr 2 (by decide) (by decide)) p)
          have x2 : gN T 11 i = gN N 11 i := (g_of (L.kr 11 (by decide) (by decide) (by decide)) i).trans (g_of (Q.kr 11 (by decide) (by decide)) i)
          rw [x, x2]; exact p4⟩)
        unfold itP at this
        rw [if_pos (by omega)] at this
        exact this
  · have e14 : gN T 14 t = gN C 14 t := g_of (L.kr 14 (by decide) (by decide) (by decide)) t
    rw [e14]
    refine t3 t ht ?_
    rw [Q.n1]
    rcases (c1 p (by omega)).mp hl with ⟨-, i, i1, i2⟩ | ⟨x, -⟩
    · have x : gN T 2 p = gN B 2 p := (g_of (L.kr 2 (by decide) (by decide) (by decide)) p).trans ((g_of (Q.kr 2 (by decide) (by decide)) p).trans (g_of (K.kr 2 (by decide)) p))
      have x2 : gN T 11 i = gN N 11 i := (g_of (L.kr 11 (by decide) (by decide) (by decide)) i).trans (g_of (Q.kr 11 (by decide) (by decide)) i)
      rw [x, x2] at i2
      exact K.tb i p k j t i1 (by omega) i2 (by rw [g_of (FB.2 6 (by decide))]; exact h6) hk hj ht (by rw [g_of (FB.2 7 (by decide))]; exact h7)
    · omega
theorem runs_0 (h : gLink S = none) (q : Nat) (hq : q < 4) : gN S 29 q = 0 := by
  unfold gLink at h
  split at h
  · cases h
  · rename_i hr
    have hc := cnt_le (fun q => decide (gN S 29 q = 0)) 4
    rw [runs_cnt, nI_subn (a := 4) (c := 4 - cnt (fun q => decide (gN S 29 q = 0)) 4) (by omega)] at hr
    refine Classical.byContradiction (fun z => hr (nI_lt (a := 0) ?_ (by omega)))
    have : cnt (fun q => decide (gN S 29 q = 0)) 4 < cnt (fun _ => true) 4 := cnt_lt (j := q) (fun _ _ _ => rfl) hq (decide_eq_false z) rfl
    have e : cnt (fun _ => true) 4 = 4 := rfl
    omega
theorem link_yes_inv (H : Inv S) (hg : gLink S = none) (h : (lnk S).1 3 ≤ 0) : Inv (lnk S) ∧ tMany (lnk S) 5 = 0 ∧ tMany (lnk S) 6 = 0 := by
  obtain ⟨h0, e⟩ := lnk_yes h
  obtain ⟨n, L⟩ := lnk_laid H h0
  rw [e]
  generalize dS1 S = T at L
  have hTp : mPc T = mPc S := by unfold mPc; rw [L.fr.1 2 (by decide)]
  have IM := begin_img L.ap hTp L.st
  have B := begin_ok L.ap hTp
  have Z3 := begin_3 L.ap hTp
  obtain ⟨b0, b17, b18, -⟩ := beg0_r T
  have hN := H.npN.2
  have bn : ∀ k, k < 10 ∨ 12 < k → k ≠ 16 → (jBegin T).1 k = T.1 k := fun k a b => by rw [begin_n]; exact beg0_n _ a b
  generalize jBegin T = W at IM B Z3 bn
  have gX : ∀ r i, gN (js W 18 0) r i = gN W r i := fun r i => js_g _ _ _ r i
  have gS : ∀ r, r < 9 ∨ 25 < r → ∀ i, gN (js W 18 0) r i = gN S r i := fun r hr i => (gX r i).trans ((g_of (B.kr r (by omega) (by omega)) i).trans ((g_of (b0 r (by omega)) i).trans (g_of (L.fr.2 r (by omega)) i)))
  have e17 : ∀ y, y < 16 → gN (js W 18 0) 17 y = gN T 14 y := fun y hy => (gX 17 y).trans ((g_of (B.kr 17 (by decide) (by decide)) y).trans (b17 y hy))
  have e18 : ∀ p, p < 40 → gN (js W 18 0) 18 p = itP T p := fun p hp => (gX 18 p).trans (((g_of (B.kr 18 (by decide) (by decide)) p).trans (b18 p hp)).trans (if_pos hp).symm)
  have n1 : (js W 18 0).1 1 = S.1 1 := by rw [js_n _ _ (by decide), bn 1 (by decide) (by decide), L.fr.1 1 (by decide)]
  have n2 : (js W 18 0).1 2 = S.1 2 := by rw [js_n _ _ (by decide), bn 2 (by decide) (by decide), L.fr.1 2 (by decide)]
  have epc : mPc (js W 18 0) = mPc S := by unfold mPc; rw [n2]
  have enp : mNP (js W 18 0) = 0 := by unfold mNP; rw [js_1]; rfl
  have no : ∀ {k : Nat} {P : Prop}, k < 0 → P := fun h => absurd h (Nat.not_lt_zero _)
  have e2 := gS 2 (by decide)
  have e3 := gS 3 (by decide)
  have e4 := gS 4 (by decide)
  have e6 := gS 6 (by decide)
  have e7 := gS 7 (by decide)
  have r29 : ∀ q, q < 4 → gN (js W 18 0) 29 q = 0 := fun q hq => (gS 29 (by decide) q).trans (runs_0 hg q hq)
  refine ⟨⟨?_, ?_, ?_, ?_, ?_, ?_, ?_, ?_, ?_, ?_, ?_, ?_⟩, ?_, ?_⟩
  · rw [n1]; exact H.ob
  · rw [n2]; exact H.np
  · rw [js_1]; decide
  · rw [epc]; intro p hp
    have h0 := H.pc p hp
    unfold Pce at h0 ⊢
    simp only [e2, e3, e4, e6, e7]
    exact h0
  · simp only [epc, e6]; exact H.rz
  · rw [epc]; exact IM
  · rw [epc]; intro p hp hd k j t h6 hk hj ht h7
    rw [e6] at h6; rw [e7] at h7; rw [e17 t ht]
    rw [enp] at hd
    rcases hd with hd | ⟨i, i1, -⟩
    · rw [e18 p (by omega)] at hd
      exact L.tg p hp hd k j t h6 hk hj ht h7
    · exact no i1
  · intro r hr
    exact ⟨0, by omega, r29 r hr, fun k hk => no hk⟩
  · rw [enp]; exact fun k hk => no hk
  · rw [enp]; exact fun j k p q _ hk => no hk
  · rw [enp]; exact fun j k _ hk => no hk
  · rw [enp]; exact fun k hk => no hk
  · have e5 : tMany (js W 18 0) 5 = jcnt (js W 18 0) 23 3 := by simp [tMany]
    rw [e5]
    unfold jcnt
    rw [rcnt_cnt, show jlen 23 = 200 from rfl, cnt_no (fun q hq => decide_eq_false (fun z => ?_))]
    · rfl
    · rw [← gN_in (js W 18 0) (r := 23) (i := q) hq, gX] at z
      exact Z3 q hq z
  · have e6' : tMany (js W 18 0) 6 = mRuns (js W 18 0) := by simp [tMany]
    rw [e6', runs_cnt, cnt_cg (Q := fun _ => true) (fun q hq => decide_eq_true (r29 q hq))]
    rfl
end Link2
