/-! What act asks for: a call, a gate, a weak piece. -/
section Act2
variable {S : jS}
theorem act_call (H : Inv S) (x : Int32) (hg : gCall S (aR x) (aK x) = none) : ActCall (jCall S (aR x) (aK x)) (aR x) ∧ Inv (jCall S (aR x) (aK x)) := by
  have hN := H.npN
  obtain ⟨r, r1, r2⟩ := blw_r (x >>> (3 &&& 31)) (m := 4) (by decide) (by decide)
  have hr : aR x = nI r := r2
  obtain ⟨k, k1, k2⟩ := blw_r (x >>> (5 &&& 31)) (m := 3) (by decide) (by decide)
  have hk : aK x = nI k := k2
  rw [hr, hk] at hg ⊢
  obtain ⟨h, h1, h2, h3⟩ := H.rn r r1
  have h2' : jg S 29 (nI r) = nI h := h2
  unfold gCall at hg
  split at hg
  · rename_i hc
    split at hg
    · cases hg
    · rename_i hd
      have hpos : 0 < h := by
        have h0 := of_decide_eq_true hc.1
        unfold mH at h0
        rw [h2'] at h0
        refine Classical.byContradiction (fun z => ?_)
        have e0 : h = 0 := by omega
        rw [e0] at h0
        exact absurd h0 (by decide)
      have h8 : h < 8 := by
        refine Classical.byContradiction (fun z => hd (Or.inl ?_))
        unfold mH; rw [h2']; exact nI_le (a := 8) (by omega) (by omega)
      obtain ⟨p, p1, p2, p3⟩ := h3 (h - 1) (by omega)
      have htop : mTop S (nI r) = nI p := by
        unfold mTop mEnt mH
        have em : nI h - 1 = nI (h - 1) := nI_subn (a := h) (b := 1) (c := h - 1) (by omega)
        rw [if_pos hc.1, h2', em, idx8]; exact p2
      obtain ⟨m, m1, m2, m3⟩ := (H.pc p p1).rf
      have hkm : k < m := by
        have := of_decide_eq_true hc.2
        have e6 : jg S 6 (nI p) = nI m := m2
        rw [htop, e6] at this
        refine Classical.byContradiction (fun z => absurd this.2 ?_)
        rw [Int32.not_lt]; exact nI_le (by omega) (by omega)
      obtain ⟨t, t1, t2⟩ := m3 k hkm
      have hst := H.tg p p1 (Or.inl p3) m k t m2 m1 hkm t1 t2
      obtain ⟨s, s1, s2, s3, s4⟩ := H.stand t1 hst
      have htg : mTarget S (nI p) (nI k) = nI t := by
        unfold mTarget
        rw [show nI p * 3 + nI k = nI (3 * p + k) by rw [nI_a, Nat.mul_comm, nI_p]; rfl]; exact t2
      have eS : jCall S (nI r) (nI k) = jPush S (nI r) (nI s) := by
        unfold jCall
        rw [htop, htg]
        have : mStand S 1 (nI t) = nI s := s2
        rw [this]
      have J := push_J S (nI r) (nI s)
      rw [eS]
      have h29 : jg (jPush S (nI r) (nI s)) 29 (nI r) = nI (h + 1) := by
        have := push_29 r1 h2 (nI s) r r1
        rw [if_pos rfl] at this
        exact this
      have h30 : gN (jPush S (nI r) (nI s)) 30 (8 * r + h) = nI s := by
        have := push_30 r1 h8 h2 (nI s) r h r1 h8
        rw [if_pos ⟨rfl, rfl⟩] at this
        exact this
      have hT : mTop (jPush S (nI r) (nI s)) (nI r) = nI s := by
        unfold mTop mThere mEnt mH
        rw [h29, decide_eq_true (show (0 : Int32) < nI (h + 1) from nI_lt (a := 0) (b := h + 1) (by omega) (by omega)), if_pos rfl, nI_sub1, idx8]; exact h30
      have e3 : tPiece (jPush S (nI r) (nI s)) (nI s) 1 = nI t := by
        show jg (jPush S (nI r) (nI s)) 3 (nI s) = nI t
        rw [fj_jg J (by decide)]; exact s3
      refine ⟨⟨?_, ?_, ?_, ?_⟩, H.push r1 h8 h2 s1 s4⟩
      · rw [hT, J.1]; exact mw_of hN.1 s1 (by omega)
      · rw [hT]
        have e : tPiece (jPush S (nI r) (nI s)) (nI s) 6 = mRunsW (jPush S (nI r) (nI s)) (nI s) 4 := by simp [tPiece]
        rw [e, runsW_cnt]
        have hb : 0 < mBacks (jPush S (nI r) (nI s)) (nI r) (nI s) := (backs_pos (h := h + 1) (by omega) h29 (nI s)).mpr ⟨h, by omega, h30⟩
        have c1 := cnt_pos (P := fun q => decide (0 < mBacks (jPush S (nI r) (nI s)) (nI q) (nI s))) r1 (decide_eq_true hb)
        have c2 := cnt_le (fun q => decide (0 < mBacks (jPush S (nI r) (nI s)) (nI q) (nI s))) 4
        exact nI_ge (a := 0) (by omega) (by omega)
      · rw [hT, e3]; exact mw_of (n := 16) rfl t1 (by decide)
      · rw [hT, e3]
        show jg (jPush S (nI r) (nI s)) 17 (nI t) = nI s
        rw [fj_jg J (by decide)]; exact s2
  · cases hg
theorem fi_gate (S : jS) (y v : Int32) : FrI S (jset S 0 y v) := fi_row S (by decide) _
theorem act_sym (x : Int32) : ∃ y, y < 6 ∧ aY x = nI y := blw_r (x >>> (4 &&& 31)) (m := 6) (by decide) (by decide)
theorem act_gate (H : Inv S) (x b : Int32) (hb : b = 0 ∨ b = 1) : bI (decide (jg (jset S 0 (aY x) (bz b)) 0 (aY x) = 1)) = b ∧ Inv (jset (jset S 0 (aY x) (bz b)) 0 (aY x) (bz b)) := by
  obtain ⟨y, y1, y2⟩ := act_sym x
  refine ⟨?_, H.fi ((fi_gate S _ _).tr (fi_gate _ _ _))⟩
  rw [y2, jg_jset_eq, if_pos ⟨⟨nI_pos' (by omega), nI_lt (b := 16) (by omega) (by decide)⟩, rfl⟩]
  rcases hb with rfl | rfl <;> decide
theorem act_zs (x : Int32) : ∃ z, 1 ≤ z ∧ z ≤ 20 ∧ aZ x = nI z := by
  obtain ⟨k, k1, k2⟩ := blw_r (x >>> (6 &&& 31)) (m := 20) (by decide) (by decide)
  refine ⟨k + 1, by omega, by omega, ?_⟩
  have e : blw (x >>> (6 &&& 31)) 20 = nI k := k2
  show (1 : Int32) + blw (x >>> (6 &&& 31)) 20 = _
  rw [e, Int32.add_comm, nI_succ]
theorem size_ok {z : Nat} (h1 : 1 ≤ z) (h2 : z ≤ 20) : mSize (nI z) = true := decide_eq_true ⟨nI_le (a := 1) h1 (by omega), nI_le (b := 20) h2 (by decide)⟩
theorem pceE (S : jS) (x : Int32) : ∀ E, gPiece S (aO x) (aY2 x) (aZ x) 1 = some E → E = jISE ∨ E = jIOB := by
  intro E h
  obtain ⟨z, z1, z2, z3⟩ := act_zs x
  unfold gPiece at h
  rw [z3, if_pos (size_ok z1 z2)] at h
  split at h
  · split at h
    · cases h
    · exact Or.inl (Option.some.inj h).symm
  · exact Or.inr (Option.some.inj h).symm
theorem patE (S : jS) (x : Int32) : ∀ E, gPatch S (aY x) (aZ x) (aK x) (aT x) = some E → E = jISE ∨ E = jIOB := by
  intro E h
  obtain ⟨z, z1, z2, z3⟩ := act_zs x
  obtain ⟨k, k1, k2⟩ := blw_r (x >>> (5 &&& 31)) (m := 3) (by decide) (by decide)
  have hk : aK x = nI k := k2
  unfold gPatch at h
  rw [z3, hk, if_pos (c := mSize (nI z) = true ∧ ¬ nI k < 0 ∧ nI k ≤ 3) ⟨size_ok z1 z2, nI_pos (by omega), nI_le (b := 3) (by omega) (by decide)⟩] at h
  split at h
  · split at h
    · cases h
    · exact Or.inl (Option.some.inj h).symm
  · exact Or.inr (Option.some.inj h).symm
theorem act_piece (H : Inv S) (x : Int32) (hg : gPiece S (aO x) (aY2 x) (aZ x) 1 = none) : S.1 2 + 1 - 1 = tMany (addPc S (aO x) (aY2 x) (aZ x) (bn 1)) 1 - 1 ∧ Inv (addPc S (aO x) (aY2 x) (aZ x) (bn 1)) := by
  obtain ⟨z, z1, z2, z3⟩ := act_zs x
  obtain ⟨o, o1, o2⟩ := blw_r (x >>> (4 &&& 31)) (m := 3) (by decide) (by decide)
  obtain ⟨y, y1, y2⟩ := blw_r (x >>> (5 &&& 31)) (m := 6) (by decide) (by decide)
  have hn : mPc S < 40 := by
    unfold gPiece at hg
    rw [z3, if_pos (size_ok z1 z2)] at hg
    split at hg
    · split at hg
      · rename_i hlt
        rw [H.npN.1] at hlt
        refine Classical.byContradiction (fun q => absurd hlt ?_)
        rw [Int32.not_lt]; exact nI_le (a := 40) (by omega) (by have := H.npN.2; omega)
      · cases hg
    · cases hg
  exact ⟨rfl, (H.to0.addPc hn ⟨y, by omega, y2⟩ ⟨z, z1, z2, z3⟩ (Or.inr ⟨o, o1, o2⟩)).up (quiet_addPc H _ _ _ _)⟩
theorem done_cg {T : jS} (h1 : T.1 18 = S.1 18) (h2 : ∀ i, jg T 33 i = jg S 33 i) : mDone T = mDone S := by
  have hk : ∀ n, mDoneN T n = mDoneN S n := fun n => by
    induction n with
    | zero => rfl
    | succ n ih =>
      have e : tPatch T (nI n) 3 = tPatch S (nI n) 3 := h2 _
      rw [mDoneN, mDoneN, ih, e]
  unfold mDone; rw [h1, hk]
end Act2
