/-! What the linker keeps, as a state by itself; the digest depends on nothing else. -/
def cut (S : jS) : jS := (fun k => if 3 ≤ k ∧ k ≤ 9 then 0 else S.1 k, fun r => if 9 ≤ r ∧ r ≤ 16 then (fun _ => 0) else S.2 r)
theorem FrS.cut {S T : jS} (h : FrS S T) : cut T = cut S := by
  unfold _root_.Jvm.Pilot.CLinkfactoryYardLaw_law_r1584_029b14.cut
  refine Prod.ext (funext fun k => ?_) (funext fun r => ?_)
  · dsimp only; split
    · rfl
    · exact h.1 k (by omega)
  · dsimp only; split
    · rfl
    · exact h.2 r (by omega)
theorem FrS.sy {S T : jS} (h : FrS S T) : FrS T S := ⟨fun k hk => (h.1 k hk).symm, fun r hr => (h.2 r hr).symm⟩
theorem cut_jg (S : jS) {r : Nat} (h : r < 9 ∨ 16 < r) (i : Int32) : jg (cut S) r i = jg S r i := by
  unfold jg cut; dsimp only; rw [if_neg (by omega)]
theorem cut_1 (S : jS) {k : Nat} (h : k < 3 ∨ 9 < k) : (cut S).1 k = S.1 k := if_neg (by omega)
theorem cut_waitFor (S : jS) (y : Int32) : ∀ n, mWaitFor (cut S) y n = mWaitFor S y n
  | 0 => rfl
  | n + 1 => by rw [mWaitFor, mWaitFor, cut_waitFor S y n]; rfl
theorem cut_waiting (S : jS) : ∀ n, mWaiting (cut S) n = mWaiting S n
  | 0 => rfl
  | n + 1 => by rw [mWaiting, mWaiting, cut_waiting S n]; rfl
theorem cut_runsW (S : jS) (p : Int32) : ∀ n, mRunsW (cut S) p n = mRunsW S p n
  | 0 => rfl
  | n + 1 => by rw [mRunsW, mRunsW, cut_runsW S p n]; rfl
theorem cut_tSymbol (S : jS) (y w : Int32) : tSymbol (cut S) y w = tSymbol S y w := by
  unfold tSymbol mNP; rw [cut_waitFor]; rfl
theorem cut_tPiece (S : jS) (y w : Int32) : tPiece (cut S) y w = tPiece S y w := by
  unfold tPiece; rw [cut_runsW]; rfl
theorem cut_tMany (S : jS) (w : Int32) : tMany (cut S) w = tMany S w := by
  unfold tMany mNP; rw [cut_waiting]; rfl
theorem cut_dSy1 (S : jS) (y : Int32) (d : Int64) : ∀ n, dSy1 (cut S) y d n = dSy1 S y d n
  | 0 => rfl
  | n + 1 => by rw [dSy1, dSy1, cut_dSy1 S y d n, cut_tSymbol]
theorem cut_dSy (S : jS) (d : Int64) : ∀ n, dSy (cut S) d n = dSy S d n
  | 0 => rfl
  | n + 1 => by rw [dSy, dSy, cut_dSy S d n, cut_dSy1]
theorem cut_dPc1 (S : jS) (y : Int32) (d : Int64) : ∀ n, dPc1 (cut S) y d n = dPc1 S y d n
  | 0 => rfl
  | n + 1 => by rw [dPc1, dPc1, cut_dPc1 S y d n, cut_tPiece]
theorem cut_dPc2 (S : jS) (y : Int32) (d : Int64) : ∀ n, dPc2 (cut S) y d n = dPc2 S y d n
  | 0 => rfl
  | n + 1 => by rw [dPc2, dPc2, cut_dPc2 S y d n]; rfl
theorem cut_dPc (S : jS) (d : Int64) : ∀ n, dPc (cut S) d n = dPc S d n
  | 0 => rfl
  | n + 1 => by rw [dPc, dPc, cut_dPc S d n, cut_dPc1, cut_dPc2]; rfl
theorem cut_dWd (S : jS) (d : Int64) : ∀ n, dWd (cut S) d n = dWd S d n
  | 0 => rfl
  | n + 1 => by rw [dWd, dWd, cut_dWd S d n]; rfl
theorem cut_dRn1 (S : jS) (r : Int32) (d : Int64) : ∀ n, dRn1 (cut S) r d n = dRn1 S r d n
  | 0 => rfl
  | n + 1 => by rw [dRn1, dRn1, cut_dRn1 S r d n]; rfl
theorem cut_dRn (S : jS) (d : Int64) : ∀ n, dRn (cut S) d n = dRn S d n
  | 0 => rfl
  | n + 1 => by rw [dRn, dRn, cut_dRn S d n, cut_dRn1]; rfl
theorem cut_dPt1 (S : jS) (k : Int32) (d : Int64) : ∀ n, dPt1 (cut S) k d n = dPt1 S k d n
  | 0 => rfl
  | n + 1 => by rw [dPt1, dPt1, cut_dPt1 S k d n]; rfl
theorem cut_dPt (S : jS) (d : Int64) : ∀ n, dPt (cut S) d n = dPt S d n
  | 0 => rfl
  | n + 1 => by rw [dPt, dPt, cut_dPt S d n, cut_dPt1]
theorem cut_dMn (S : jS) : ∀ n, dMn (cut S) n = dMn S n
  | 0 => rfl
  | n + 1 => by rw [dMn, dMn, cut_dMn S n, cut_tMany]
theorem cut_dAll (S : jS) : dAll (cut S) = dAll S := by
  unfold dAll mNP
  rw [cut_dPt, cut_dRn, cut_dWd, cut_dPc, cut_dSy, cut_dMn]; rfl
theorem rd_dFa {S T : jS} (h : RR S T) (d : Int64) : ∀ n, n ≤ (S.1 3).toNatClampNeg → dFa T d n = dFa S d n
  | 0, _ => rfl
  | n + 1, hn => by
    have hi : nI n < S.1 3 := cl_lt hn
    rw [dFa, dFa, rd_dFa h d n (by omega)]
    unfold tFault
    rw [h.2.2.2.2.1 _ hi, h.2.2.2.2.2 _ hi]
theorem fr_dS1 (S : jS) : FrS S (dS1 S) := fr_try _ _ _
theorem fr_dS2 (S : jS) : FrS S (dS2 S) := (fr_dS1 S).tr (fr_try _ _ _)
theorem fr_dS1c {S T : jS} (h : FrS S T) : FrS (dS1 S) (dS1 T) := (fr_dS1 S).sy.tr (h.tr (fr_dS1 T))
theorem rr_dS1 {S T : jS} (h : FrS S T) : RR (dS1 S) (dS1 T) := by
  unfold dS1; rw [h.1 0 (by decide)]; exact rr_try h _ _
/-- the digest is of what the linker keeps -/
theorem dDig_fr {S T : jS} (h : FrS S T) : dDig T = dDig S := by
  have h1 := rr_dS1 h
  have h2 : RR (dS2 S) (dS2 T) := rr_try (fr_dS1c h) _ _
  unfold dDig
  rw [h1.1 3, rd_dFa h1 _ _ (Nat.le_refl _), h2.1 9, ← cut_dAll T, ← cut_dAll S, h.cut]
theorem fr_nu3 (S : jS) (x : Int32) : FrS S (nu3 S x) := ((fr_try S _ _).tr (fr_try _ _ _)).tr (fr_try _ _ _)
theorem lgc_rf (x : Int64) : lg_cmp x x = 0 := by
  unfold lg_cmp; simp
/-- asking twice tells the same -/
theorem dg_same (S : jS) (x : Int32) : lg_cmp (dDig (nu3 (dS2 S) x)) (dDig S) = 0 := by
  rw [dDig_fr ((fr_dS2 S).tr (fr_nu3 _ x)), lgc_rf]
