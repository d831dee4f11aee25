/-! The model, by itself: what the linker touches, and that it reads nothing of what it left before. -/
theorem i32_pos (x : Int32) (h : 0 ≤ x) : x.toInt = (x.toNatClampNeg : Int) := by
  have h1 := jb_cl x
  rw [Int32.le_iff_toInt_le] at h
  have : (0 : Int32).toInt = 0 := rfl
  omega
theorem i32_ext {x y : Int32} (hx : 0 ≤ x) (hy : 0 ≤ y) (h : x.toNatClampNeg = y.toNatClampNeg) : x = y := Int32.toInt.inj (by rw [i32_pos x hx, i32_pos y hy, h])
theorem i32_m1 : (-1 : Int32) < 0 := by decide
theorem jg_neg (S : jS) (r : Nat) {i : Int32} (h : i < 0) : jg S r i = -1 := rget_neg h
theorem jg_jset_ne (S : jS) {r q : Nat} (i v j : Int32) (h : q ≠ r) : jg (jset S r i v) q j = jg S q j := by
  unfold jg jset; rw [jr_n S _ h]
theorem jg_jset_eq (S : jS) (r : Nat) (i v j : Int32) : jg (jset S r i v) r j = if jin (jlen r) i ∧ j = i then v else jg S r j := by
  unfold jg jset
  rw [jr_2]
  unfold rset
  by_cases hi : jin (jlen r) i
  · rw [if_pos hi]
    by_cases hj : j = i
    · subst hj
      rw [if_pos ⟨hi, rfl⟩, rget, if_pos hi]
      simp [upd]
    · rw [if_neg (fun h => hj h.2)]
      unfold rget
      by_cases hjj : jin (jlen r) j
      · rw [if_pos hjj, if_pos hjj]
        have : j.toNatClampNeg ≠ i.toNatClampNeg := fun e => hj (i32_ext hjj.1 hi.1 e)
        simp [upd, this]
      · rw [if_neg hjj, if_neg hjj]
  · rw [if_neg hi, if_neg (fun h => hi h.1)]
theorem jg_js (S : jS) (k : Nat) (v : Int32) (r : Nat) (i : Int32) : jg (js S k v) r i = jg S r i := rfl
theorem jg_jfill_ne (S : jS) {r q : Nat} (v j : Int32) (h : q ≠ r) : jg (jfill S r v) q j = jg S q j := by
  unfold jg jfill; rw [jr_n S _ h]
theorem jg_jfill_eq (S : jS) (r : Nat) (v j : Int32) : jg (jfill S r v) r j = if jin (jlen r) j then v else -1 := by
  unfold jg jfill
  rw [jr_2]
  unfold rget
  by_cases hj : jin (jlen r) j
  · rw [if_pos hj, if_pos hj, rfill, if_pos]
    have h1 := i32_pos j hj.1
    have h2 := hj.2
    rw [Int32.lt_iff_toInt_lt, nI_toInt (jlen_lt r)] at h2
    omega
  · rw [if_neg hj, if_neg hj]
/-! what the linker leaves as it was -/
def FrS (S T : jS) : Prop := (∀ k, k < 3 ∨ 9 < k → T.1 k = S.1 k) ∧ ∀ r, r < 9 ∨ 16 < r → T.2 r = S.2 r
theorem FrS.rf {S : jS} : FrS S S := ⟨fun _ _ => rfl, fun _ _ => rfl⟩
theorem FrS.tr {S T U : jS} (h : FrS S T) (g : FrS T U) : FrS S U := ⟨fun k hk => (g.1 k hk).trans (h.1 k hk), fun r hr => (g.2 r hr).trans (h.2 r hr)⟩
theorem FrS.js {S T : jS} (h : FrS S T) {k : Nat} (hk : 3 ≤ k ∧ k ≤ 9) (v : Int32) : FrS S (js T k v) := ⟨fun q hq => (js_n T v (by omega)).trans (h.1 q hq), h.2⟩
theorem FrS.jr {S T : jS} (h : FrS S T) {r : Nat} (hr : 9 ≤ r ∧ r ≤ 16) (f : Nat → Int32) : FrS S (jr T r f) := ⟨h.1, fun q hq => (jr_n T f (by omega)).trans (h.2 q hq)⟩
theorem FrS.jset {S T : jS} (h : FrS S T) {r : Nat} (hr : 9 ≤ r ∧ r ≤ 16) (i v : Int32) : FrS S (jset T r i v) := h.jr hr _
theorem FrS.jadd {S T : jS} (h : FrS S T) {r : Nat} (hr : 9 ≤ r ∧ r ≤ 16) (i v : Int32) : FrS S (jadd T r i v) := h.jr hr _
theorem FrS.jfill {S T : jS} (h : FrS S T) {r : Nat} (hr : 9 ≤ r ∧ r ≤ 16) (v : Int32) : FrS S (jfill T r v) := h.jr hr _
theorem FrS.jfo {f : Nat → jS → jS} (hf : ∀ i T, FrS T (f i T)) {S T : jS} (h : FrS S T) : ∀ n, FrS S (jfo f T n)
  | 0 => h
  | n + 1 => (FrS.jfo hf h n).tr (hf n _)
theorem fr_begin (S : jS) (r : Int32) : FrS S (lkBegin S r) := by
  unfold lkBegin jClear
  exact ((((((((((FrS.rf.js (by decide) _).js (by decide) _).js (by decide) _).jfill (by decide) _).jfill (by decide) _).jfill (by decide) _).jfill (by decide) _).js (by decide) _).js (by decide) _).js (by decide) _).js (by decide) _
theorem fr_take (S : jS) (b : Int32) : FrS S (lkTake S b) := by
  unfold lkTake tk2 tk1
  exact ((((FrS.rf.jset (by decide) _ _).js (by decide) _).js (by decide) _).js (by decide) _)
theorem fr_plain (S : jS) (wo : Int32) : FrS S (lkPlain S wo) := FrS.jfo (fun i T => by
  unfold pl1; split
  · exact fr_take _ _
  · exact FrS.rf) FrS.rf _
theorem fr_needed (S : jS) (wo : Int32) : FrS S (lkNeeded S wo) := FrS.jfo (fun i T => by
  unfold nd1; split
  · exact FrS.rf
  · exact fr_take _ _) FrS.rf _
theorem fr_fault (S : jS) (c y : Int32) : FrS S (lkFault S c y) := by
  unfold lkFault
  exact ((FrS.rf.jset (by decide) _ _).jset (by decide) _ _).js (by decide) _
theorem fr_cons (S : jS) (p : Int32) : FrS S (lkCons S p) := by
  have h : FrS S (cn1 S p) := by
    unfold cn1; split
    · exact FrS.rf.jset (by decide) _ _
    · exact FrS.rf
  unfold lkCons; split
  · exact h.jadd (by decide) _ _
  · exact h
theorem fr_choose (S : jS) : FrS S (lkChoose S) := FrS.jfo (fun i T => FrS.jfo (fun p T => by
  unfold ch2; split
  · exact fr_cons _ _
  · exact FrS.rf) FrS.rf _) FrS.rf _
theorem fr_double (S : jS) : FrS S (lkDouble S) := FrS.jfo (fun i T => by
  unfold db1; split
  · exact FrS.rf
  · exact fr_fault _ _ _) FrS.rf _
theorem fr_missing (S : jS) : FrS S (lkMissing S) := FrS.jfo (fun i T => by
  unfold ms1; split
  · exact fr_fault _ _ _
  · exact FrS.rf) FrS.rf _
theorem fr_pieces (S : jS) (b : Int32) : FrS S (lkPieces S b) := FrS.jfo (fun i T => by
  unfold lkp1; split
  · exact (FrS.rf.jset (by decide) _ _).js (by decide) _
  · exact FrS.rf) FrS.rf _
theorem fr_islands (S : jS) (b : Int32) : FrS S (lkIslands S b) := FrS.jfo (fun i T => by
  unfold li1; split
  · exact (FrS.rf.jset (by decide) _ _).js (by decide) _
  · exact FrS.rf) FrS.rf _
theorem fr_all (S : jS) : FrS S (lkAll S) := FrS.jfo (fun i T => (fr_pieces _ _).tr (fr_islands _ _)) (FrS.rf.js (by decide) _) _
theorem fr_lay (S : jS) : FrS S (lkLay S) := FrS.jfo (fun i T => by
  unfold il2; split
  · exact FrS.rf
  · exact FrS.tr ((FrS.rf.jset (by decide) _ _).js (by decide) _) (fr_all _)) (fr_all _) _
theorem fr_reach (S : jS) : FrS S (lkReach S) := FrS.jfo (fun i T => by
  unfold or1; split
  · exact fr_fault _ _ _
  · exact FrS.rf) FrS.rf _
theorem fr_at1 (S : jS) (r wo : Int32) : FrS S (at1 S r wo) := (((((fr_begin S r).tr (fr_plain _ _)).tr (fr_needed _ _)).tr (fr_choose _)).tr (fr_double _)).tr (fr_missing _)
theorem fr_try (S : jS) (r wo : Int32) : FrS S (lkTry S r wo) := by
  unfold lkTry; split
  · refine (fr_at1 S r wo).tr (((fr_lay _).tr (fr_reach _)).tr ?_)
    unfold at3; split
    · exact FrS.rf
    · exact fr_fault _ _ _
  · exact fr_at1 _ _ _
/-! two states that the linker can't tell apart -/
def RR (S T : jS) : Prop := (∀ k, T.1 k = S.1 k) ∧ (∀ r, (r ≠ 9 ∧ r ≠ 10 ∧ r ≠ 11 ∧ r ≠ 13) → ∀ i, jg T r i = jg S r i) ∧ (∀ i, i < S.1 8 → jg T 11 i = jg S 11 i) ∧ (∀ i, i < S.1 9 → jg T 13 i = jg S 13 i) ∧ (∀ i, i < S.1 3 → jg T 9 i = jg S 9 i) ∧ (∀ i, i < S.1 3 → jg T 10 i = jg S 10 i)
theorem i32_lt1 {i n : Int32} (h : i < n + 1) : i < n ∨ i = n := by
  rw [Int32.lt_iff_toInt_lt] at h ⊢
  have h1 := Int32.toInt_lt n
  have h2 := Int32.le_toInt n
  have h3 := Int32.le_toInt i
  rw [Int32.toInt_add] at h
  have e1 : (1 : Int32).toInt = 1 := rfl
  rw [e1] at h
  by_cases hm : n.toInt + 1 < 2 ^ 31
  · rw [Int.bmod_eq_of_le (by omega) (by omega)] at h
    by_cases he : i.toInt = n.toInt
    · exact Or.inr (Int32.toInt.inj he)
    · exact Or.inl (by omega)
  · have hn : n.toInt = 2 ^ 31 - 1 := by omega
    rw [hn] at h
    have : Int.bmod (2 ^ 31 - 1 + 1) (2 ^ 32) = - 2 ^ 31 := by decide
    rw [this] at h
    omega
section RRs
variable {S T : jS}
theorem RR.js (h : RR S T) {k : Nat} (hk : k ≠ 3 ∧ k ≠ 8 ∧ k ≠ 9) (v : Int32) : RR (js S k v) (js T k v) :=
  ⟨fun q => by unfold _root_.Jvm.Pilot.CLinkfactoryYardLaw_law_r1584_029b14.js; dsimp only; split
               · rfl
               · exact h.1 q, h.2.1, fun i hi => h.2.2.1 i (by rw [js_n S v (by omega)] at hi; exact hi), fun i hi => h.2.2.2.1 i (by rw [js_n S v (by omega)] at hi; exact hi), fun i hi => h.2.2.2.2.1 i (by rw [js_n S v (by omega)] at hi; exact hi), fun i hi => h.2.2.2.2.2 i (by rw [js_n S v (by omega)] at hi; exact hi)⟩
theorem RR.jset (h : RR S T) {r : Nat} (hr : r ≠ 9 ∧ r ≠ 10 ∧ r ≠ 11 ∧ r ≠ 13) (i v : Int32) : RR (jset S r i v) (jset T r i v) := by
  refine ⟨h.1, fun q hq j => ?_, fun j hj => ?_, fun j hj => ?_, fun j hj => ?_, fun j hj => ?_⟩
  · by_cases e : q = r
    · subst e; rw [jg_jset_eq, jg_jset_eq, h.2.1 q hq]
    · rw [jg_jset_ne _ _ _ _ e, jg_jset_ne _ _ _ _ e, h.2.1 q hq]
  · rw [jg_jset_ne _ _ _ _ (by omega), jg_jset_ne _ _ _ _ (by omega)]; exact h.2.2.1 j hj
  · rw [jg_jset_ne _ _ _ _ (by omega), jg_jset_ne _ _ _ _ (by omega)]; exact h.2.2.2.1 j hj
  · rw [jg_jset_ne _ _ _ _ (by omega), jg_jset_ne _ _ _ _ (by omega)]; exact h.2.2.2.2.1 j hj
  · rw [jg_jset_ne _ _ _ _ (by omega), jg_jset_ne _ _ _ _ (by omega)]; exact h.2.2.2.2.2 j hj
theorem RR.take1 (h : RR S T) (b : Int32) : RR (tk1 S b) (tk1 T b) := by
  unfold tk1
  refine ⟨fun q => ?_, fun q hq j => ?_, fun j hj => ?_, fun j hj => ?_, fun j hj => ?_, fun j hj => ?_⟩
  · by_cases e : q = 8
    · subst e; rw [js_1, js_1, h.1]
    · rw [js_n _ _ e, js_n _ _ e]; exact h.1 q
  · rw [jg_js, jg_js, jg_jset_ne _ _ _ _ (by omega), jg_jset_ne _ _ _ _ (by omega)]; exact h.2.1 q hq j
  · rw [js_1] at hj
    rw [jg_js, jg_js, jg_jset_eq, jg_jset_eq, h.1 8]
    rcases i32_lt1 hj with g | g
    · rw [h.2.2.1 j g]
    · subst g
      by_cases hin : jin (jlen 11) (S.1 8)
      · rw [if_pos ⟨hin, rfl⟩, if_pos ⟨hin, rfl⟩]
      · rw [if_neg (fun z => hin z.1), if_neg (fun z => hin z.1)]
        unfold jg rget; rw [if_neg hin, if_neg hin]
  · rw [js_n _ _ (by decide)] at hj
    rw [jg_js, jg_js, jg_jset_ne _ _ _ _ (by decide), jg_jset_ne _ _ _ _ (by decide)]; exact h.2.2.2.1 j hj
  · rw [js_n _ _ (by decide)] at hj
    rw [jg_js, jg_js, jg_jset_ne _ _ _ _ (by decide), jg_jset_ne _ _ _ _ (by decide)]; exact h.2.2.2.2.1 j hj
  · rw [js_n _ _ (by decide)] at hj
    rw [jg_js, jg_js, jg_jset_ne _ _ _ _ (by decide), jg_jset_ne _ _ _ _ (by decide)]; exact h.2.2.2.2.2 j hj
theorem RR.key1 (h : RR S T) (b : Int32) : RR (Jvm.Pilot.CLinkfactoryYardLaw_law_r1584_029b14.js (Jvm.Pilot.CLinkfactoryYardLaw_law_r1584_029b14.jset S 13 (S.1 9) b) 9 (S.1 9 + 1)) (Jvm.Pilot.CLinkfactoryYardLaw_law_r1584_029b14.js (Jvm.Pilot.CLinkfactoryYardLaw_law_r1584_029b14.jset T 13 (T.1 9) b) 9 (T.1 9 + 1)) := by
  refine ⟨fun q => ?_, fun q hq j => ?_, fun j hj => ?_, fun j hj => ?_, fun j hj => ?_, fun j hj => ?_⟩
  · by_cases e : q = 9
    · subst e; rw [js_1, js_1, h.1]
    · rw [js_n _ _ e, js_n _ _ e]; exact h.1 q
  · rw [jg_js, jg_js, jg_jset_ne _ _ _ _ (by omega), jg_jset_ne _ _ _ _ (by omega)]; exact h.2.1 q hq j
  · rw [js_n _ _ (by decide)] at hj
    rw [jg_js, jg_js, jg_jset_ne _ _ _ _ (by decide), jg_jset_ne _ _ _ _ (by decide)]; exact h.2.2.1 j hj
  · rw [js_1] at hj
    rw [jg_js, jg_js, jg_jset_eq, jg_jset_eq, h.1 9]
    rcases i32_lt1 hj with g | g
    · rw [h.2.2.2.1 j g]
    · subst g
      by_cases hin : jin (jlen 13) (S.1 9)
      · rw [if_pos ⟨hin, rfl⟩, if_pos ⟨hin, rfl⟩]
      · rw [if_neg (fun z => hin z.1), if_neg (fun z => hin z.1)]
        unfold jg rget; rw [if_neg hin, if_neg hin]
  · rw [js_n _ _ (by decide)] at hj
    rw [jg_js, jg_js, jg_jset_ne _ _ _ _ (by decide), jg_jset_ne _ _ _ _ (by decide)]; exact h.2.2.2.2.1 j hj
  · rw [js_n _ _ (by decide)] at hj
    rw [jg_js, jg_js, jg_jset_ne _ _ _ _ (by decide), jg_jset_ne _ _ _ _ (by decide)]; exact h.2.2.2.2.2 j hj
theorem RR.fault (h : RR S T) (c y : Int32) : RR (lkFault S c y) (lkFault T c y) := by
  unfold lkFault
  refine ⟨fun q => ?_, fun q hq j => ?_, fun j hj => ?_, fun j hj => ?_, fun j hj => ?_, fun j hj => ?_⟩
  · by_cases e : q = 3
    · subst e; rw [js_1, js_1, h.1]
    · rw [js_n _ _ e, js_n _ _ e]; exact h.1 q
  · rw [jg_js, jg_js, jg_jset_ne _ _ _ _ (by omega), jg_jset_ne _ _ _ _ (by omega), jg_jset_ne _ _ _ _ (by omega), jg_jset_ne _ _ _ _ (by omega)]; exact h.2.1 q hq j
  · rw [js_n _ _ (by decide)] at hj
    rw [jg_js, jg_js, jg_jset_ne _ _ _ _ (by decide), jg_jset_ne _ _ _ _ (by decide), jg_jset_ne _ _ _ _ (by decide), jg_jset_ne _ _ _ _ (by decide)]; exact h.2.2.1 j hj
  · rw [js_n _ _ (by decide)] at hj
    rw [jg_js, jg_js, jg_jset_ne _ _ _ _ (by decide), jg_jset_ne _ _ _ _ (by decide), jg_jset_ne _ _ _ _ (by decide), jg_jset_ne _ _ _ _ (by decide)]; exact h.2.2.2.1 j hj
  · rw [js_1] at hj
    rw [jg_js, jg_js, jg_jset_ne (r := 10) (q := 9) _ _ _ _ (by decide), jg_jset_ne (r := 10) (q := 9) _ _ _ _ (by decide), jg_jset_eq, jg_jset_eq, h.1 3]
    rcases i32_lt1 hj with g | g
    · rw [h.2.2.2.2.1 j g]
    · subst g
      by_cases hin : jin (jlen 9) (S.1 3)
      · rw [if_pos ⟨hin, rfl⟩, if_pos ⟨hin, rfl⟩]
      · rw [if_neg (fun z => hin z.1), if_neg (fun z => hin z.1)]
        unfold jg rget; rw [if_neg hin, if_neg hin]
  · rw [js_1] at hj
    rw [jg_js, jg_js, jg_jset_eq, jg_jset_eq, h.1 3, jg_jset_ne _ _ _ _ (by decide), jg_jset_ne _ _ _ _ (by decide)]
    rcases i32_lt1 hj with g | g
    · rw [h.2.2.2.2.2 j g]
    · subst g
      by_cases hin : jin (jlen 10) (S.1 3)
      · rw [if_pos ⟨hin, rfl⟩, if_pos ⟨hin, rfl⟩]
      · rw [if_neg (fun z => hin z.1), if_neg (fun z => hin z.1)]
        unfold jg rget; rw [if_neg hin, if_neg hin]
theorem RR.jfo {f : Nat → jS → jS} : ∀ (n : Nat), (∀ i S T, i < n → RR S T → RR (f i S) (f i T)) → RR S T → RR (jfo f S n) (jfo f T n)
  | 0, _, h => h
  | n + 1, hf, h => hf n _ _ (Nat.lt_succ_self n) (RR.jfo n (fun i S T hi => hf i S T (Nat.lt_succ_of_lt hi)) h)
end RRs
/-! what the linker reads is the same in both -/
section Reads
variable {S T : jS}
theorem rd_symB (h : RR S T) (y : Int32) : ∀ n, mSymB T y n = mSymB S y n
  | 0 => rfl
  | n + 1 => by rw [mSymB, mSymB, rd_symB h y n, h.2.1 2 (by decide), h.2.1 3 (by decide)]
theorem rd_tgB1 (h : RR S T) (p b : Int32) : ∀ n, mTgB1 T p b n = mTgB1 S p b n
  | 0 => rfl
  | n + 1 => by rw [mTgB1, mTgB1, rd_tgB1 h p b n, mTarget, mTarget, h.2.1 7 (by decide)]
theorem rd_refsOf (h : RR S T) (y p : Int32) : mRefsOf T y p = mRefsOf S y p := by
  rw [mRefsOf, mRefsOf, h.2.1 2 (by decide), h.2.1 6 (by decide)]
theorem rd_tgB (h : RR S T) (y : Int32) : ∀ n, mTgB T y n = mTgB S y n
  | 0 => rfl
  | n + 1 => by rw [mTgB, mTgB, rd_tgB h y n, rd_refsOf h, rd_tgB1 h]
theorem RR.take (h : RR S T) (b : Int32) : RR (lkTake S b) (lkTake T b) := by
  have h1 := h.take1 b
  have h2 : RR (tk2 S b) (tk2 T b) := by
    unfold tk2; rw [h1.1 4, h1.1 2, rd_symB h1]; exact h1.js (by decide) _
  unfold lkTake; rw [h2.1 5, h2.1 2, rd_tgB h2]; exact h2.js (by decide) _
theorem rd_find {q1 q2 : Nat → Bool} : ∀ n, (∀ i, i < n → q1 i = q2 i) → jfind q1 n = jfind q2 n
  | 0, _ => rfl
  | n + 1, h => by rw [jfind, jfind, rd_find n (fun i hi => h i (by omega)), h n (by omega)]
theorem rd_any {q1 q2 : Nat → Bool} : ∀ n, (∀ i, i < n → q1 i = q2 i) → jany q1 n = jany q2 n
  | 0, _ => rfl
  | n + 1, h => by rw [jany, jany, rd_any n (fun i hi => h i (by omega)), h n (by omega)]
theorem rd_fv {q1 q2 : Nat → Int32} : ∀ n, (∀ i, i < n → q1 i = q2 i) → jfv q1 n = jfv q2 n
  | 0, _ => rfl
  | n + 1, h => by rw [jfv, jfv, rd_fv n (fun i hi => h i (by omega)), h n (by omega)]
theorem RR.begin {S T : jS} (h : FrS S T) (r : Int32) : RR (lkBegin S r) (lkBegin T r) := by
  have hr : ∀ q, q < 9 ∨ 16 < q → ∀ i, jg T q i = jg S q i := fun q hq i => by unfold jg; rw [h.2 q hq]
  refine ⟨fun k => ?_, fun q hq i => ?_, fun i hi => ?_, fun i hi => ?_, fun i hi => ?_, fun i hi => ?_⟩
  · have e : ∀ U : jS, (lkBegin U r).1 k = if k = 3 then 0 else if k = 6 then 0 else if k = 5 then 0 else if k = 4 then 0 else if k = 9 then 0 else if k = 8 then 0 else if k = 7 then r else U.1 k := fun U => rfl
    rw [e, e]
    by_cases hk : k < 3 ∨ 9 < k
    · rw [h.1 k hk]
    · have : k = 3 ∨ k = 4 ∨ k = 5 ∨ k = 6 ∨ k = 7 ∨ k = 8 ∨ k = 9 := by omega
      rcases this with rfl | rfl | rfl | rfl | rfl | rfl | rfl <;> rfl
  · unfold lkBegin jClear
    simp only [jg_js]
    by_cases e : q = 12
    · subst e; rw [jg_jfill_eq, jg_jfill_eq]
    · rw [jg_jfill_ne _ _ _ e, jg_jfill_ne _ _ _ e]
      by_cases e : q = 16
      · subst e; rw [jg_jfill_eq, jg_jfill_eq]
      · rw [jg_jfill_ne _ _ _ e, jg_jfill_ne _ _ _ e]
        by_cases e : q = 15
        · subst e; rw [jg_jfill_eq, jg_jfill_eq]
        · rw [jg_jfill_ne _ _ _ e, jg_jfill_ne _ _ _ e]
          by_cases e : q = 14
          · subst e; rw [jg_jfill_eq, jg_jfill_eq]
          · rw [jg_jfill_ne _ _ _ e, jg_jfill_ne _ _ _ e]
            exact hr q (by omega) i
  · have e : (lkBegin S r).1 8 = 0 := rfl
    rw [e] at hi
    rw [jg_neg _ _ hi, jg_neg _ _ hi]
  · have e : (lkBegin S r).1 9 = 0 := rfl
    rw [e] at hi
    rw [jg_neg _ _ hi, jg_neg _ _ hi]
  · have e : (lkBegin S r).1 3 = 0 := rfl
    rw [e] at hi
    rw [jg_neg _ _ hi, jg_neg _ _ hi]
  · have e : (lkBegin S r).1 3 = 0 := rfl
    rw [e] at hi
    rw [jg_neg _ _ hi, jg_neg _ _ hi]
theorem RR.plain (h : RR S T) (wo : Int32) : RR (lkPlain S wo) (lkPlain T wo) := by
  unfold lkPlain mOb
  rw [h.1 1]
  refine RR.jfo _ (fun i S T _ h => ?_) h
  unfold pl1; rw [h.2.1 1 (by decide)]; split
  · exact h.take _
  · exact h
theorem rd_need (h : RR S T) (wo : Int32) : mNeed T wo = mNeed S wo := by
  unfold mNeed mOb jfI
  rw [h.1 1, rd_find (q2 := mNeedQ S wo) _ (fun i _ => by unfold mNeedQ; rw [h.2.1 1 (by decide), h.1 2, h.1 5, h.1 4, rd_symB h])]
theorem RR.needed (h : RR S T) (wo : Int32) : RR (lkNeeded S wo) (lkNeeded T wo) := by
  unfold lkNeeded
  refine RR.jfo _ (fun i S T _ h => ?_) h
  unfold nd1; rw [rd_need h]; split
  · exact h
  · exact h.take _
theorem RR.cons (h : RR S T) (p : Int32) : RR (lkCons S p) (lkCons T p) := by
  have h1 : RR (cn1 S p) (cn1 T p) := by
    unfold cn1 cnFirst
    rw [h.2.1 5 (by decide), h.2.1 3 (by decide), h.2.1 12 (by decide), h.2.1 14 (by decide)]
    split
    · exact h.jset (by decide) _ _
    · exact h
  unfold lkCons
  rw [h.2.1 5 (by decide), h.2.1 3 (by decide)]
  split
  · unfold jadd; rw [h1.2.1 12 (by decide)]; exact h1.jset (by decide) _ _
  · exact h1
theorem cl_lt {n : Int32} {i : Nat} (h : i < n.toNatClampNeg) : nI i < n := by
  have := jb_lt rfl h
  rw [Int32.not_le] at this
  exact this
/-- a number that a loop keeps -/
theorem jfo_keep {f : Nat → jS → jS} {k : Nat} (hf : ∀ i T, (f i T).1 k = T.1 k) (S : jS) (n : Nat) : (jfo f S n).1 k = S.1 k := jfo_1 hf S n
theorem cons_1 (S : jS) (p : Int32) : (lkCons S p).1 = S.1 := by
  unfold lkCons cn1; split <;> split <;> rfl
theorem ch2_1' (i p : Nat) (S : jS) : (ch2 i p S).1 = S.1 := by
  unfold ch2; split
  · rw [cons_1]
  · rfl
theorem ch1_k (i : Nat) (S : jS) (k : Nat) : (ch1 i S).1 k = S.1 k := jfo_1 (fun p T => by rw [ch2_1']) S _
theorem rrK {f : Nat → jS → jS} {k : Nat} {c : Int32} (hk : ∀ i U, (f i U).1 k = U.1 k) : ∀ (n : Nat), (∀ i S T, i < n → S.1 k = c → RR S T → RR (f i S) (f i T)) → ∀ {S T : jS}, S.1 k = c → RR S T → RR (jfo f S n) (jfo f T n)
  | 0, _, _, _, _, h => h
  | n + 1, hf, S, T, hN, h => hf n _ _ (Nat.lt_succ_self n) (by rw [jfo_1 (fun i U => hk i U)]; exact hN) (rrK hk n (fun i S T hi => hf i S T (Nat.lt_succ_of_lt hi)) hN h)
theorem RR.choose (h : RR S T) : RR (lkChoose S) (lkChoose T) := by
  unfold lkChoose
  rw [h.1 8]
  refine rrK (k := 8) (c := S.1 8) (fun i U => ch1_k i U 8) _ (fun i S1 T1 hi hc h => ?_) rfl h
  unfold ch1 mPc
  rw [h.1 2]
  refine rrK (k := 8) (c := S.1 8) (fun p U => by rw [ch2_1']) _ (fun p S2 T2 hp hc h => ?_) hc h
  unfold ch2
  rw [h.2.1 2 (by decide), h.2.2.1 (nI i) (by rw [hc]; exact cl_lt hi)]
  split
  · exact h.cons _
  · exact h
theorem RR.double (h : RR S T) : RR (lkDouble S) (lkDouble T) := by
  unfold lkDouble
  refine RR.jfo _ (fun i S T _ h => ?_) h
  unfold db1; rw [h.2.1 12 (by decide)]; split
  · exact h
  · exact h.fault _ _
theorem RR.missing (h : RR S T) : RR (lkMissing S) (lkMissing T) := by
  unfold lkMissing
  refine RR.jfo _ (fun i S T _ h => ?_) h
  unfold ms1; rw [h.2.1 14 (by decide), h.1 5]; split
  · exact h.fault _ _
  · exact h
theorem RR.pieces (h : RR S T) (b : Int32) : RR (lkPieces S b) (lkPieces T b) := by
  unfold lkPieces mPc
  rw [h.1 2]
  refine RR.jfo _ (fun i S T _ h => ?_) h
  unfold lkp1; rw [h.2.1 2 (by decide), h.2.1 4 (by decide), h.1 6]; split
  · exact (h.jset (by decide) _ _).js (by decide) _
  · exact h
theorem li1_k (b : Int32) (i : Nat) (S : jS) : (li1 b i S).1 9 = S.1 9 := by
  unfold li1; split
  · exact js_n _ _ (by decide)
  · rfl
theorem RR.islands (h : RR S T) (b : Int32) : RR (lkIslands S b) (lkIslands T b) := by
  unfold lkIslands
  rw [h.1 9]
  refine rrK (k := 9) (c := S.1 9) (fun i U => li1_k b i U) _ (fun i S1 T1 hi hc h => ?_) rfl h
  unfold li1; rw [h.2.2.2.1 (nI i) (by rw [hc]; exact cl_lt hi), h.1 6]; split
  · exact (h.jset (by decide) _ _).js (by decide) _
  · exact h
theorem lkp_8 (b : Int32) (S : jS) : (lkPieces S b).1 8 = S.1 8 := jfo_1 (fun i T => by
  unfold lkp1; split
  · exact js_n _ _ (by decide)
  · rfl) S _
theorem lki_8 (b : Int32) (S : jS) : (lkIslands S b).1 8 = S.1 8 := jfo_1 (fun i T => by
  unfold li1; split
  · exact js_n _ _ (by decide)
  · rfl) S _
theorem RR.all (h : RR S T) : RR (lkAll S) (lkAll T) := by
  unfold lkAll
  have h0 := h.js (k := 6) (by decide) 0
  rw [h0.1 8]
  refine rrK (k := 8) (c := (Jvm.Pilot.CLinkfactoryYardLaw_law_r1584_029b14.js S 6 0).1 8) (fun i U => ?_) _ (fun i S1 T1 hi hc h => ?_) rfl h0
  · unfold la1; rw [lki_8, lkp_8]
  · unfold la1
    rw [h.2.2.1 (nI i) (by rw [hc]; exact cl_lt hi)]
    have h1 := h.pieces (jg S1 11 (nI i))
    rw [h1.2.2.1 (nI i) (by rw [lkp_8, hc]; exact cl_lt hi)]
    exact h1.islands _
theorem rd_reSy (h : RR S T) (p y : Int32) : mReSy T 0 p y = mReSy S 0 p y := by
  unfold mReSy mReach mPlace mStand; rw [h.1, h.2.1 _ (by decide), h.2.1 _ (by decide), h.2.1 _ (by decide)]
theorem rd_reIs (h : RR S T) (p b y : Int32) : mReIs T 0 p b y = mReIs S 0 p b y := by
  unfold mReIs mReach mPlace mIsl; rw [h.1, h.2.1 _ (by decide), h.2.1 _ (by decide)]
theorem rd_mis (h : RR S T) (p : Int32) : mMis T p = mMis S p := by
  have hk : ∀ k, mKey T p k = mKey S p k := fun k => by unfold mKey mTarget; rw [h.2.1 2 (by decide), h.2.1 7 (by decide)]
  unfold mMis
  rw [h.2.1 6 (by decide), rd_find (q2 := mMisQ S p) _ (fun k _ => by unfold mMisQ mNear mIsl mTarget; rw [h.2.1 8 (by decide), h.2.1 7 (by decide), rd_reSy h, hk, h.2.1 _ (by decide)])]
  split
  · exact hk _
  · rfl
theorem rd_fm (h : RR S T) : mFm T = mFm S := by
  unfold mFm
  rw [h.1 8]
  refine rd_fv _ (fun i hi => ?_)
  unfold mFm1 mPc
  rw [h.1 2]
  refine rd_fv _ (fun p hp => ?_)
  unfold mFm2
  rw [h.2.1 2 (by decide), h.2.2.1 (nI i) (cl_lt hi), rd_mis h]
theorem RR.lay (h : RR S T) : RR (lkLay S) (lkLay T) := by
  unfold lkLay
  refine RR.jfo _ (fun i S T _ h => ?_) h.all
  unfold il2; rw [rd_fm h]; split
  · exact h
  · unfold il1; rw [rd_fm h]; exact (h.key1 _).all
theorem rd_loses (h : RR S T) (y : Int32) : mLoses T 0 y = mLoses S 0 y := by
  unfold mLoses
  rw [h.1 2]
  refine rd_any _ (fun p hp => ?_)
  unfold mLosP
  have e : mLosK T 0 (nI p) = mLosK S 0 (nI p) := by unfold mLosK mLaid mPlace; rw [h.2.1 6 (by decide), h.2.1 _ (by decide)]
  rw [e]
  refine rd_any _ (fun k hk => ?_)
  unfold mLos1 mNear mTarget
  rw [h.2.1 8 (by decide), h.2.1 7 (by decide), h.2.1 2 (by decide), rd_reSy h, rd_reIs h]
theorem RR.reach (h : RR S T) : RR (lkReach S) (lkReach T) := by
  unfold lkReach
  refine RR.jfo _ (fun i S T _ h => ?_) h
  unfold or1; rw [rd_loses h]; split
  · exact h.fault _ _
  · exact h
/-- linking twice comes to the same -/
theorem rr_try {S T : jS} (h : FrS S T) (r wo : Int32) : RR (lkTry S r wo) (lkTry T r wo) := by
  have h1 : RR (at1 S r wo) (at1 T r wo) := (((((RR.begin h r).plain wo).needed wo).choose).double).missing
  unfold lkTry
  rw [h1.1 3]
  split
  · have h2 : RR (at2 (at1 S r wo)) (at2 (at1 T r wo)) := (h1.lay).reach
    unfold at3
    rw [h2.1 6]
    split
    · exact h2
    · exact h2.fault _ _
  · exact h1
end Reads
