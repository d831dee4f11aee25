/-! What areNumbersRight asks for. -/
theorem u31 (v : Int32) : 0 ≤ v &&& 2147483647 := by
  rw [Int32.le_iff_toInt_le]
  have h : (v &&& 2147483647).toBitVec.msb = false := by
    have e9 : (2147483647 : Int32).toBitVec.msb = false := by decide
    rw [Int32.toBitVec_and, BitVec.msb_and, e9, Bool.and_false]
  rw [BitVec.msb_eq_toInt] at h
  have h2 : ¬ (v &&& 2147483647).toBitVec.toInt < 0 := of_decide_eq_false h
  have e : (0 : Int32).toInt = 0 := rfl
  have e2 : (v &&& 2147483647).toInt = (v &&& 2147483647).toBitVec.toInt := rfl
  omega
theorem blw_r (v : Int32) {m : Nat} (h0 : 0 < m) (hm : m < 2 ^ 31) : ∃ k, k < m ∧ blw v (nI m) = nI k := by
  have h := nI_cl (u31 v)
  have ha := jb_31 (v &&& 2147483647)
  generalize (v &&& 2147483647).toNatClampNeg = a at h ha
  refine ⟨a % m, Nat.mod_lt _ h0, ?_⟩
  unfold blw
  rw [← h]
  have e : nI a / nI m = nI (a / m) := (Int32.ofNat_div ha hm).symm
  rw [e, ← nI_p]
  refine nI_subn ?_
  have := Nat.div_add_mod a m
  rw [Nat.mul_comm] at this
  omega
theorem mFree_sp (S : jS) (a : Nat) : ∀ n, ∃ f, f ≤ n ∧ mFree S a n = nI f ∧ (∀ q, n - f ≤ q → q < n → gN S a q = 0) ∧ (f < n → gN S a (n - f - 1) ≠ 0)
  | 0 => ⟨0, Nat.le_refl _, rfl, fun q h1 h2 => absurd h2 (Nat.not_lt_zero _), fun h => absurd h (Nat.lt_irrefl _)⟩
  | n + 1 => by
    obtain ⟨f, h1, h2, h3, h4⟩ := mFree_sp S a n
    rw [mFree]
    by_cases h : gN S a n = 0
    · rw [if_pos (show jg S a (nI n) = 0 from h), h2]
      refine ⟨f + 1, by omega, (nI_succ f).symm, fun q g1 g2 => ?_, fun g => ?_⟩
      · by_cases e : q = n
        · subst e; exact h
        · exact h3 q (by omega) (by omega)
      · rw [show n + 1 - (f + 1) - 1 = n - f - 1 by omega]; exact h4 (by omega)
    · rw [if_neg (show ¬ jg S a (nI n) = 0 from h)]
      refine ⟨0, by omega, rfl, fun q g1 g2 => absurd g2 (by omega), fun g => ?_⟩
      rw [show n + 1 - 0 - 1 = n by omega]; exact h
theorem jfind_lt {q : Nat → Bool} {k : Nat} : ∀ {n : Nat}, jfind q n = some k → k < n ∧ q k = true
  | n + 1, h => by
    rw [jfind] at h
    split at h
    · rename_i j hj; cases h; exact ⟨Nat.lt_succ_of_lt (jfind_lt hj).1, (jfind_lt hj).2⟩
    · split at h
      · rename_i hq; cases h; exact ⟨Nat.lt_succ_self _, hq⟩
      · cases h
/-- what has place is free, and there is none ahead of it -/
theorem room_sp (S : jS) (a : Nat) {z : Nat} (hz : 1 ≤ z) (hz2 : z ≤ 200) : mRoom S a (nI z) = -1 ∨ ∃ p, mRoom S a (nI z) = nI p ∧ p + z ≤ 200 ∧ (∀ q, p ≤ q → q < p + z → gN S a q = 0) ∧ (0 < p → gN S a (p - 1) ≠ 0) := by
  unfold mRoom jfR
  split
  · rename_i k hk
    obtain ⟨h1, h2⟩ := jfind_lt hk
    obtain ⟨f, f1, f2, f3, f4⟩ := mFree_sp S a (k + 1)
    unfold mRoomQ at h2
    rw [f2] at h2
    have e := nI_ij (by omega) (by omega) (of_decide_eq_true h2)
    subst e
    refine Or.inr ⟨k + 1 - f, ?_, by omega, fun q g1 g2 => f3 q g1 (by omega), fun g => f4 (by omega)⟩
    by_cases hh : f ≤ k
    · rw [nI_subn (c := k - f) (by omega), ← nI_succ, show k - f + 1 = k + 1 - f by omega]
    · have : f = k + 1 := by omega
      subst this
      rw [nI_succ, Nat.sub_self]
      show nI k - (nI k + 1) + 1 = 0
      rw [← Int32.sub_sub, Int32.sub_self]; rfl
  · exact Or.inl rfl
/-! counts that the linker leaves -/
def Isl (n : Nat) (S : jS) : Prop := ∃ c, c ≤ n ∧ S.1 9 = nI c
theorem Isl.mono {n m : Nat} {S : jS} (h : Isl n S) (hm : n ≤ m) : Isl m S := h.imp fun c h => ⟨Nat.le_trans h.1 hm, h.2⟩
theorem Isl.same {n : Nat} {S T : jS} (h : Isl n S) (e : T.1 9 = S.1 9) : Isl n T := h.imp fun c h => ⟨h.1, e.trans h.2⟩
theorem take_9 (S : jS) (b : Int32) : (lkTake S b).1 9 = S.1 9 := rfl
theorem fault_9 (S : jS) (c y : Int32) : (lkFault S c y).1 9 = S.1 9 := rfl
theorem jfo_9 {f : Nat → jS → jS} (hf : ∀ i T, (f i T).1 9 = T.1 9) (S : jS) (n : Nat) : (jfo f S n).1 9 = S.1 9 := jfo_1 hf S n
theorem pieces_9 (S : jS) (b : Int32) : (lkPieces S b).1 9 = S.1 9 := jfo_9 (fun i T => by
  unfold lkp1; split
  · exact js_n _ _ (by decide)
  · rfl) S _
theorem islands_9 (S : jS) (b : Int32) : (lkIslands S b).1 9 = S.1 9 := jfo_9 (fun i T => li1_k b i T) S _
theorem all_9 (S : jS) : (lkAll S).1 9 = S.1 9 := by
  unfold lkAll
  rw [jfo_9 (fun i T => by unfold la1; rw [islands_9, pieces_9])]
  exact js_n _ _ (by decide)
theorem il2_9 {n : Nat} (i : Nat) {T : jS} (h : Isl n T) : Isl (n + 1) (il2 i T) := by
  unfold il2; split
  · exact h.mono (by omega)
  · obtain ⟨c, c1, c2⟩ := h
    exact ⟨c + 1, by omega, by rw [all_9]; unfold il1; rw [js_1, c2, nI_succ]⟩
theorem il2_n {S : jS} (h : Isl 0 S) : ∀ n, Isl n (jfo il2 S n)
  | 0 => h
  | n + 1 => il2_9 n (il2_n h n)
theorem lay_9 (S : jS) (h : S.1 9 = 0) : Isl 128 (lkLay S) := by unfold lkLay; exact il2_n ⟨0, Nat.le_refl _, by rw [all_9, h]; rfl⟩ 128
theorem or1_9 (i : Nat) (T : jS) : (or1 i T).1 9 = T.1 9 := by
  unfold or1; split
  · exact fault_9 _ _ _
  · rfl
theorem reach_9 (S : jS) : (lkReach S).1 9 = S.1 9 := by unfold lkReach; exact jfo_9 (f := or1) or1_9 S 16
theorem ms1_9 (i : Nat) (T : jS) : (ms1 i T).1 9 = T.1 9 := by
  unfold ms1; split
  · exact fault_9 _ _ _
  · rfl
theorem db1_9 (i : Nat) (T : jS) : (db1 i T).1 9 = T.1 9 := by
  unfold db1; split
  · rfl
  · exact fault_9 _ _ _
theorem nd1_9 (wo : Int32) (i : Nat) (T : jS) : (nd1 wo i T).1 9 = T.1 9 := by
  unfold nd1; split
  · rfl
  · exact take_9 _ _
theorem pl1_9 (wo : Int32) (i : Nat) (T : jS) : (pl1 wo i T).1 9 = T.1 9 := by
  unfold pl1; split
  · exact take_9 _ _
  · rfl
theorem missing_9 (S : jS) : (lkMissing S).1 9 = S.1 9 := by unfold lkMissing; exact jfo_9 (f := ms1) ms1_9 S 16
theorem double_9 (S : jS) : (lkDouble S).1 9 = S.1 9 := by unfold lkDouble; exact jfo_9 (f := db1) db1_9 S 16
theorem choose_9 (S : jS) : (lkChoose S).1 9 = S.1 9 := by unfold lkChoose; exact jfo_9 (f := ch1) (fun i T => ch1_k i T 9) S _
theorem needed_9 (S : jS) (wo : Int32) : (lkNeeded S wo).1 9 = S.1 9 := by unfold lkNeeded; exact jfo_9 (f := nd1 wo) (nd1_9 wo) S 8
theorem plain_9 (S : jS) (wo : Int32) : (lkPlain S wo).1 9 = S.1 9 := by unfold lkPlain; exact jfo_9 (f := pl1 wo) (pl1_9 wo) S _
theorem at1_9 (S : jS) (r wo : Int32) : (at1 S r wo).1 9 = 0 := by
  unfold at1
  rw [missing_9, double_9, choose_9, needed_9, plain_9]
  rfl
theorem try_9 (S : jS) (r wo : Int32) : Isl 128 (lkTry S r wo) := by
  unfold lkTry
  have h := at1_9 S r wo
  split
  · have h2 : Isl 128 (at2 (at1 S r wo)) := by unfold at2; exact (lay_9 _ h).same (reach_9 _)
    unfold at3; split
    · exact h2
    · exact h2.same (fault_9 _ _ _)
  · exact ⟨0, by omega, by rw [h]; rfl⟩
/-- faults, counted, each with a code -/
def Flt (n : Nat) (S : jS) : Prop := ∃ c, c ≤ n ∧ S.1 3 = nI c ∧ ∀ i, i < c → ¬ gN S 9 i ≤ 0
theorem Flt.mono {n m : Nat} {S : jS} (h : Flt n S) (hm : n ≤ m) : Flt m S := h.imp fun c h => ⟨Nat.le_trans h.1 hm, h.2⟩
theorem Flt.same {n : Nat} {S T : jS} (h : Flt n S) (e : T.1 3 = S.1 3) (e2 : T.2 9 = S.2 9) : Flt n T := h.imp fun c h => ⟨h.1, e.trans h.2.1, fun i hi => by
  have := h.2.2 i hi
  unfold gN jg at this ⊢; rw [e2]; exact this⟩
theorem Flt.fault {n : Nat} {S : jS} (h : Flt n S) (hn : n < 33) {c : Int32} (hc : ¬ c ≤ 0) (y : Int32) : Flt (n + 1) (lkFault S c y) := by
  obtain ⟨k, k1, k2, k3⟩ := h
  refine ⟨k + 1, by omega, ?_, fun i hi => ?_⟩
  · unfold lkFault; rw [js_1, k2, nI_succ]
  · unfold lkFault gN
    rw [jg_js, jg_jset_ne (r := 10) (q := 9) _ _ _ _ (by decide), jg_jset_eq, k2]
    by_cases e : i = k
    · subst e
      rw [if_pos ⟨⟨nI_pos' (by omega), nI_lt (b := 33) (by omega) (by decide)⟩, rfl⟩]; exact hc
    · rw [if_neg (fun z => e (nI_ij (by omega) (by omega) z.2))]
      exact k3 i (by omega)
theorem Flt.jfo {f : Nat → jS → jS} {m : Nat} (hf : ∀ i T n, n < m + 33 → n < 33 → Flt n T → Flt (n + 1) (f i T)) {S : jS} {n : Nat} (h : Flt n S) : ∀ k, n + k ≤ 33 → Flt (n + k) (jfo f S k)
  | 0, _ => h
  | k + 1, hk => hf k _ (n + k) (by omega) (by omega) (Flt.jfo hf h k (by omega))
theorem jfo_s {f : Nat → jS → jS} (hf : ∀ i T, (f i T).1 3 = T.1 3 ∧ (f i T).2 9 = T.2 9) (S : jS) : ∀ n, (jfo f S n).1 3 = S.1 3 ∧ (jfo f S n).2 9 = S.2 9
  | 0 => ⟨rfl, rfl⟩
  | n + 1 => ⟨(hf n _).1.trans (jfo_s hf S n).1, (hf n _).2.trans (jfo_s hf S n).2⟩
theorem cons_s (S : jS) (p : Int32) : (lkCons S p).1 3 = S.1 3 ∧ (lkCons S p).2 9 = S.2 9 := by
  unfold lkCons cn1; split <;> split <;> exact ⟨rfl, rfl⟩
theorem Flt.db {n : Nat} (i : Nat) {T : jS} (hn : n < 33) (h : Flt n T) : Flt (n + 1) (db1 i T) := by
  unfold db1; split
  · exact h.mono (by omega)
  · exact h.fault hn (by decide) _
theorem Flt.ms {n : Nat} (i : Nat) {T : jS} (hn : n < 33) (h : Flt n T) : Flt (n + 1) (ms1 i T) := by
  unfold ms1; split
  · exact h.fault hn (by decide) _
  · exact h.mono (by omega)
theorem Flt.or {n : Nat} (i : Nat) {T : jS} (hn : n < 33) (h : Flt n T) : Flt (n + 1) (or1 i T) := by
  unfold or1; split
  · exact h.fault hn (by decide) _
  · exact h.mono (by omega)
theorem take_s (S : jS) (b : Int32) : (lkTake S b).1 3 = S.1 3 ∧ (lkTake S b).2 9 = S.2 9 := ⟨rfl, rfl⟩
theorem plain_s (S : jS) (wo : Int32) : (lkPlain S wo).1 3 = S.1 3 ∧ (lkPlain S wo).2 9 = S.2 9 := by
  unfold lkPlain
  exact jfo_s (f := pl1 wo) (fun i T => by
  unfold pl1; split
  · exact take_s _ _
  · exact ⟨rfl, rfl⟩) S _
theorem needed_s (S : jS) (wo : Int32) : (lkNeeded S wo).1 3 = S.1 3 ∧ (lkNeeded S wo).2 9 = S.2 9 := by
  unfold lkNeeded
  exact jfo_s (f := nd1 wo) (fun i T => by
  unfold nd1; split
  · exact ⟨rfl, rfl⟩
  · exact take_s _ _) S 8
theorem choose_s (S : jS) : (lkChoose S).1 3 = S.1 3 ∧ (lkChoose S).2 9 = S.2 9 := by
  unfold lkChoose
  exact jfo_s (f := ch1) (fun i T => jfo_s (f := ch2 i) (fun p U => by
  unfold ch2; split
  · exact cons_s _ _
  · exact ⟨rfl, rfl⟩) T _) S _
theorem at1_3 (S : jS) (r wo : Int32) : Flt 32 (at1 S r wo) := by
  have h0 : Flt 0 (lkBegin S r) := ⟨0, Nat.le_refl _, rfl, fun i hi => absurd hi (Nat.not_lt_zero _)⟩
  have h1 : Flt 0 (lkPlain (lkBegin S r) wo) := h0.same (plain_s _ _).1 (plain_s _ _).2
  have h2 : Flt 0 (lkNeeded (lkPlain (lkBegin S r) wo) wo) := h1.same (needed_s _ _).1 (needed_s _ _).2
  have h3 : Flt 0 (lkChoose (lkNeeded (lkPlain (lkBegin S r) wo) wo)) := h2.same (choose_s _).1 (choose_s _).2
  have h4 : Flt (0 + 16) (lkDouble (lkChoose (lkNeeded (lkPlain (lkBegin S r) wo) wo))) := by unfold lkDouble; exact Flt.jfo (f := db1) (m := 0) (fun i T n _ hn h => h.db i hn) h3 16 (by omega)
  unfold at1 lkMissing
  exact Flt.jfo (f := ms1) (m := 0) (fun i T n _ hn h => h.ms i hn) h4 16 (by omega)
theorem all_s (S : jS) : (lkAll S).1 3 = S.1 3 ∧ (lkAll S).2 9 = S.2 9 := by
  have hp : ∀ (T : jS) (b : Int32), (lkPieces T b).1 3 = T.1 3 ∧ (lkPieces T b).2 9 = T.2 9 := fun T b => jfo_s (f := lkp1 b) (fun i U => by
    unfold lkp1; split <;> exact ⟨rfl, rfl⟩) T _
  have hi : ∀ (T : jS) (b : Int32), (lkIslands T b).1 3 = T.1 3 ∧ (lkIslands T b).2 9 = T.2 9 := fun T b => jfo_s (f := li1 b) (fun i U => by
    unfold li1; split <;> exact ⟨rfl, rfl⟩) T _
  have h := jfo_s (f := la1) (fun i T => by
    unfold la1
    exact ⟨(hi _ _).1.trans (hp _ _).1, (hi _ _).2.trans (hp _ _).2⟩) (js S 6 0) ((js S 6 0).1 8).toNatClampNeg
  exact h
theorem il2_s (i : Nat) (T : jS) : (il2 i T).1 3 = T.1 3 ∧ (il2 i T).2 9 = T.2 9 := by
  unfold il2; split
  · exact ⟨rfl, rfl⟩
  · exact ⟨(all_s _).1, (all_s _).2⟩
theorem lay_s (S : jS) : (lkLay S).1 3 = S.1 3 ∧ (lkLay S).2 9 = S.2 9 := by unfold lkLay; exact ⟨(jfo_s (f := il2) il2_s (lkAll S) 128).1.trans (all_s S).1, (jfo_s (f := il2) il2_s (lkAll S) 128).2.trans (all_s S).2⟩
theorem try_3 (S : jS) (r wo : Int32) : Flt 32 (lkTry S r wo) := by
  unfold lkTry
  have h := at1_3 S r wo
  split
  · rename_i hz
    have h0 : Flt 0 (at1 S r wo) := by
      obtain ⟨c, c1, c2, c3⟩ := h
      rw [c2] at hz
      have : c = 0 := by
        refine Classical.byContradiction (fun z => ?_)
        exact absurd hz (nI_ge (a := 0) (b := c) (by omega) (by omega))
      subst this
      exact ⟨0, Nat.le_refl _, c2, fun i hi => absurd hi (Nat.not_lt_zero _)⟩
    have hl : Flt 0 (lkLay (at1 S r wo)) := h0.same (lay_s _).1 (lay_s _).2
    have h1 : Flt (0 + 16) (at2 (at1 S r wo)) := by unfold at2 lkReach; exact Flt.jfo (f := or1) (m := 0) (fun i T n _ hn h => h.or i hn) hl 16 (by omega)
    unfold at3; split
    · exact h1.mono (by omega)
    · exact (h1.fault (by decide) (by decide) _).mono (by omega)
  · exact h
