/-! Laying: one behind another. An item below 40 is a piece, another one an island. -/
def itP (T : jS) (i : Nat) : Int32 := if i < 40 then gN T 15 i else gN T 16 (i - 40)
def itA (T : jS) (i : Nat) : Nat := (itP T i).toNatClampNeg
def itZ (T : jS) (i : Nat) : Nat := if i < 40 then (gN T 4 i).toNatClampNeg else 1
def Lay (T0 : jS) (V : Nat → Prop) (w : Nat) (T : jS) : Prop :=
  (∀ k, k ≠ 6 → T.1 k = T0.1 k) ∧
  (∀ r, r ≠ 15 → r ≠ 16 → T.2 r = T0.2 r) ∧
  (T.1 6 = nI w) ∧
  (∀ i, i < 168 → V i → itP T i = nI (itA T i) ∧ 1 ≤ itZ T0 i ∧ itA T i + itZ T0 i ≤ w) ∧
  (∀ i j, i < 168 → j < 168 → V i → V j → i ≠ j → itA T i + itZ T0 i ≤ itA T j ∨ itA T j + itZ T0 j ≤ itA T i) ∧
  (∀ i, i < 168 → itP T i ≠ -1 → V i ∨ itP T0 i ≠ -1)
theorem Lay.kn {T0 : jS} {V : Nat → Prop} {w : Nat} {T : jS} (h : Lay T0 V w T) : ∀ k, k ≠ 6 → T.1 k = T0.1 k := h.1
theorem Lay.kr {T0 : jS} {V : Nat → Prop} {w : Nat} {T : jS} (h : Lay T0 V w T) : ∀ r, r ≠ 15 → r ≠ 16 → T.2 r = T0.2 r := h.2.1
theorem Lay.w6 {T0 : jS} {V : Nat → Prop} {w : Nat} {T : jS} (h : Lay T0 V w T) : T.1 6 = nI w := h.2.2.1
theorem Lay.en {T0 : jS} {V : Nat → Prop} {w : Nat} {T : jS} (h : Lay T0 V w T) : ∀ i, i < 168 → V i → itP T i = nI (itA T i) ∧ 1 ≤ itZ T0 i ∧ itA T i + itZ T0 i ≤ w := h.2.2.2.1
theorem Lay.dj {T0 : jS} {V : Nat → Prop} {w : Nat} {T : jS} (h : Lay T0 V w T) : ∀ i j, i < 168 → j < 168 → V i → V j → i ≠ j → itA T i + itZ T0 i ≤ itA T j ∨ itA T j + itZ T0 j ≤ itA T i := h.2.2.2.2.1
theorem Lay.sn {T0 : jS} {V : Nat → Prop} {w : Nat} {T : jS} (h : Lay T0 V w T) : ∀ i, i < 168 → itP T i ≠ -1 → V i ∨ itP T0 i ≠ -1 := h.2.2.2.2.2
section Lays
variable {T0 T T' : jS} {V : Nat → Prop} {w : Nat}
theorem Lay.cg {V' : Nat → Prop} (H : Lay T0 V w T) (h : ∀ i, i < 168 → (V i ↔ V' i)) : Lay T0 V' w T := ⟨H.kn, H.kr, H.w6, fun i hi hv => H.en i hi ((h i hi).mpr hv), fun i j hi hj vi vj => H.dj i j hi hj ((h i hi).mpr vi) ((h j hj).mpr vj), fun i hi hp => (H.sn i hi hp).imp (h i hi).mp id⟩
theorem Lay.put (H : Lay T0 V w T) {i : Nat} (hi : i < 168) (hn : ∀ k, k ≠ 6 → T'.1 k = T.1 k) (hr : ∀ r, r ≠ 15 → r ≠ 16 → T'.2 r = T.2 r) (h6 : T'.1 6 = nI (w + itZ T0 i)) (hz : 1 ≤ itZ T0 i) (hw : w + itZ T0 i < 2 ^ 31) (e : ∀ j, j < 168 → itP T' j = if j = i then nI w else itP T j) : Lay T0 (fun j => V j ∨ j = i) (w + itZ T0 i) T' := by
  have ei : itA T' i = w := by unfold itA; rw [e i hi, if_pos rfl, nI_clamp (by omega)]
  have eo : ∀ j, j < 168 → j ≠ i → itA T' j = itA T j := fun j hj h => by unfold itA; rw [e j hj, if_neg h]
  refine ⟨fun k hk => (hn k hk).trans (H.kn k hk), fun r a b => (hr r a b).trans (H.kr r a b), h6, fun j hj hv => ?_, fun j k hj hk vj vk hjk => ?_, fun j hj hp => ?_⟩
  · by_cases h : j = i
    · subst h
      rw [ei, e j hj, if_pos rfl]
      exact ⟨rfl, hz, Nat.le_refl _⟩
    · rcases hv with hv | hv
      · obtain ⟨a, b, c⟩ := H.en j hj hv
        rw [eo j hj h, e j hj, if_neg h]
        exact ⟨a, b, by omega⟩
      · exact absurd hv h
  · by_cases h : j = i
    · subst h
      have hki : k ≠ j := Ne.symm hjk
      rcases vk with vk | vk
      · obtain ⟨a, b, c⟩ := H.en k hk vk
        rw [ei, eo k hk hki]
        exact Or.inr c
      · exact absurd vk hki
    · rcases vj with vj | vj
      · by_cases h2 : k = i
        · subst h2
          obtain ⟨a, b, c⟩ := H.en j hj vj
          rw [ei, eo j hj h]
          exact Or.inl c
        · rcases vk with vk | vk
          · rw [eo j hj h, eo k hk h2]
            exact H.dj j k hj hk vj vk hjk
          · exact absurd vk h2
      · exact absurd vj h
  · by_cases h : j = i
    · exact Or.inl (Or.inr h)
    · rw [e j hj, if_neg h] at hp
      rcases H.sn j hj hp with z | z
      · exact Or.inl (Or.inl z)
      · exact Or.inr z
theorem Lay.up (H : Lay T0 V w T) {w' : Nat} (h : w ≤ w') (hn : ∀ k, k ≠ 6 → T'.1 k = T.1 k) (hr : T'.2 = T.2) (h6 : T'.1 6 = nI w') : Lay T0 V w' T' := by
  have e : ∀ j, itP T' j = itP T j := fun j => by
    unfold itP
    rw [g_of (S := T) (T := T') (r := 15) (by rw [hr]), g_of (S := T) (T := T') (r := 16) (by rw [hr])]
  have ea : ∀ j, itA T' j = itA T j := fun j => by unfold itA; rw [e]
  refine ⟨fun k hk => (hn k hk).trans (H.kn k hk), fun r a b => by rw [hr]; exact H.kr r a b, h6, fun j hj hv => ?_, fun j k hj hk vj vk hjk => ?_, fun j hj hp => ?_⟩
  · obtain ⟨a, b, c⟩ := H.en j hj hv
    rw [e, ea]; exact ⟨a, b, by omega⟩
  · rw [ea, ea]; exact H.dj j k hj hk vj vk hjk
  · rw [e] at hp; exact H.sn j hj hp
/-- the pieces of an object -/
theorem Lay.pieces (H : Lay T0 V w T) (hs : ∀ p, p < mPc T0 → ∃ z, 1 ≤ z ∧ z ≤ 20 ∧ gN T0 4 p = nI z) (hnp : mPc T0 ≤ 40) (hw : w + 800 < 2 ^ 31) (b : Int32) : ∀ q, q ≤ mPc T0 → ∃ w', w ≤ w' ∧ w' ≤ w + 20 * q ∧ Lay T0 (fun j => V j ∨ (j < q ∧ gN T0 2 j = b)) w' (jfo (lkp1 b) T q)
  | 0, _ => ⟨w, Nat.le_refl _, by omega, H.cg (fun i _ => ⟨Or.inl, fun h => h.elim id (fun z => absurd z.1 (Nat.not_lt_zero _))⟩)⟩
  | q + 1, hq => by
    obtain ⟨u, u1, u2, L⟩ := Lay.pieces H hs hnp hw b q (by omega)
    rw [jfo]
    generalize jfo (lkp1 b) T q = U at L
    have e2 : jg U 2 (nI q) = gN T0 2 q := g_of (L.kr 2 (by decide) (by decide)) q
    unfold lkp1
    rw [e2]
    by_cases hb : gN T0 2 q = b
    · rw [if_pos hb]
      obtain ⟨z, z1, z2, z3⟩ := hs q (by omega)
      have e4 : jg U 4 (nI q) = nI z := (g_of (L.kr 4 (by decide) (by decide)) q).trans z3
      have ez : itZ T0 q = z := by unfold itZ; rw [if_pos (by omega), z3, nI_clamp (by omega)]
      refine ⟨u + z, by omega, by omega, ?_⟩
      have L2 := L.put (i := q) (T' := js (jset U 15 (nI q) (U.1 6)) 6 (U.1 6 + jg U 4 (nI q))) (by omega) (fun k hk => js_n _ _ hk) (fun r a _ => set_r _ _ a) (by rw [js_1, L.w6, e4, ez, nI_a]) (by omega) (by omega) (fun j hj => ?_)
      · rw [ez] at L2
        refine L2.cg (fun i _ => ⟨fun h => ?_, fun h => ?_⟩)
        · rcases h with (h | h) | h
          · exact Or.inl h
          · exact Or.inr ⟨by omega, h.2⟩
          · subst h; exact Or.inr ⟨by omega, hb⟩
        · rcases h with h | ⟨h1, h2⟩
          · exact Or.inl (Or.inl h)
          · by_cases e : i = q
            · exact Or.inr e
            · exact Or.inl (Or.inr ⟨by omega, h2⟩)
      · unfold itP
        by_cases hj4 : j < 40
        · rw [if_pos hj4, if_pos hj4]
          have : gN (js (jset U 15 (nI q) (U.1 6)) 6 (U.1 6 + jg U 4 (nI q))) 15 j = gN (jset U 15 (nI q) (U.1 6)) 15 j := rfl
          rw [this, set_g (r := 15) (i := q) (by show q < 40; omega) j (by omega), L.w6]
        · rw [if_neg hj4, if_neg hj4, if_neg (by omega)]
          have : gN (js (jset U 15 (nI q) (U.1 6)) 6 (U.1 6 + jg U 4 (nI q))) 16 (j - 40) = gN (jset U 15 (nI q) (U.1 6)) 16 (j - 40) := rfl
          rw [this]; exact g_of (set_r _ _ (by decide)) _
    · rw [if_neg hb]
      exact ⟨u, u1, by omega, L.cg (fun i _ => ⟨fun h => h.imp id (fun z => ⟨by omega, z.2⟩), fun h => h.imp id (fun z => ⟨by
        by_cases e : i = q
        · subst e; exact absurd z.2 hb
        · omega, z.2⟩)⟩)⟩
/-- its islands -/
theorem Lay.islands (H : Lay T0 V w T) (hw : w + 128 < 2 ^ 31) (b : Int32) : ∀ q, q ≤ 128 → ∃ w', w ≤ w' ∧ w' ≤ w + q ∧ Lay T0 (fun j => V j ∨ (40 ≤ j ∧ ∃ i, i < q ∧ gN T0 13 i = nI (j - 40) ∧ gN T0 13 i / 16 = b)) w' (jfo (li1 b) T q)
  | 0, _ => ⟨w, Nat.le_refl _, by omega, H.cg (fun i _ => ⟨Or.inl, fun h => h.elim id (fun z => by obtain ⟨_, i', h1, _⟩ := z; exact absurd h1 (Nat.not_lt_zero _))⟩)⟩
  | q + 1, hq => by
    obtain ⟨u, u1, u2, L⟩ := Lay.islands H hw b q (by omega)
    rw [jfo]
    generalize jfo (li1 b) T q = U at L
    have e13 : jg U 13 (nI q) = gN T0 13 q := g_of (L.kr 13 (by decide) (by decide)) q
    unfold li1
    rw [e13]
    by_cases hb : gN T0 13 q / 16 = b
    · rw [if_pos hb]
      by_cases hin : jin 128 (gN T0 13 q)
      · have hk : gN T0 13 q = nI (gN T0 13 q).toNatClampNeg := (nI_cl hin.1).symm
        have hk2 : (gN T0 13 q).toNatClampNeg < 128 := by
          refine Classical.byContradiction (fun z => ?_)
          have h2 := hin.2
          rw [hk, Int32.lt_iff_toInt_lt, nI_toInt (jb_31 _), nI_toInt (by omega)] at h2
          omega
        generalize (gN T0 13 q).toNatClampNeg = k at hk hk2
        have ez : itZ T0 (40 + k) = 1 := by unfold itZ; rw [if_neg (by omega)]
        refine ⟨u + 1, by omega, by omega, ?_⟩
        rw [hk]
        have L2 := L.put (i := 40 + k) (T' := js (jset U 16 (nI k) (U.1 6)) 6 (U.1 6 + 1)) (by omega) (fun k hk => js_n _ _ hk) (fun r _ a => set_r _ _ a) (by rw [js_1, L.w6, ez, nI_succ]) (by omega) (by omega) (fun j hj => ?_)
        · rw [ez] at L2
          refine L2.cg (fun i _ => ⟨fun h => ?_, fun h => ?_⟩)
          · rcases h with (h | ⟨h1, i', h2, h3⟩) | h
            · exact Or.inl h
            · exact Or.inr ⟨h1, i', by omega, h3⟩
            · subst h; exact Or.inr ⟨by omega, q, by omega, by rw [hk]; congr 1; omega, hb⟩
          · rcases h with h | ⟨h1, i', h2, h3, h4⟩
            · exact Or.inl (Or.inl h)
            · by_cases e : i' = q
              · subst e
                right
                rw [hk] at h3
                have := nI_ij (by omega) (by omega) h3
                omega
              · exact Or.inl (Or.inr ⟨h1, i', by omega, h3, h4⟩)
        · unfold itP
          by_cases hj4 : j < 40
          · rw [if_pos hj4, if_pos hj4, if_neg (by omega)]
            have : gN (js (jset U 16 (nI k) (U.1 6)) 6 (U.1 6 + 1)) 15 j = gN (jset U 16 (nI k) (U.1 6)) 15 j := rfl
            rw [this]; exact g_of (set_r _ _ (by decide)) _
          · rw [if_neg hj4, if_neg hj4]
            have : gN (js (jset U 16 (nI k) (U.1 6)) 6 (U.1 6 + 1)) 16 (j - 40) = gN (jset U 16 (nI k) (U.1 6)) 16 (j - 40) := rfl
            rw [this, set_g (r := 16) (i := k) (by show k < 128; omega) (j - 40) (by omega), L.w6]
            by_cases e : j = 40 + k
            · rw [if_pos e, if_pos (by omega)]
            · rw [if_neg e, if_neg (by omega)]
      · have hset : jset U 16 (gN T0 13 q) (U.1 6) = U := by
          have : ∀ r, (jset U 16 (gN T0 13 q) (U.1 6)).2 r = U.2 r := fun r => by
            by_cases e : r = 16
            · subst e
              show (jr U 16 (rset (jlen 16) (U.2 16) (gN T0 13 q) (U.1 6))).2 16 = U.2 16
              rw [jr_2]
              exact if_neg hin
            · exact set_r _ _ e
          exact Prod.ext rfl (funext this)
        rw [hset]
        refine ⟨u + 1, by omega, by omega, ?_⟩
        refine (L.up (w' := u + 1) (T' := js U 6 (U.1 6 + 1)) (by omega) (fun k hk => js_n _ _ hk) rfl (by rw [js_1, L.w6, nI_succ])).cg (fun i hi => ⟨fun h => h.imp id (fun ⟨h1, i', h2, h3⟩ => ⟨h1, i', by omega, h3⟩), fun h => h.imp id (fun ⟨h1, i', h2, h3, h4⟩ => ⟨h1, i', ?_, h3, h4⟩)⟩)
        by_cases e : i' = q
        · subst e
          refine absurd ?_ hin
          rw [h3]
          exact ⟨nI_pos' (by omega), nI_lt (b := 128) (by omega) (by decide)⟩
        · omega
    · rw [if_neg hb]
      exact ⟨u, u1, by omega, L.cg (fun i _ => ⟨fun h => h.imp id (fun ⟨h1, i', h2, h3⟩ => ⟨h1, i', by omega, h3⟩), fun h => h.imp id (fun ⟨h1, i', h2, h3, h4⟩ => ⟨h1, i', by
        by_cases e : i' = q
        · subst e; exact absurd h4 hb
        · omega, h3, h4⟩)⟩)⟩
end Lays
