/-! All that the law asks of the model, put together. -/
section Model
variable {S S' : jS}
theorem nxt_ok {cv : Int32 → Int32} {t : Nat} {x : Int32} (H : Inv S') (hd : ¬ blw x 14 = 13 → mDone S ≤ mDone S') : NxtT cv (fun _ => Inv) t x S S' := by
  have H2 : Inv (dS2 S') := H.fr (fr_dS2 S')
  exact ⟨H.nnN.2, hd, fun _ => H, fun _ => H2.symR, fun _ => H2.patR, fun _ => H2.numR x, fun _ => dg_same S' x, fun _ => (H2.fr (fr_nu3 _ x)).fr (fr_dS2 _)⟩
theorem done_rfl (H : Inv S) (h18 : S'.1 18 = S.1 18) (h33 : ∀ i, jg S' 33 i = jg S 33 i) : mDone S ≤ mDone S' := done_eq h18 (fun k _ => h33 _) H.nnN.2
theorem link_act (H : Inv S) (hg : gLink S = none) : ActLink S := ⟨link_f1, link_f2, link_f3, link_l9, link_l7, fun h => (link_yes_inv H hg h).2.1, fun h => (link_yes_inv H hg h).2.2⟩
theorem link_inv (H : Inv S) (hg : gLink S = none) : Inv (lnk S) := by
  by_cases h : (lnk S).1 3 ≤ 0
  · exact (link_yes_inv H hg h).1
  · exact (link_no_inv H h).1
theorem act_ok (H : Inv S) {cv : Int32 → Int32} {t : Nat} (x : Int32) : ActR S x (NxtT cv (fun _ => Inv) t x S) := by
  refine ⟨?_, fun _ hg => ?_, fun _ hg => ?_, fun _ hg => ?_, patE S x, fun _ hg => ?_, ?_, fun _ b hb => ?_, pceE S x, fun _ hg => ?_, fun hx hg => ?_⟩
  · exact nxt_ok H (fun _ => Int32.le_refl _)
  · obtain ⟨a, b⟩ := act_run H x hg
    exact ⟨a, nxt_ok b (fun _ => done_rfl H rfl (fun i => fj_jg (push_J _ _ _) (by decide) i))⟩
  · obtain ⟨a, b⟩ := act_call H x hg
    exact ⟨a, nxt_ok b (fun _ => done_rfl H rfl (fun i => fj_jg (push_J _ _ _) (by decide) i))⟩
  · obtain ⟨a, b, c, d⟩ := act_back H x hg
    exact ⟨a, b, nxt_ok c (fun _ => d)⟩
  · obtain ⟨a, b, c⟩ := act_patch H x hg
    exact ⟨a, nxt_ok b (fun _ => c)⟩
  · obtain ⟨y, y1, y2⟩ := act_sym x
    rw [y2]; exact mw_of (n := 16) rfl (by omega) (by decide)
  · obtain ⟨a, c⟩ := act_gate H x b hb
    exact ⟨a, nxt_ok c (fun _ => done_rfl H rfl (fun i => by rw [jg_jset_ne _ _ _ _ (by decide), jg_jset_ne _ _ _ _ (by decide)]))⟩
  · obtain ⟨a, c⟩ := act_piece H x hg
    exact ⟨a, nxt_ok c (fun _ => done_rfl H (ap_n (by decide)) (fun i => ap_ne (by decide) i))⟩
  · have h13 : blw x 14 = 13 := by
      obtain ⟨k, k1, k2⟩ := blw_r x (m := 14) (by decide) (by decide)
      have e : blw x 14 = nI k := k2
      rw [e] at hx ⊢
      have hk : ∀ k : Fin 14, ¬ (nI k.val = 0 ∨ nI k.val = 1 ∨ nI k.val = 2 ∨ nI k.val = 3 ∨ nI k.val = 4 ∨ nI k.val = 5 ∨ nI k.val = 6 ∨ nI k.val = 7 ∨ nI k.val = 8 ∨ nI k.val = 9 ∨ nI k.val = 10 ∨ nI k.val = 11 ∨ nI k.val = 12) → nI k.val = 13 := by decide +kernel
      exact hk ⟨k, k1⟩ hx
    refine ⟨link_act H hg, fun h => ?_, fun h => ?_⟩
    · exact nxt_ok (link_no_inv H h).2 (fun z => absurd h13 z)
    · exact nxt_ok (link_yes_inv H hg h).1 (fun z => absurd h13 z)
theorem blw_n3 (v : Int32) : ∃ j, j < 3 ∧ blw v 3 = nI j := blw_r v (m := 3) (by decide) (by decide)
theorem model (cv : Int32 → Int32) : ∃ (PO PP : Nat → jS → Prop) (PR : Nat → Nat → jS → Prop) (PT : Nat → jS → Prop), LawR cv PO PP PR PT := by
  refine ⟨stPO, fun k S => Bare S k, stPR, fun _ => Inv, ?_, ?_, fun k S hk H b _ => st_o1 hk H b, fun S H => st_p0 H, fun k S hk H => (st_p1 hk H _ _).1, fun k S hk H => ?_, fun k hk => ?_, fun k j S hk hj H b _ => st_r1 hk H _ b, fun k S _ H => H.1, fun S H => ?_, fun t S _ H => ⟨H.nnN.2, act_ok H _⟩⟩
  · obtain ⟨k, k1, k2⟩ := blw_r (cv 0) (m := 40) (by decide) (by decide)
    have e : blw (cv 0) 40 = nI k := k2
    have e2 : (10 : Int32) + blw (cv 0) 40 = nI (10 + k) := by rw [e, nI_a]; rfl
    rw [e2]
    exact if_pos (decide_eq_true ⟨nI_le (a := 5) (by omega) (by omega), nI_le (b := 100) (by omega) (by decide)⟩)
  · exact ⟨rfl, s0_bare _⟩
  · obtain ⟨j, j1, j2⟩ := blw_n3 (cv (1 + nI k) >>> (5 &&& 31))
    rw [j2, nI_clamp (by omega)]
    obtain ⟨-, a, b⟩ := st_p1 hk H (cv (1 + nI k)) (cv (1 + nI k) >>> (3 &&& 31))
    exact ⟨a, 0, by omega, b⟩
  · obtain ⟨j, j1, j2⟩ := blw_n3 (cv (1 + nI k) >>> (5 &&& 31))
    rw [j2, nI_clamp (by omega)]
    exact ⟨by omega, nI_pos (by omega)⟩
  · have hg : gLink S = none := by
      unfold gLink
      rw [runs_cnt, cnt_cg (Q := fun _ => true) (fun q hq => decide_eq_true (H.nr q hq))]
      exact if_neg (by decide)
    exact ⟨hg, link_inv H.iv hg⟩
end Model
