/-! From the Statement's start to the law's walk. -/
theorem jArr {args : Array Value} {s : State} (h : (Cond.arrayClass .int).before args s = true) : ∃ cA : ClassId, ArrOfT s cA .int ∧ va_RA s cA .int := by
  obtain ⟨c, k, comp, h1, h2, h3⟩ := Cond.arrayClass_spec h
  exact ⟨c, fun n z => ⟨fun k h => (by cases h), k, h2, comp, h3⟩, h1⟩
theorem jStrs : ∀ q ∈ jStr, Cond.stringRef RX7 q.1 q.2 ∈ lw_tbl := by decide +kernel
theorem jNests : ∀ w ∈ jNest, w ∈ lw_tbl := by decide +kernel
theorem jXBs : ∀ w ∈ jXB, w ∈ lw_tbl := by decide +kernel
theorem jStat : Cond.laysStatic Bundle.tN "UNASSIGNED_STACK" Bundle.steD ∈ lw_tbl ∧ Cond.laysStatic Bundle.tN "SUPPRESSED_SENTINEL" Bundle.listD ∈ lw_tbl ∧ Cond.initialized Bundle.tN ∈ lw_tbl ∧ Cond.arrayClass .int ∈ lw_tbl := by decide +kernel
theorem jFlg {l : Launch} (h : l.flags = flags0) : l.stackTraces = false := by
  rw [Launch.stackTraces, h]; decide +kernel
theorem jIst0 : Cond.instantiable RX0 5 ∈ lw_tbl := by decide +kernel
theorem jIst1 : Cond.instantiable RX1 6 ∈ lw_tbl := by decide +kernel
theorem jIst2 : Cond.instantiable RX2 10 ∈ lw_tbl := by decide +kernel
theorem jIst3 : Cond.instantiable RX3 4 ∈ lw_tbl := by decide +kernel
theorem jIst4 : Cond.instantiable RX4 1 ∈ lw_tbl := by decide +kernel
theorem jIst5 : Cond.instantiable RX5 2 ∈ lw_tbl := by decide +kernel
theorem jIst6 : Cond.instantiable RX6 10 ∈ lw_tbl := by decide +kernel
theorem jIst7 : Cond.instantiable RX7 8 ∈ lw_tbl := by decide +kernel
theorem jKn {s : State} {args : Array Value} (hts : ∀ w ∈ lw_tbl, w.before args s = true) {cA : ClassId} (hA : ArrOfT s cA .int ∧ va_RA s cA .int) : ∃ D : va_G, va_K D vwCl [(cA, .int)] s := by
  obtain ⟨c0, i0, k0⟩ := u_known (C := RX0) (T := TX0) (N := 5) hts inX0 (hts _ jIst0)
  obtain ⟨c1, i1, k1⟩ := u_known (C := RX1) (T := TX1) (N := 6) hts inX1 (hts _ jIst1)
  obtain ⟨c2, i2, k2⟩ := u_known (C := RX2) (T := TX2) (N := 10) hts inX2 (hts _ jIst2)
  obtain ⟨c3, i3, k3⟩ := u_known (C := RX3) (T := TX3) (N := 4) hts inX3 (hts _ jIst3)
  obtain ⟨c4, i4, k4⟩ := u_known (C := RX4) (T := TX4) (N := 1) hts inX4 (hts _ jIst4)
  obtain ⟨c5, i5, k5⟩ := u_known (C := RX5) (T := TX5) (N := 2) hts inX5 (hts _ jIst5)
  obtain ⟨c6, i6, k6⟩ := u_known (C := RX6) (T := TX6) (N := 10) hts inX6 (hts _ jIst6)
  obtain ⟨c7, i7, k7⟩ := u_known (C := RX7) (T := TX7) (N := 8) hts inX7 (hts _ jIst7)
  refine ⟨(fun c => match c with | 0 => c0 | 1 => c1 | 2 => c2 | 3 => c3 | 4 => c4 | 5 => c5 | 6 => c6 | _ => c7, fun c => match c with | 0 => i0 | 1 => i1 | 2 => i2 | 3 => i3 | 4 => i4 | 5 => i5 | 6 => i6 | _ => i7), fun c q hq => ?_, fun k q hq => ?_⟩
  · match c, hq with
    | 0, hq => cases hq; exact k0
    | 1, hq => cases hq; exact k1
    | 2, hq => cases hq; exact k2
    | 3, hq => cases hq; exact k3
    | 4, hq => cases hq; exact k4
    | 5, hq => cases hq; exact k5
    | 6, hq => cases hq; exact k6
    | 7, hq => cases hq; exact k7
    | c + 8, hq => simp at hq
  · match k, hq with
    | 0, hq => cases hq; exact hA
    | k + 1, hq => simp at hq
theorem jXf_start {s : State} {args : Array Value} (hts : ∀ w ∈ lw_tbl, w.before args s = true) (hg : (Jvm.Cond.and given_1 narrow_1).before args s = true) : jXg (fun q => s.heap.size ≤ q) s := by
  have hs := flat_of_before _ hg
  have hfree : ∀ a : Nat, a < s.heap.size → ¬ s.heap.size ≤ a := fun a h => Nat.not_le.mpr h
  obtain ⟨c7, i7, k7⟩ := u_known (C := RX7) (T := TX7) (N := 8) hts inX7 (hts _ jIst7)
  refine ⟨⟨vx_Zqof (hts _ jStat.1) (hts _ jStat.2.2.1) (hs _ (by decide +kernel)) hfree, vx_Zqof (hts _ jStat.2.1) (hts _ jStat.2.2.1) (hs _ (by decide +kernel)) hfree, fun w hw => va_Nw.of (jXB_tab w hw) (hts _ (jXBs w hw)), fun q hq => ?_⟩, va_Nc.of (hs _ (by decide +kernel))⟩
  have h := hts _ (jStrs q hq)
  obtain ⟨-, -, -, a, -, -, -, -, -, hev⟩ := Cond.stringRef_spec (cur := c7) k7.2.1 h
  exact ⟨a, vk_R.of h hev⟩
theorem whole_start0 (hM : ∀ cv : Int32 → Int32, ∃ (PO PP : Nat → jS → Prop) (PR : Nat → Nat → jS → Prop) (PT : Nat → jS → Prop), LawR cv PO PP PR PT) {p : Program} {e : Env} {s : State} {m : MethodId} {below : List Frame} {meth : Method} {c : Code} (l : Launch) (hflags : l.flags = flags0) {b L : Nat} {xs : Nat → Int32} (hL : L ≤ 260) (C0 : lw_At p s m meth c b L xs) : W p l e room_1 s m #[Value.ref b] below meth c s.heap [] 0 0 (lw_Z below #[Value.ref b] s) (entryFrame m ([Value.ref b] : List Value).toArray 8) := by
  obtain ⟨hx, hcode, hret, hml, hown, hts, hX, hbl, hlk, hg⟩ := C0
  obtain ⟨cA, hA⟩ := jArr (hts _ jStat.2.2.2)
  obtain ⟨D, hK⟩ := jKn hts hA
  obtain ⟨PO, PP, PR, PT, H⟩ := hM (cellv L xs)
  have hl := lv_entry [Value.ref b] (n := 8) (Nat.le_of_ble_eq_true rfl)
  rw [lg_entry_eq]
  have V := v_law (D := D) (cA := cA) (b := b) (jFlg hflags) (show L < 2 ^ 31 by omega) H p e s m #[Value.ref b] below meth c (fun q => s.heap.size ≤ q) s.heap [] _ ⟨hx, hcode, hret, hml, hown, fun w h => hts w (wsL_law_in w h), hlk⟩ ⟨⟨hX, hbl, Nat.not_le.mpr hbl⟩, jXf_start hts hg, fun w hw => va_Nw.of (jNest_tab w hw) (hts _ (jNests w hw)), fun q h => h⟩ (fun q h => h) hK (fun k q h => by simp at h) ⟨fun i j p q h => by simp at h, fun k q h => by simp at h⟩ va_S.rf hl
  intro T hT X
  obtain ⟨t, a1, b1⟩ := V T hT X
  exact ⟨t, a1, b1 rfl⟩
