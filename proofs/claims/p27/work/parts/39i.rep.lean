/-! A replace keeps the spare an image. -/
theorem Img.rep {S : jS} {np p y z : Nat} (H : Img S 1 np) (hnp : np ≤ 40) (hp : p < np) (hy : y < 16) (e3 : gN S 3 p = nI y) (e4 : gN S 4 p = nI z) (hz : 1 ≤ z) (hz2 : z ≤ 20) (hnl : gN S 21 p = -1) (hst : gN S 20 y ≠ -1) : Img (jRep S (nI p)) 1 np := by
  have E4 : jg S 4 (nI p) = nI z := e4
  have E3 : jg S 3 (nI p) = nI y := e3
  unfold jRep rpOk
  rw [E4]
  rcases room_sp S 26 hz (by omega) with h | ⟨x, hx, hx2, hfree, -⟩
  · rw [h, if_neg (by decide)]; exact H
  · rw [hx]
    split
    · rcases H.st y hy with h | ⟨s, s1, s2, s3, s4⟩
      · exact absurd h hst
      · rcases H.pl s s1 with h | ⟨a, w, a1, a2, a3, a4, a5⟩
        · exact absurd h s4
        · have h2 : Img (rpS2 S (nI p) (nI x)) 1 np := H.rp2 hnp hp hy e3 e4 hz hz2 hx2 hfree hnl s1 s2 s3 a1 a2 a4 a5
          obtain ⟨-, -, r26, -, -, r20⟩ := rp2_sp (x := x) (by omega) hy e3 e4 hx2 (by omega) s2 a1 a2 a4
          have Es : mStand S 2 (nI y) = nI s := s2
          have Ea : mPlace S 2 (nI s) = nI a := a1
          unfold rpS3
          rw [E3, Es, Ea]
          split
          · exact h2.jump hnp (by omega) (by rw [r26 a (by omega), if_pos ⟨Nat.le_refl _, by omega⟩]) hy (by rw [r20 y hy, if_pos rfl]; exact nI_m1 (by omega))
          · exact h2
    · exact H
