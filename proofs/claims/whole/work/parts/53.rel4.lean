section ZR4
variable {S T : zS} {f : zF} {n p : Nat} {x : Int32}
/-- a bite: class and reference -/
theorem zRl.bite (h : zRl T f n) (h8 : T 0 8 = nI 0) (hp : p < n) (hl : ¬ T 4 p = 0) :
    zRl (biteC T n p) (n2M (lostM f n p) (upd (biteM f n p) 3 (if lostM f n p ≤ nI 5 then nI 0 else lostM f n p - nI 5))) n ∧
    biteC T n p 0 8 = lostM f n p ∧ biteC T n p 0 7 = T 0 7 := by
  obtain ⟨hw, hwn, w, w9, ew, hc⟩ := h.lost hp hl
  have key : zRl (bite1C T n p) (bite1M f p) n ∧ bite1C T n p 0 8 = lostM f n p ∧ bite1C T n p 0 7 = T 0 7 ∧ bite1C T n p 4 (whoM f n p) = nI w ∧ ∃ a, a < 10 ∧ a ≤ w ∧ lostM f n p = nI a := by
    rcases hc with ⟨es, eu, ex, a, ha, haw, ea⟩ | ⟨es, ex, eu, hz⟩
    · have eb : bite1C T n p = zsu T 0 8 (lostM f n p) := by
        unfold bite1C
        rw [es, hw, ← ex]
        rfl
      rw [eb, eu]
      exact ⟨h.u78 (Or.inr rfl), zs_eq, zs_ne (by omega), (zs_ne (by omega)).trans ew, a, ha, haw, ea⟩
    · have eb : bite1C T n p = zsu T 2 p (zmin (T 2 p + nI 1) (nI 9)) := by
        unfold bite1C
        rw [es]
        rfl
      rw [eb, eu, ex]
      exact ⟨h.u2 hz, (zs_ne (by omega)).trans h8, zs_ne (by omega), (zs_ne (by omega)).trans ew, 0, by omega, by omega, rfl⟩
  obtain ⟨r1, x8, x7, xw, a, ha, haw, ea⟩ := key
  have fw : bite1M f p (6 + 5 * whoM f n p + 3) = nI w := ((r1.2.2.2.1 _ hwn).2.2.2.1).trans xw
  obtain ⟨k, hk, ek⟩ := zq_sub w w9 a ha haw
  have r2 : zRl (bite2C (bite1C T n p) (loserC T n p)) (biteM f n p) n := by
    unfold bite2C biteM bite2M
    rw [hw, x8, xw, fw, ea, ek]
    exact r1.u4 ⟨k, by omega, rfl⟩
  have y8 : bite2C (bite1C T n p) (loserC T n p) 0 8 = lostM f n p := by
    unfold bite2C
    exact (zs_ne (by omega)).trans x8
  have y7 : bite2C (bite1C T n p) (loserC T n p) 0 7 = T 0 7 := by
    unfold bite2C
    exact (zs_ne (by omega)).trans x7
  have r3 : zRl (bite3C (bite2C (bite1C T n p) (loserC T n p))) (upd (biteM f n p) 5 (biteM f n p 5 + lostM f n p)) n := by
    unfold bite3C
    rw [y8, r2.2.2.1 5 (by decide)]
    exact r2.u0 (by decide) (fun q => absurd q (by decide)) (fun q => absurd q (by decide)) ⟨by decide, by decide⟩
  have z8 : bite3C (bite2C (bite1C T n p) (loserC T n p)) 0 8 = lostM f n p := by
    unfold bite3C
    exact (zs_ne (by omega)).trans y8
  have z7 : bite3C (bite2C (bite1C T n p) (loserC T n p)) 0 7 = T 0 7 := by
    unfold bite3C
    exact (zs_ne (by omega)).trans y7
  obtain ⟨u1, j, hj, u2⟩ := zq_rest a ha
  have er : zmax (nI 0) (lostM f n p - nI 5) = (if lostM f n p ≤ nI 5 then nI 0 else lostM f n p - nI 5) := by rw [ea]; exact u1
  have r4 : zRl (biteC T n p) (upd (upd (biteM f n p) 5 (biteM f n p 5 + lostM f n p)) 3 (if lostM f n p ≤ nI 5 then nI 0 else lostM f n p - nI 5)) n := by
    unfold biteC bite4C
    rw [z8, ← er]
    exact r3.u0 (by decide) (fun q => absurd q (by decide)) (fun _ => ⟨j, by omega, by rw [ea]; exact u2⟩) ⟨by decide, by decide⟩
  refine ⟨?_, ?_, ?_⟩
  · unfold n2M
    rw [zu_ne (show 5 ≠ 3 by decide), zu_swap (by decide)]
    exact r4
  · unfold biteC bite4C
    exact (zs_ne (by omega)).trans z8
  · unfold biteC bite4C
    exact (zs_ne (by omega)).trans z7
theorem n2M_0 {g : zF} : n2M (nI 0) g = g := by
  unfold n2M
  rw [show nI 0 = (0 : Int32) from rfl, Int32.add_zero]
  exact zu_same
/-- a noon: class and reference -/
theorem zRl.noon (h : zRl S f n) : zRl (noonC S n) (noonM f n) n ∧ noonC S n 0 7 = encO (nextM f n) ∧ noonC S n 0 8 = (n1M f n).1 := by
  have hx := h.next
  obtain ⟨T, hT⟩ : ∃ T, noon2C S (nextC S n) = T := ⟨_, rfl⟩
  have rT : zRl T f n := by rw [← hT]; exact (h.u78 (Or.inl rfl)).u78 (Or.inr rfl)
  have t8 : T 0 8 = nI 0 := by rw [← hT]; exact zs_eq
  have t7 : T 0 7 = encO (nextC S n) := by rw [← hT]; exact (zs_ne (by omega)).trans zs_eq
  have t3 : T 0 3 = S 0 3 := by rw [← hT]; exact (zs_ne (by omega)).trans (zs_ne (by omega))
  have t4 : ∀ q, T 4 q = S 4 q := fun q => by rw [← hT]; exact (zs_ne (by omega)).trans (zs_ne (by omega))
  have f3 : f 3 = S 0 3 := h.2.2.1 3 (by decide)
  have key : zRl (noon3C T n (nextC S n)) (n2M (n1M f n).1 (n1M f n).2) n ∧ noon3C T n (nextC S n) 0 7 = encO (nextC S n) ∧ noon3C T n (nextC S n) 0 8 = (n1M f n).1 := by
    by_cases hr : S 0 3 ≤ 0
    · have e1 : noon3C T n (nextC S n) = zbiteO T n (nextC S n) := if_pos (by rw [t3]; exact hr)
      have e2 : n1M f n = (match nextM f n with
        | none => (nI 0, f)
        | some p => (lostM f n p, upd (biteM f n p) 3 (if lostM f n p ≤ nI 5 then nI 0 else lostM f n p - nI 5))) := if_pos (by rw [f3]; exact hr)
      rw [e1, e2, hx]
      rcases hb : nextC S n with _ | p
      · dsimp only [zbiteO]
        rw [n2M_0]
        rw [hb] at t7
        exact ⟨rT, t7, t8⟩
      · have hp := nextC_lt hb
        have hel : elC S p = true := by
          unfold nextC at hb
          rw [if_pos hr] at hb
          exact zNx_el hb
        have hl : ¬ T 4 p = 0 := by
          rw [t4]
          intro z
          unfold elC at hel
          rw [decide_eq_true z] at hel
          exact absurd hel (by simp)
        obtain ⟨b1, b2, b3⟩ := rT.bite t8 hp hl
        dsimp only [zbiteO]
        rw [hb] at t7
        exact ⟨b1, b3.trans t7, b2⟩
    · have e1 : noon3C T n (nextC S n) = zsu T 0 3 (T 0 3 - nI 1) := if_neg (by rw [t3]; exact hr)
      have e2 : n1M f n = (nI 0, upd f 3 (f 3 - nI 1)) := if_neg (by rw [f3]; exact hr)
      rw [e1, e2]
      dsimp only
      rw [n2M_0, f3, ← t3]
      refine ⟨rT.u0 (by decide) (fun q => absurd q (by decide)) (fun _ => ?_) ⟨by decide, by decide⟩, (zs_ne (by omega)).trans t7, (zs_ne (by omega)).trans t8⟩
      obtain ⟨r, hr4, er⟩ := h.2.2.2.2.2.2.1
      rw [t3, er]
      rw [er] at hr
      have hr1 : 1 ≤ r := by
        rcases Nat.eq_zero_or_pos r with q | q
        · subst q; exact absurd (by decide) hr
        · exact q
      exact ⟨r - 1, by omega, pk_sub hr1⟩
  obtain ⟨k1, k2, k3⟩ := key
  refine ⟨?_, ?_, ?_⟩
  · unfold noonC noonM
    rw [hT]
    exact k1.n3.n4
  · unfold noonC noon5C noon4C
    rw [hT, hx]
    exact (zs_ne (by omega)).trans ((zs_ne (by omega)).trans k2)
  · unfold noonC noon5C noon4C
    rw [hT]
    exact (zs_ne (by omega)).trans ((zs_ne (by omega)).trans k3)
theorem zRl.noons (h : zRl S f n) : ∀ m, zRl (noonsC S n m) (noonsM f n m) n
  | 0 => h
  | m + 1 => (zRl.noons h m).noon.1
end ZR4
