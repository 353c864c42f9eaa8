section ZR9
variable {S T F : zS} {f g : zF} {n p : Nat} {x v : Int32}
theorem zq_as : ∀ k, k < 6 → ∀ y, y < 6 → (k = 0 ∨ (zofC 6 k (nI y) = decide (nI y = 0 ∨ nI k = nI y ∨ (nI y = nI 1 ∧ nI k < nI 4) ∨ (nI y = nI 4 ∧ nI k = nI 5)))) := by decide +kernel
theorem zq_m1 : ∀ a, a < 10 → ¬ nI a ≤ -1 := by decide +kernel
theorem zRl.lfAny (h : zRl F g n) (hp : p < n) {i m : Nat} (hi : i ≤ 9) (S T : zS) : zlf S F n p (nI i) m 4 p = zlf T F n p (nI i) m 4 p := by
  rw [← (h.lf (S := S) (f := g) (p := p) (i := i) (m := m) hi).lg hp, ← (h.lf (S := T) (f := g) (p := p) (i := i) (m := m) hi).lg hp]
/-- the most is what stands at the best place -/
theorem zRl.sp2 (h : zRl F g n) (hp : p < n) {m : Nat} : ∀ (k i : Nat) (b mo : Int32) (f : zF), i + k = 10 → ((∃ j, j ≤ 9 ∧ b = nI j ∧ ∀ S, zlf S F n p b m 4 p = mo) ∨ (i = 0 ∧ mo = -1)) →
    ∃ j, j ≤ 9 ∧ (zspM g n p m k i b mo f).1 = nI j ∧ ∀ S, zlf S F n p (zspM g n p m k i b mo f).1 m 4 p = (zspM g n p m k i b mo f).2.1
  | 0, i, b, mo, f, hi, hj => by
    rcases hj with hj | ⟨h0, _⟩
    · exact hj
    · omega
  | k + 1, i, b, mo, f, hi, hj => by
    have e := (h.lf (S := F) (f := f) (p := p) (i := i) (m := m) (by omega)).lg hp
    obtain ⟨l, hl, el⟩ := ((h.lf (S := F) (f := f) (p := p) (i := i) (m := m) (by omega)).2.2.2.2.2.2.2.2 p hp).2.2.2
    unfold zspM
    rw [e]
    by_cases q : zlf F F n p (nI i) m 4 p ≤ mo
    · rw [if_pos q]
      refine zRl.sp2 h hp k (i + 1) b mo _ (by omega) ?_
      rcases hj with hj | ⟨_, h1⟩
      · exact Or.inl hj
      · rw [h1, el] at q
        exact absurd q (zq_m1 l (by omega))
    · rw [if_neg q]
      exact zRl.sp2 h hp k (i + 1) _ _ _ (by omega) (Or.inl ⟨i, by omega, rfl, fun S => h.lfAny hp (by omega) S F⟩)
theorem noonM_5 : noonM f n 5 = f 5 + (n1M f n).1 := by
  have e1 : (n1M f n).2 5 = f 5 := by
    unfold n1M
    split
    · split
      · rfl
      · dsimp only
        rw [zu_ne (by decide)]
        unfold biteM bite2M
        rw [zu_ne (by omega)]
        unfold bite1M
        split
        · rw [zu_ne (by omega)]
        · rfl
    · show upd f 3 (f 3 - nI 1) 5 = f 5
      exact zu_ne (by decide)
  unfold noonM n4M n3M n2M
  rw [zu_ne (by decide), zu_ne (by decide), zu_eq, e1]
theorem zdrM_5 {X : Nat} : zdrM f n X 5 = f 5 := by
  unfold zdrM
  split
  · exact zu_ne (by omega)
  · split
    · exact zu_ne (by omega)
    · rfl
end ZR9
