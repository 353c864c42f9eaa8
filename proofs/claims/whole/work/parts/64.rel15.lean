section ZRf
variable {S T : zS} {F B : zF} {n L a : Nat} {y : zY} {c lo hi : Int32}
/-- the reference stands at a, no fault yet -/
def zAt (B : zF) (L a : Nat) (y : zY) : Prop := y.1 = (zTk B L a).2.2 ∧ y.2.1 = a ∧ y.2.2.1 = (zTk B L a).1 ∧ y.2.2.2.1 = (zTk B L a).2.1 ∧ y.2.2.2.2.1 = 0
/-- it has a fault w, at a -/
def zFd (w : Int32) (a : Nat) (y : zY) : Prop := y.2.2.2.2.1 = w ∧ y.2.2.2.2.2 = nI a ∧ ¬ w ≤ 0
theorem zNxT_at (h : y.2.2.2.2.1 = 0) : zAt B L y.1 (zNxT B L y) := ⟨rfl, rfl, rfl, rfl, h⟩
theorem zBd_at {k : Int32} (h : y.2.2.2.2.1 = 0) (hk : ¬ k ≤ 0) : zFd k y.2.1 (zBd k y) := by
  unfold zBd
  rw [if_pos h]
  exact ⟨rfl, rfl, hk⟩
theorem zBd_st {k : Int32} (h : ¬ y.2.2.2.2.1 = 0) : zBd k y = y := if_neg h
theorem zMu_t (h : y.2.2.2.2.1 = 0) : zMu B L true y = zNxT B L y := by
  unfold zMu
  rw [if_pos rfl]
  exact if_pos h
theorem zMu_ff (h : y.2.2.2.2.1 = 0) : zMu B L false y = zBd (nI 1) y := by
  unfold zMu
  rw [if_neg (show ¬ (false = true) by decide)]
  exact if_neg (fun z => by
    have := (zBd_at (k := nI 1) h (by decide)).1
    rw [this] at z
    exact absurd z (by decide))
theorem zMu_st {b : Bool} (h : ¬ y.2.2.2.2.1 = 0) : zMu B L b y = y := by
  unfold zMu
  rw [zBd_st h]
  cases b
  · exact if_neg h
  · exact if_neg h
theorem zSg_st (h : ¬ y.2.2.2.2.1 = 0) : zSg B L c y = y := zMu_st h
theorem zNu_st (h : ¬ y.2.2.2.2.1 = 0) : (zNu B L lo hi y).2 = y := by
  have e1 : zNu1 y = y := if_neg (fun z => h z.1)
  have e2 : zNu2 lo hi y = y := if_neg (fun z => h z.1)
  show zMu B L true (zNu2 lo hi (zNu1 y)) = y
  rw [e1, e2, zMu_st h]
theorem zFd.ne {w : Int32} (h : zFd w a y) : ¬ y.2.2.2.2.1 = 0 := by
  rw [h.1]
  intro e
  apply h.2.2
  rw [e]
  decide
theorem zFa_st (h : ¬ y.2.2.2.2.1 = 0) : zFa y = y := if_neg (fun z => h z.1)
theorem zTk_1 : (zTk B L a).1 = nI 4 → (zTk B L a).2.1 = zby B L a := by
  unfold zTk zby
  by_cases ha : a < L
  · rw [if_pos ha, if_pos ha]
    by_cases l : nI 97 ≤ B a ∧ B a ≤ nI 122
    · rw [if_pos l]; intro _; rfl
    · rw [if_neg l]
      by_cases d : nI 48 ≤ B a ∧ B a ≤ nI 57
      · rw [if_pos d]
        intro e
        dsimp only at e
        split at e
        · exact absurd e (by decide)
        · exact absurd e (by decide)
      · rw [if_neg d]
        by_cases s : B a = nI 44 ∨ B a = nI 59
        · rw [if_pos s]; intro _; rfl
        · rw [if_neg s]; intro _; rfl
  · rw [if_neg ha, if_neg ha]
    intro e
    exact absurd e (show ¬ (nI 1 : Int32) = nI 4 by decide)
theorem zTk_2 : (zTk B L a).1 = nI 2 → (zTk B L a).2.1 = zby B L a := by
  unfold zTk zby
  by_cases ha : a < L
  · rw [if_pos ha, if_pos ha]
    by_cases l : nI 97 ≤ B a ∧ B a ≤ nI 122
    · rw [if_pos l]; intro _; rfl
    · rw [if_neg l]
      by_cases d : nI 48 ≤ B a ∧ B a ≤ nI 57
      · rw [if_pos d]
        intro e
        dsimp only at e
        split at e
        · exact absurd e (by decide)
        · exact absurd e (by decide)
      · rw [if_neg d]
        by_cases s : B a = nI 44 ∨ B a = nI 59
        · rw [if_pos s]; intro _; rfl
        · rw [if_neg s]; intro _; rfl
  · rw [if_neg ha, if_neg ha]
    intro e
    exact absurd e (show ¬ (nI 1 : Int32) = nI 2 by decide)
theorem zTk_sg (hc : c = nI 44 ∨ c = nI 59) (e : zby B L a = c) : zTk B L a = (nI 4, c, a + 1) := by
  unfold zby at e
  by_cases ha : a < L
  · rw [if_pos ha] at e
    unfold zTk
    rw [if_pos ha, e]
    rcases hc with rfl | rfl
    · rw [if_neg (by decide), if_neg (by decide), if_pos (Or.inl rfl)]
    · rw [if_neg (by decide), if_neg (by decide), if_pos (Or.inr rfl)]
  · rw [if_neg ha] at e
    rcases hc with rfl | rfl
    · exact absurd e (by decide)
    · exact absurd e (by decide)
theorem zTk_lt (hc : nI 97 ≤ zby B L a ∧ zby B L a ≤ nI 122) : zTk B L a = (nI 2, zby B L a, a + 1) ∧ a < L := by
  by_cases ha : a < L
  · have e : zby B L a = B a := if_pos ha
    rw [e] at hc ⊢
    unfold zTk
    rw [if_pos ha, if_pos hc]
    exact ⟨rfl, ha⟩
  · have e : zby B L a = -1 := if_neg ha
    rw [e] at hc
    exact absurd hc (by decide)
theorem rd_sign (hc : c = nI 44 ∨ c = nI 59) (h : zAt B L a y) {nu f fa : Int32} : (zrB B L c (S, a, nu, f, fa) = (true, (S, a + 1, nu, f, fa)) ∧ zAt B L (a + 1) (zSg B L c y)) ∨ (zrB B L c (S, a, nu, f, fa) = (false, (S, a, nu, nI 1, nI a)) ∧ zFd (nI 1) a (zSg B L c y)) := by
  obtain ⟨h1, h2, h3, h4, h5⟩ := h
  by_cases e : zby B L a = c
  · have t := zTk_sg hc e
    rw [t] at h1 h3 h4
    refine Or.inl ⟨if_pos e, ?_⟩
    unfold zSg
    rw [decide_eq_true ⟨h3, h4⟩, zMu_t h5]
    have := zNxT_at (B := B) (L := L) h5
    rw [h1] at this
    exact this
  · refine Or.inr ⟨if_neg e, ?_⟩
    have no : ¬ (y.2.2.1 = nI 4 ∧ y.2.2.2.1 = c) := fun ⟨z1, z2⟩ => by
      rw [h3] at z1
      exact e ((zTk_1 z1).symm.trans (h4.symm.trans z2))
    unfold zSg
    rw [decide_eq_false no, zMu_ff h5]
    have := zBd_at (k := nI 1) h5 (by decide)
    rw [h2] at this
    exact this
theorem rd_c (h : zAt B L a y) {nu f fa : Int32} : (zrB B L (nI 99) (S, a, nu, f, fa) = (true, (S, a + 1, nu, f, fa)) ∧ zAt B L (a + 1) (zMu B L (decide (y.2.2.2.2.1 = 0 ∧ y.2.2.1 = nI 2 ∧ y.2.2.2.1 = nI 99)) y)) ∨ (zrB B L (nI 99) (S, a, nu, f, fa) = (false, (S, a, nu, nI 1, nI a)) ∧ zFd (nI 1) a (zMu B L (decide (y.2.2.2.2.1 = 0 ∧ y.2.2.1 = nI 2 ∧ y.2.2.2.1 = nI 99)) y)) := by
  obtain ⟨h1, h2, h3, h4, h5⟩ := h
  by_cases e : zby B L a = nI 99
  · have t := (zTk_lt (B := B) (L := L) (a := a) (by rw [e]; decide)).1
    rw [t] at h1 h3 h4
    refine Or.inl ⟨if_pos e, ?_⟩
    rw [decide_eq_true ⟨h5, h3, h4.trans e⟩, zMu_t h5]
    have := zNxT_at (B := B) (L := L) h5
    rw [h1] at this
    exact this
  · refine Or.inr ⟨if_neg e, ?_⟩
    have no : ¬ (y.2.2.2.2.1 = 0 ∧ y.2.2.1 = nI 2 ∧ y.2.2.2.1 = nI 99) := fun ⟨_, z1, z2⟩ => by
      rw [h3] at z1
      exact e ((zTk_2 z1).symm.trans (h4.symm.trans z2))
    rw [decide_eq_false no, zMu_ff h5]
    have := zBd_at (k := nI 1) h5 (by decide)
    rw [h2] at this
    exact this
abbrev zDg (B : zF) (L a : Nat) : Prop := a < L ∧ (nI 48 ≤ B a ∧ B a ≤ nI 57)
theorem zfig_iff : zfig (zby B L a) = true ↔ zDg B L a := by
  unfold zfig zby
  by_cases ha : a < L
  · rw [if_pos ha, decide_eq_true_eq]
    exact ⟨fun z => ⟨ha, z⟩, fun z => z.2⟩
  · rw [if_neg ha]
    exact ⟨fun z => absurd z (by decide), fun z => absurd z.1 ha⟩
theorem nm_0 (h : ¬ zDg B L a) : zcF B L a 3 0 = 0 ∧ ¬ (zTk B L a).1 = nI 3 := by
  constructor
  · exact if_neg (mt zfig_iff.mp h)
  · unfold zTk
    by_cases ha : a < L
    · rw [if_pos ha]
      by_cases l : nI 97 ≤ B a ∧ B a ≤ nI 122
      · rw [if_pos l]; exact (show ¬ (nI 2 : Int32) = nI 3 by decide)
      · rw [if_neg l, if_neg (fun d => h ⟨ha, d⟩)]
        split
        · exact (show ¬ (nI 4 : Int32) = nI 3 by decide)
        · exact (show ¬ (nI 0 : Int32) = nI 3 by decide)
    · rw [if_neg ha]; exact (show ¬ (nI 1 : Int32) = nI 3 by decide)
theorem dg_l {x : Int32} (h : nI 48 ≤ x ∧ x ≤ nI 57) : ¬ (nI 97 ≤ x ∧ x ≤ nI 122) := fun z => by
  have := Int32.le_trans z.1 h.2
  exact absurd this (by decide)
theorem nm_1 (h : zDg B L a) (h1 : ¬ zDg B L (a + 1)) : zcF B L a 3 0 = 1 ∧ zTk B L a = (nI 3, B a - nI 48, a + 1) := by
  have e0 : zfig (zby B L (a + 0)) = true := zfig_iff.mpr h
  have e1 : ¬ zfig (zby B L (a + (0 + 1))) = true := mt zfig_iff.mp h1
  constructor
  · show (if zfig (zby B L (a + 0)) = true then zcF B L a 2 (0 + 1) else 0) = 1
    rw [if_pos e0]
    exact if_neg e1
  · have ez : zdl B L a 90 (a + 1) (B a - nI 48) = (a + 1, B a - nI 48) := if_neg h1
    unfold zTk
    rw [if_pos h.1, if_neg (dg_l h.2), if_pos h.2, ez]
    dsimp only
    rw [if_pos (by omega)]
theorem nm_2 (h : zDg B L a) (h1 : zDg B L (a + 1)) (h2 : ¬ zDg B L (a + 2)) : zcF B L a 3 0 = 2 ∧ zTk B L a = (nI 3, nI 10 * (B a - nI 48) + B (a + 1) - nI 48, a + 2) := by
  have e0 : zfig (zby B L (a + 0)) = true := zfig_iff.mpr h
  have e1 : zfig (zby B L (a + (0 + 1))) = true := zfig_iff.mpr h1
  have e2 : ¬ zfig (zby B L (a + (0 + 1 + 1))) = true := mt zfig_iff.mp h2
  constructor
  · show (if zfig (zby B L (a + 0)) = true then (if zfig (zby B L (a + (0 + 1))) = true then zcF B L a 1 (0 + 1 + 1) else 0 + 1) else 0) = 2
    rw [if_pos e0, if_pos e1]
    exact if_neg e2
  · have ez : zdl B L a 90 (a + 1) (B a - nI 48) = (a + 2, nI 10 * (B a - nI 48) + B (a + 1) - nI 48) := by
      show (if (a + 1) < L ∧ (nI 48 ≤ B (a + 1) ∧ B (a + 1) ≤ nI 57) then zdl B L a 89 (a + 1 + 1) (if a + 1 - a < 2 then nI 10 * (B a - nI 48) + B (a + 1) - nI 48 else (B a - nI 48)) else _) = _
      rw [if_pos h1, if_pos (by omega)]
      exact if_neg h2
    unfold zTk
    rw [if_pos h.1, if_neg (dg_l h.2), if_pos h.2, ez]
    dsimp only
    rw [if_pos (by omega)]
theorem nm_3 (h : zDg B L a) (h1 : zDg B L (a + 1)) (h2 : zDg B L (a + 2)) : zcF B L a 3 0 = 3 ∧ ¬ (zTk B L a).1 = nI 3 := by
  have e0 : zfig (zby B L (a + 0)) = true := zfig_iff.mpr h
  have e1 : zfig (zby B L (a + (0 + 1))) = true := zfig_iff.mpr h1
  have e2 : zfig (zby B L (a + (0 + 1 + 1))) = true := zfig_iff.mpr h2
  constructor
  · show (if zfig (zby B L (a + 0)) = true then (if zfig (zby B L (a + (0 + 1))) = true then (if zfig (zby B L (a + (0 + 1 + 1))) = true then 0 + 1 + 1 + 1 else 0 + 1 + 1) else 0 + 1) else 0) = 3
    rw [if_pos e0, if_pos e1, if_pos e2]
  · have hl := h2.1
    have ez : a + 3 ≤ (zdl B L a 90 (a + 1) (B a - nI 48)).1 := by
      have e : zdl B L a 90 (a + 1) (B a - nI 48) = zdl B L a 88 (a + 1 + 1 + 1) (if a + 1 + 1 - a < 2 then nI 10 * (if a + 1 - a < 2 then nI 10 * (B a - nI 48) + B (a + 1) - nI 48 else (B a - nI 48)) + B (a + 1 + 1) - nI 48 else (if a + 1 - a < 2 then nI 10 * (B a - nI 48) + B (a + 1) - nI 48 else (B a - nI 48))) := by
        show (if (a + 1) < L ∧ (nI 48 ≤ B (a + 1) ∧ B (a + 1) ≤ nI 57) then (if (a + 1 + 1) < L ∧ (nI 48 ≤ B (a + 1 + 1) ∧ B (a + 1 + 1) ≤ nI 57) then _ else _) else _) = _
        rw [if_pos h1, if_pos (show a + 1 + 1 < L ∧ (nI 48 ≤ B (a + 1 + 1) ∧ B (a + 1 + 1) ≤ nI 57) from h2)]
      rw [e]
      exact (zdl_le (by omega)).2
    unfold zTk
    rw [if_pos h.1, if_neg (dg_l h.2), if_pos h.2]
    dsimp only
    rw [if_neg (by omega)]
    decide
theorem zv1 : zvF B L a 1 = zby B L a - nI 48 := by
  show nI 0 * nI 10 + zby B L (a + 0) - nI 48 = _
  rw [show nI 0 * nI 10 = (0 : Int32) from rfl, Int32.zero_add]
  rfl
theorem rd_num (h : zAt B L a y) {nu f fa : Int32} : (∃ (b : Nat) (v : Int32), zrN B L lo hi (S, a, nu, f, fa) = (true, (S, b, v, f, fa)) ∧ (zNu B L lo hi y).1 = v ∧ zAt B L b (zNu B L lo hi y).2 ∧ lo ≤ v ∧ v ≤ hi ∧ a < b) ∨ (∃ w, zrN B L lo hi (S, a, nu, f, fa) = (false, (S, a, nu, w, nI a)) ∧ zFd w a (zNu B L lo hi y).2) := by
  obtain ⟨h1, h2, h3, h4, h5⟩ := h
  have bad1 : ¬ (zTk B L a).1 = nI 3 → zFd (nI 1) a (zNu B L lo hi y).2 := fun q => by
    have e1 : zNu1 y = zBd (nI 1) y := if_pos ⟨h5, by rw [h3]; exact q⟩
    have z := zBd_at (k := nI 1) h5 (by decide)
    have e2 : zNu2 lo hi (zBd (nI 1) y) = zBd (nI 1) y := if_neg (fun q => z.ne q.1)
    show zFd (nI 1) a (zMu B L true (zNu2 lo hi (zNu1 y)))
    rw [e1, e2, zMu_st z.ne, ← h2]
    exact z
  have good : ∀ (v : Int32) (b : Nat), zTk B L a = (nI 3, v, b) → (lo ≤ v ∧ v ≤ hi → (zNu B L lo hi y).1 = v ∧ zAt B L b (zNu B L lo hi y).2) ∧ (¬ (lo ≤ v ∧ v ≤ hi) → zFd (nI 2) a (zNu B L lo hi y).2) := fun v b t => by
    rw [t] at h1 h3 h4
    have e1 : zNu1 y = y := if_neg (fun q => q.2 h3)
    constructor
    · intro r
      have e2 : zNu2 lo hi y = y := if_neg (fun q => q.2 (by rw [h4]; exact r))
      constructor
      · show (if (zNu2 lo hi (zNu1 y)).2.2.2.2.1 = 0 then (zNu2 lo hi (zNu1 y)).2.2.2.1 else lo) = v
        rw [e1, e2, if_pos h5, h4]
      · show zAt B L b (zMu B L true (zNu2 lo hi (zNu1 y)))
        rw [e1, e2, zMu_t h5]
        have := zNxT_at (B := B) (L := L) h5
        rw [h1] at this
        exact this
    · intro r
      have e2 : zNu2 lo hi y = zBd (nI 2) y := if_pos ⟨h5, by rw [h4]; exact r⟩
      have z := zBd_at (k := nI 2) h5 (by decide)
      show zFd (nI 2) a (zMu B L true (zNu2 lo hi (zNu1 y)))
      rw [e1, e2, zMu_st z.ne, ← h2]
      exact z
  by_cases d0 : zDg B L a
  · by_cases d1 : zDg B L (a + 1)
    · by_cases d2 : zDg B L (a + 2)
      · obtain ⟨c3, t3⟩ := nm_3 d0 d1 d2
        refine Or.inr ⟨nI 1, ?_, bad1 t3⟩
        show (if zcF B L a 3 0 = 0 then _ else if 2 < zcF B L a 3 0 then _ else _) = _
        rw [c3, if_neg (by decide), if_pos (by decide)]
        rfl
      · obtain ⟨c2, t2⟩ := nm_2 d0 d1 d2
        have ev : zvF B L a 2 = nI 10 * (B a - nI 48) + B (a + 1) - nI 48 := by
          show zvF B L a 1 * nI 10 + zby B L (a + 1) - nI 48 = _
          rw [zv1, show zby B L a = B a from if_pos d0.1, show zby B L (a + 1) = B (a + 1) from if_pos d1.1, Int32.mul_comm]
        obtain ⟨g1, g2⟩ := good _ _ t2
        have er : zrN B L lo hi (S, a, nu, f, fa) = if lo ≤ nI 10 * (B a - nI 48) + B (a + 1) - nI 48 ∧ nI 10 * (B a - nI 48) + B (a + 1) - nI 48 ≤ hi then (true, (S, a + 2, nI 10 * (B a - nI 48) + B (a + 1) - nI 48, f, fa)) else (false, (S, a, nu, nI 2, nI a)) := by
          show (if zcF B L a 3 0 = 0 then _ else if 2 < zcF B L a 3 0 then _ else if lo ≤ zvF B L a (zcF B L a 3 0) ∧ zvF B L a (zcF B L a 3 0) ≤ hi then (true, (S, a + zcF B L a 3 0, zvF B L a (zcF B L a 3 0), f, fa)) else _) = _
          rw [c2, if_neg (by decide), if_neg (by decide), ev]
          rfl
        by_cases r : lo ≤ nI 10 * (B a - nI 48) + B (a + 1) - nI 48 ∧ nI 10 * (B a - nI 48) + B (a + 1) - nI 48 ≤ hi
        · rw [if_pos r] at er
          exact Or.inl ⟨_, _, er, (g1 r).1, (g1 r).2, r.1, r.2, by omega⟩
        · rw [if_neg r] at er
          exact Or.inr ⟨_, er, g2 r⟩
    · obtain ⟨c1, t1⟩ := nm_1 d0 d1
      have ev : zvF B L a 1 = B a - nI 48 := by rw [zv1, show zby B L a = B a from if_pos d0.1]
      obtain ⟨g1, g2⟩ := good _ _ t1
      have er : zrN B L lo hi (S, a, nu, f, fa) = if lo ≤ B a - nI 48 ∧ B a - nI 48 ≤ hi then (true, (S, a + 1, B a - nI 48, f, fa)) else (false, (S, a, nu, nI 2, nI a)) := by
        show (if zcF B L a 3 0 = 0 then _ else if 2 < zcF B L a 3 0 then _ else if lo ≤ zvF B L a (zcF B L a 3 0) ∧ zvF B L a (zcF B L a 3 0) ≤ hi then (true, (S, a + zcF B L a 3 0, zvF B L a (zcF B L a 3 0), f, fa)) else _) = _
        rw [c1, if_neg (by decide), if_neg (by decide), ev]
        rfl
      by_cases r : lo ≤ B a - nI 48 ∧ B a - nI 48 ≤ hi
      · rw [if_pos r] at er
        exact Or.inl ⟨_, _, er, (g1 r).1, (g1 r).2, r.1, r.2, by omega⟩
      · rw [if_neg r] at er
        exact Or.inr ⟨_, er, g2 r⟩
  · obtain ⟨c0, t0⟩ := nm_0 d0
    refine Or.inr ⟨nI 1, ?_, bad1 t0⟩
    show (if zcF B L a 3 0 = 0 then _ else _) = _
    rw [c0, if_pos rfl]
    rfl
end ZRf
