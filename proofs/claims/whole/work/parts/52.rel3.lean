section ZR3
variable {S T : zS} {f : zF} {n p : Nat} {x : Int32}
theorem zu_swap {f : zF} {i j : Nat} {a b : Int32} (h : i ≠ j) : upd (upd f i a) j b = upd (upd f j b) i a := by
  funext k
  unfold upd
  by_cases h1 : k = j
  · rw [if_pos h1, if_neg (by omega), if_pos h1]
  · rw [if_neg h1]
    by_cases h2 : k = i
    · rw [if_pos h2, if_pos h2]
    · rw [if_neg h2, if_neg h2, if_neg h1]
theorem zu_same {f : zF} {i : Nat} : upd f i (f i) = f := by
  funext k
  unfold upd
  split
  · rename_i h; rw [h]
  · rfl
/-- what is lost, and whose: class and reference -/
theorem zRl.lost (h : zRl T f n) (hp : p < n) (hl : ¬ T 4 p = 0) :
    loserC T n p = whoM f n p ∧ whoM f n p < n ∧ ∃ w, w < 10 ∧ T 4 (whoM f n p) = nI w ∧
    ((spatC T p = false ∧ bite1M f p = f ∧ lostM f n p = zmin (biteOfC T p) (T 4 (whoM f n p)) ∧ ∃ a, a < 10 ∧ a ≤ w ∧ lostM f n p = nI a) ∨
     (spatC T p = true ∧ lostM f n p = nI 0 ∧ bite1M f p = upd f (6 + 5 * p + 1) (zmin (T 2 p + nI 1) (nI 9)) ∧ zN 9 (zmin (T 2 p + nI 1) (nI 9)))) := by
  have hlend := h.lend hp (n - 1) (by omega)
  obtain ⟨h6, hn, h0, hr, -, -, -, -, hq⟩ := h
  obtain ⟨e1, e2, -, e4, -⟩ := hr p hp
  obtain ⟨⟨k, k1, k5, ek⟩, ⟨c, hc, ec⟩, -, ⟨l, l9, el⟩⟩ := hq p hp
  have hw : loserC T n p = whoM f n p := by unfold loserC whoM; rw [e1, hlend]
  have hwn : whoM f n p < n := by
    unfold whoM
    split
    · exact zlend_lt hp _
    · exact hp
  obtain ⟨-, -, -, ⟨w, w9, ew⟩⟩ := hq _ hwn
  have e4w : f (6 + 5 * whoM f n p + 3) = T 4 (whoM f n p) := (hr _ hwn).2.2.2.1
  refine ⟨hw, hwn, w, by omega, ew, ?_⟩
  rw [ek] at e1
  rw [el] at e4 hl
  rcases (show k = 1 ∨ k = 2 ∨ k = 3 ∨ k = 4 ∨ k = 5 by omega) with rfl | rfl | rfl | rfl | rfl
  · have wp : whoM f n p = p := if_neg (by rw [e1]; decide)
    rw [wp, el] at ew
    have wl : l = w := (nI_eq (by omega) (by omega)).mp ew
    subst wl
    have eb : biteOfC T p = T 4 p := by unfold biteOfC; rw [if_neg (by rw [ek]; decide), if_neg (by rw [ek]; decide)]
    have es : spatC T p = false := by unfold spatC; rw [ek, decide_eq_false (show ¬ nI 1 = nI 2 by decide)]; rfl
    have eu : bite1M f p = f := if_neg (fun z => absurd (e1.symm.trans z.1) (by decide))
    have ex : lostM f n p = nI l := by unfold lostM; rw [if_pos e1, e4]
    exact Or.inl ⟨es, eu, by rw [ex, eb, wp, el, (zq_min l (by omega) l (by omega)).2], l, by omega, Nat.le_refl _, ex⟩
  · have wp : whoM f n p = p := if_neg (by rw [e1]; decide)
    rw [wp, el] at ew
    have wl : l = w := (nI_eq (by omega) (by omega)).mp ew
    subst wl
    have eb : biteOfC T p = T 4 p := by unfold biteOfC; rw [if_neg (by rw [ek]; decide), if_neg (by rw [ek]; decide)]
    have eo : oddM f p = !decide (T 4 p - T 4 p / nI 2 * nI 2 = 0) := by
      unfold oddM
      rw [e4, el]
      by_cases z : nI l - nI l / nI 2 * nI 2 = 0
      · rw [decide_eq_false (fun q => (zq_odd l (by omega)).mp q z), decide_eq_true z]; rfl
      · rw [decide_eq_true ((zq_odd l (by omega)).mpr z), decide_eq_false z]; rfl
    have es : spatC T p = oddM f p := by unfold spatC; rw [ek, decide_eq_true (show nI 2 = nI 2 from rfl), eo]; rfl
    have ex : lostM f n p = if oddM f p = true then nI 0 else nI l := by unfold lostM; rw [if_neg (show ¬ f (6 + 5 * p) = nI 1 by rw [e1]; decide), if_pos e1, e4]
    rcases ho : oddM f p with _ | _
    · have eu : bite1M f p = f := if_neg (fun z => by rw [ho] at z; exact absurd z.2 (by decide))
      have ex2 : lostM f n p = nI l := by rw [ex, ho]; rfl
      exact Or.inl ⟨es.trans ho, eu, by rw [ex2, eb, wp, el, (zq_min l (by omega) l (by omega)).2], l, by omega, Nat.le_refl _, ex2⟩
    · have ex2 : lostM f n p = nI 0 := by rw [ex, ho]; rfl
      obtain ⟨u1, j, hj, u2⟩ := zq_up c (by omega)
      have eu : bite1M f p = upd f (6 + 5 * p + 1) (zmin (T 2 p + nI 1) (nI 9)) := by
        unfold bite1M
        rw [if_pos ⟨e1, ho⟩, e2, ec, ← u1]
      exact Or.inr ⟨es.trans ho, ex2, eu, by rw [ec]; exact ⟨j, by omega, u2⟩⟩
  · have eb : biteOfC T p = T 4 p := by unfold biteOfC; rw [if_neg (by rw [ek]; decide), if_neg (by rw [ek]; decide)]
    have es : spatC T p = false := by unfold spatC; rw [ek, decide_eq_false (show ¬ nI 3 = nI 2 by decide)]; rfl
    have eu : bite1M f p = f := if_neg (fun z => absurd (e1.symm.trans z.1) (by decide))
    have ex : lostM f n p = if nI w < nI l then nI w else nI l := by unfold lostM; rw [if_neg (show ¬ f (6 + 5 * p) = nI 1 by rw [e1]; decide), if_neg (show ¬ f (6 + 5 * p) = nI 2 by rw [e1]; decide), if_pos e1, e4w, ew, e4]
    have hm := (zq_min l (by omega) w (by omega)).1
    refine Or.inl ⟨es, eu, by rw [ex, eb, el, ew, hm], ?_⟩
    by_cases z : nI w < nI l
    · exact ⟨w, by omega, Nat.le_refl _, by rw [ex, if_pos z]⟩
    · refine ⟨l, by omega, ?_, by rw [ex, if_neg z]⟩
      rcases Nat.lt_or_ge w l with q | q
      · exact absurd (nI_lt q (by omega)) z
      · exact q
  · have wp : whoM f n p = p := if_neg (by rw [e1]; decide)
    rw [wp, el] at ew
    have wl : l = w := (nI_eq (by omega) (by omega)).mp ew
    subst wl
    have eb : biteOfC T p = (T 4 p + nI 1) / nI 2 := by unfold biteOfC; rw [if_pos ek]
    have es : spatC T p = false := by unfold spatC; rw [ek, decide_eq_false (show ¬ nI 4 = nI 2 by decide)]; rfl
    have eu : bite1M f p = f := if_neg (fun z => absurd (e1.symm.trans z.1) (by decide))
    have ex : lostM f n p = (nI l + nI 1) / nI 2 := by unfold lostM; rw [if_neg (show ¬ f (6 + 5 * p) = nI 1 by rw [e1]; decide), if_neg (show ¬ f (6 + 5 * p) = nI 2 by rw [e1]; decide), if_neg (show ¬ f (6 + 5 * p) = nI 3 by rw [e1]; decide), if_pos e1, e4]
    obtain ⟨u1, a, ha, u2, u3⟩ := zq_half l (by omega)
    exact Or.inl ⟨es, eu, by rw [ex, eb, wp, el, u1], a, ha, u3, ex.trans u2⟩
  · have wp : whoM f n p = p := if_neg (by rw [e1]; decide)
    rw [wp, el] at ew
    have wl : l = w := (nI_eq (by omega) (by omega)).mp ew
    subst wl
    have eb : biteOfC T p = nI 1 := by unfold biteOfC; rw [if_neg (by rw [ek]; decide), if_pos ek]
    have es : spatC T p = false := by unfold spatC; rw [ek, decide_eq_false (show ¬ nI 5 = nI 2 by decide)]; rfl
    have eu : bite1M f p = f := if_neg (fun z => absurd (e1.symm.trans z.1) (by decide))
    have ex : lostM f n p = nI 1 := by unfold lostM; rw [if_neg (show ¬ f (6 + 5 * p) = nI 1 by rw [e1]; decide), if_neg (show ¬ f (6 + 5 * p) = nI 2 by rw [e1]; decide), if_neg (show ¬ f (6 + 5 * p) = nI 3 by rw [e1]; decide), if_neg (show ¬ f (6 + 5 * p) = nI 4 by rw [e1]; decide)]
    have l1 : 1 ≤ l := by
      rcases Nat.eq_zero_or_pos l with q | q
      · subst q; exact absurd rfl hl
      · exact q
    exact Or.inl ⟨es, eu, by rw [ex, eb, wp, el, zq_one l (by omega) hl], 1, by omega, l1, ex⟩
end ZR3
