section ZR2
variable {S : zS} {f : zF} {n p : Nat} {x : Int32}
theorem zu_eq {f : zF} {i : Nat} {x : Int32} : upd f i x i = x := if_pos rfl
theorem zs_ne {S : zS} {a i b k : Nat} {x : Int32} (h : ¬ (b = a ∧ k = i)) : zsu S a i x b k = S b k := by rw [zsu_at, if_neg h]
theorem zs_eq {S : zS} {a i : Nat} {x : Int32} : zsu S a i x a i = x := by rw [zsu_at, if_pos ⟨rfl, rfl⟩]
theorem hid_ne {S : zS} {a i q : Nat} {x : Int32} (h : ¬ (0 = a ∧ 6 = i)) : hidC (zsu S a i x) q = hidC S q := by
  unfold hidC; rw [zs_ne h]
theorem zRl.u78 (h : zRl S f n) {i : Nat} (hi : i = 7 ∨ i = 8) : zRl (zsu S 0 i x) f n := by
  obtain ⟨h6, hn, h0, hp, hc, hd, hr, ⟨b, hb, eb⟩, hq⟩ := h
  refine ⟨h6, by rw [zs_ne (by omega)]; exact hn, fun k hk => by rw [zs_ne (by omega)]; exact h0 k hk, fun q hq2 => ?_, by rw [zs_ne (by omega)]; exact hc, by rw [zs_ne (by omega)]; exact hd, by rw [zs_ne (by omega)]; exact hr, ⟨b, hb, by rw [zs_ne (by omega)]; exact eb⟩, fun q hq2 => ?_⟩
  · rw [hid_ne (by omega), zs_ne (by omega), zs_ne (by omega), zs_ne (by omega), zs_ne (by omega)]; exact hp q hq2
  · rw [zs_ne (by omega), zs_ne (by omega), zs_ne (by omega), zs_ne (by omega)]; exact hq q hq2
theorem zRl.u0 (h : zRl S f n) {i : Nat} (hi : i < 6) (h1 : i = 1 → zN 9 x) (h3 : i = 3 → zN 4 x) (h02 : i ≠ 0 ∧ i ≠ 2) : zRl (zsu S 0 i x) (upd f i x) n := by
  obtain ⟨h6, hn, h0, hp, hc, hd, hr, ⟨b, hb, eb⟩, hq⟩ := h
  refine ⟨h6, by rw [zs_ne (by omega)]; exact hn, fun k hk => ?_, fun q hq2 => ?_, ?_, by rw [zs_ne (by omega)]; exact hd, ?_, ⟨b, hb, by rw [zs_ne (by omega)]; exact eb⟩, fun q hq2 => ?_⟩
  · by_cases e : k = i
    · rw [e, zu_eq, zs_eq]
    · rw [zu_ne e, zs_ne (by omega)]; exact h0 k hk
  · rw [hid_ne (by omega), zs_ne (by omega), zs_ne (by omega), zs_ne (by omega), zs_ne (by omega), zu_ne (by omega), zu_ne (by omega), zu_ne (by omega), zu_ne (by omega), zu_ne (by omega)]; exact hp q hq2
  · by_cases e : i = 1
    · subst e; rw [zs_eq]; exact h1 rfl
    · rw [zs_ne (by omega)]; exact hc
  · by_cases e : i = 3
    · subst e; rw [zs_eq]; exact h3 rfl
    · rw [zs_ne (by omega)]; exact hr
  · rw [zs_ne (by omega), zs_ne (by omega), zs_ne (by omega), zs_ne (by omega)]; exact hq q hq2
theorem zRl.u2 (h : zRl S f n) (hx : zN 9 x) : zRl (zsu S 2 p x) (upd f (6 + 5 * p + 1) x) n := by
  obtain ⟨h6, hn, h0, hp, hc, hd, hr, ⟨b, hb, eb⟩, hq⟩ := h
  refine ⟨h6, by rw [zs_ne (by omega)]; exact hn, fun k hk => by rw [zu_ne (by omega), zs_ne (by omega)]; exact h0 k hk, fun q hq2 => ?_, by rw [zs_ne (by omega)]; exact hc, by rw [zs_ne (by omega)]; exact hd, by rw [zs_ne (by omega)]; exact hr, ⟨b, hb, by rw [zs_ne (by omega)]; exact eb⟩, fun q hq2 => ?_⟩
  · obtain ⟨g1, g2, g3, g4, g5⟩ := hp q hq2
    refine ⟨by rw [zu_ne (by omega), zs_ne (by omega)]; exact g1, ?_, by rw [zu_ne (by omega), zs_ne (by omega)]; exact g3, ?_, by rw [zu_ne (by omega), hid_ne (by omega)]; exact g5⟩
    · by_cases e : q = p
      · rw [e, zu_eq, zs_eq]
      · rw [zu_ne (by omega), zs_ne (by omega)]; exact g2
    · rw [zu_ne (by omega), zs_ne (by omega)]; exact g4
  · obtain ⟨g1, g2, g3, g4⟩ := hq q hq2
    refine ⟨by rw [zs_ne (by omega)]; exact g1, ?_, by rw [zs_ne (by omega)]; exact g3, by rw [zs_ne (by omega)]; exact g4⟩
    by_cases e : q = p
    · rw [e, zs_eq]; exact hx
    · rw [zs_ne (by omega)]; exact g2
theorem zRl.u4 (h : zRl S f n) (hx : zN 9 x) : zRl (zsu S 4 p x) (upd f (6 + 5 * p + 3) x) n := by
  obtain ⟨h6, hn, h0, hp, hc, hd, hr, ⟨b, hb, eb⟩, hq⟩ := h
  refine ⟨h6, by rw [zs_ne (by omega)]; exact hn, fun k hk => by rw [zu_ne (by omega), zs_ne (by omega)]; exact h0 k hk, fun q hq2 => ?_, by rw [zs_ne (by omega)]; exact hc, by rw [zs_ne (by omega)]; exact hd, by rw [zs_ne (by omega)]; exact hr, ⟨b, hb, by rw [zs_ne (by omega)]; exact eb⟩, fun q hq2 => ?_⟩
  · obtain ⟨g1, g2, g3, g4, g5⟩ := hp q hq2
    refine ⟨by rw [zu_ne (by omega), zs_ne (by omega)]; exact g1, ?_, by rw [zu_ne (by omega), zs_ne (by omega)]; exact g3, ?_, by rw [zu_ne (by omega), hid_ne (by omega)]; exact g5⟩
    · rw [zu_ne (by omega), zs_ne (by omega)]; exact g2
    · by_cases e : q = p
      · rw [e, zu_eq, zs_eq]
      · rw [zu_ne (by omega), zs_ne (by omega)]; exact g4
  · obtain ⟨g1, g2, g3, g4⟩ := hq q hq2
    refine ⟨by rw [zs_ne (by omega)]; exact g1, by rw [zs_ne (by omega)]; exact g2, by rw [zs_ne (by omega)]; exact g3, ?_⟩
    by_cases e : q = p
    · rw [e, zs_eq]; exact hx
    · rw [zs_ne (by omega)]; exact g4
theorem zq_clock : ∀ c, c < 10 → ∀ d, d < 3 → zfm (nI c + nI d - nI 1) (nI 10) = (nI c + nI d + nI 9) - (nI c + nI d + nI 9) / nI 10 * nI 10 ∧ ∃ k, k < 10 ∧ zfm (nI c + nI d - nI 1) (nI 10) = nI k := by decide +kernel
theorem zRl.n3 (h : zRl S f n) : zRl (noon4C S) (n3M f) n := by
  have h2 := h
  obtain ⟨h6, hn, h0, hp, ⟨c, hc, ec⟩, ⟨d, hd, ed⟩, -, -, -⟩ := h2
  obtain ⟨e, k, hk, ek⟩ := zq_clock c (by omega) d (by omega)
  unfold noon4C n3M
  rw [h0 1 (by decide), h0 2 (by decide), ec, ed, ← e]
  exact h.u0 (by decide) (fun _ => ⟨k, by omega, ek⟩) (fun q => absurd q (by decide)) ⟨by decide, by decide⟩
theorem zRl.n4 (h : zRl S f n) : zRl (noon5C S) (n4M f) n := by
  unfold noon5C n4M
  rw [h.2.2.1 4 (by decide)]
  exact h.u0 (by decide) (fun q => absurd q (by decide)) (fun q => absurd q (by decide)) ⟨by decide, by decide⟩
theorem zNx_el {el : Nat → Bool} {near lg : Nat → Int32} : ∀ {m b : Nat}, zNx el near lg m = some b → el b = true
  | 0, b, h => by simp [zNx] at h
  | m + 1, b, h => by
    unfold zNx at h
    split at h
    · split at h
      · cases h; assumption
      · cases h
    · rename_i c hc
      have := zNx_el hc
      split at h
      · rename_i q
        cases h
        exact (Bool.and_eq_true_iff.mp q).1
      · cases h; exact this
theorem zq_min : ∀ a, a < 10 → ∀ b, b < 10 → zmin (nI a) (nI b) = (if nI b < nI a then nI b else nI a) ∧ zmin (nI a) (nI a) = nI a := by decide +kernel
theorem zq_half : ∀ a, a < 10 → zmin ((nI a + nI 1) / nI 2) (nI a) = (nI a + nI 1) / nI 2 ∧ (∃ k, k < 10 ∧ (nI a + nI 1) / nI 2 = nI k ∧ k ≤ a) := by decide +kernel
theorem zq_one : ∀ a, a < 10 → ¬ nI a = 0 → zmin (nI 1) (nI a) = nI 1 := by decide +kernel
theorem zq_rest : ∀ a, a < 10 → zmax (nI 0) (nI a - nI 5) = (if nI a ≤ nI 5 then nI 0 else nI a - nI 5) ∧ ∃ k, k < 5 ∧ zmax (nI 0) (nI a - nI 5) = nI k := by decide +kernel
theorem zq_odd : ∀ a, a < 10 → (nI a - nI a / nI 2 * nI 2 = nI 1 ↔ ¬ nI a - nI a / nI 2 * nI 2 = 0) := by decide +kernel
theorem zq_up : ∀ a, a < 10 → zmin (nI a + nI 1) (nI 9) = (if nI a < nI 9 then nI a + nI 1 else nI 9) ∧ ∃ k, k < 10 ∧ zmin (nI a + nI 1) (nI 9) = nI k := by decide +kernel
theorem zq_sub : ∀ a, a < 10 → ∀ b, b < 10 → b ≤ a → ∃ k, k < 10 ∧ nI a - nI b = nI k := by decide +kernel
end ZR2
