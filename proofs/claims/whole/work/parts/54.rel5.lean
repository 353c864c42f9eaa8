section ZR5
variable {S T F : zS} {f g : zF} {n p : Nat} {x : Int32}
theorem zRl.take (h : zRl F g n) : zRl (takeC S F) (zly g f) n := by
  obtain ⟨h6, hn, h0, hp, hc, hd, hr, ⟨b, hb, eb⟩, hq⟩ := h
  have t0 : ∀ k, k < 7 → takeC S F 0 k = F 0 k := fun k hk => by unfold takeC; rw [if_pos rfl, if_pos hk]
  have tq : ∀ q k, 0 < q → q < 5 → k < 6 → takeC S F q k = F q k := fun q k q0 q5 hk => by unfold takeC; rw [if_neg (by omega), if_pos q5, if_pos hk]
  have th : ∀ q, hidC (takeC S F) q = hidC F q := fun q => by unfold hidC; rw [t0 6 (by decide)]
  refine ⟨h6, by rw [t0 0 (by decide)]; exact hn, fun k hk => by rw [zly_at (by omega), t0 k (by omega)]; exact h0 k hk, fun q hq2 => ?_, by rw [t0 1 (by decide)]; exact hc, by rw [t0 2 (by decide)]; exact hd, by rw [t0 3 (by decide)]; exact hr, ⟨b, hb, by rw [t0 6 (by decide)]; exact eb⟩, fun q hq2 => ?_⟩
  · rw [th, zly_at (by omega), zly_at (by omega), zly_at (by omega), zly_at (by omega), zly_at (by omega), tq 1 q (by decide) (by decide) (by omega), tq 2 q (by decide) (by decide) (by omega), tq 3 q (by decide) (by decide) (by omega), tq 4 q (by decide) (by decide) (by omega)]
    exact hp q hq2
  · rw [tq 1 q (by decide) (by decide) (by omega), tq 2 q (by decide) (by decide) (by omega), tq 3 q (by decide) (by decide) (by omega), tq 4 q (by decide) (by decide) (by omega)]
    exact hq q hq2
theorem zRl.lg (h : zRl S f n) (hp : p < n) : f (6 + 5 * p + 3) = S 4 p := (h.2.2.2.1 p hp).2.2.2.1
theorem zRl.at2 (h : zRl S f n) (hp : p < n) : f (6 + 5 * p + 1) = S 2 p := (h.2.2.2.1 p hp).2.1
theorem zRl.fb : ∀ (k i : Nat) {S : zS} {f : zF}, zRl S f n → (zfbL n (nI p) k (i + 1) S).1 = (zwhM n p k i f).1
  | 0, i, S, f, h => rfl
  | k + 1, i, S, f, h => by
    obtain ⟨h1, h7, -⟩ := h.noon
    unfold zfbL zwhM
    rw [h7]
    by_cases q : encO (nextM f n) = nI p
    · rw [if_pos q, if_pos q]
    · rw [if_neg q, if_neg q]
      exact zRl.fb k (i + 1) h1
theorem zq_or : ∀ m, m < 6 → ∀ h, h < 64 → h < 2 ^ m → nI h ||| (nI 1 <<< (nI m &&& 31)) = nI (h + 2 ^ m) := by decide +kernel
theorem zq_bit : ∀ m, m < 6 → ∀ h, h < 64 → h < 2 ^ m → (∀ p, p < m → ((h + 2 ^ m) / 2 ^ p % 2 = h / 2 ^ p % 2)) ∧ (h + 2 ^ m) / 2 ^ m % 2 = 1 ∧ h / 2 ^ m % 2 = 0 := by decide +kernel
theorem zbits_nat {c : Nat → Bool} : ∀ m, m ≤ 6 → ∃ h, h < 2 ^ m ∧ zbits c m = nI h ∧ ∀ p, p < m → (h / 2 ^ p % 2 = if c p then 1 else 0)
  | 0, _ => ⟨0, by decide, rfl, fun p hp => absurd hp (by omega)⟩
  | m + 1, hm => by
    obtain ⟨h, hh, eh, hp⟩ := zbits_nat (c := c) m (by omega)
    have h64 : h < 64 := Nat.lt_of_lt_of_le hh (Nat.pow_le_pow_right (by decide) (show m ≤ 6 by omega))
    obtain ⟨b1, b2, b3⟩ := zq_bit m (by omega) h h64 hh
    by_cases q : c m = true
    · refine ⟨h + 2 ^ m, by rw [Nat.pow_succ]; omega, ?_, fun p hpm => ?_⟩
      · unfold zbits
        rw [if_pos q, eh, zq_or m (by omega) h h64 hh]
      · by_cases e : p = m
        · subst e; rw [if_pos q]; exact b2
        · rw [b1 p (by omega)]; exact hp p (by omega)
    · refine ⟨h, by rw [Nat.pow_succ]; omega, ?_, fun p hpm => ?_⟩
      · unfold zbits
        rw [if_neg q, eh]
      · by_cases e : p = m
        · subst e; rw [if_neg q]; exact b3
        · exact hp p (by omega)
theorem zq_has : ∀ h, h < 64 → ∀ p, p < 6 → (nI h &&& (nI 1 <<< (nI p &&& 31)) = nI 1 <<< (nI p &&& 31) ↔ h / 2 ^ p % 2 = 1) := by decide +kernel
theorem zRl.nmlOne (h : zRl S f n) (hp : p < n) : (zNml S n &&& (nI 1 <<< (nI p &&& 31)) = nI 1 <<< (nI p &&& 31)) ↔ f (6 + 5 * p + 3) = 0 := by
  obtain ⟨b, hb, eb, hbp⟩ := zbits_nat (c := fun p => decide (S 4 p = 0)) n h.1
  have h64 : b < 64 := Nat.lt_of_lt_of_le hb (Nat.pow_le_pow_right (by decide) h.1)
  have h6 := h.1
  rw [show zNml S n = nI b from eb, zq_has b h64 p (by omega), hbp p hp, h.lg hp]
  by_cases q : S 4 p = 0
  · simp [q]
  · simp [q]
theorem zRl.fn (hp : p < n) : ∀ (k i : Nat) {S : zS} {f : zF}, zRl S f n → (zfnL n (nI 1 <<< (nI p &&& 31)) k i S).1 = (zwnM n p k i f).1
  | 0, i, S, f, h => rfl
  | k + 1, i, S, f, h => by
    unfold zfnL zwnM
    by_cases q : f (6 + 5 * p + 3) = 0
    · rw [if_pos q, if_pos ((h.nmlOne hp).mpr q)]
    · rw [if_neg q, if_neg (mt (h.nmlOne hp).mp q)]
      exact zRl.fn hp k (i + 1) h.noon.1
end ZR5
