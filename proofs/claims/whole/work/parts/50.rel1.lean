section ZR1
def zN (b : Nat) (x : Int32) : Prop := ∃ k, k ≤ b ∧ x = nI k
theorem zq_lt : ∀ a, a < 19 → ∀ b, b < 19 → ((nI a - nI b < 0 ↔ nI a < nI b) ∧ (nI a - nI b = 0 ↔ nI a = nI b)) := by decide +kernel
theorem zq_abs : ∀ a, a < 10 → ∀ c, c < 10 → zabs (nI a - nI c) = nI (if a ≤ c then c - a else a - c) := by decide +kernel
theorem zq_0 : ∀ a, a < 10 → ((nI a ≤ 0 ↔ nI a = 0)) := by decide +kernel
/-- a class's square and a reference's row -/
def zRl (S : zS) (f : zF) (n : Nat) : Prop :=
  n ≤ 6 ∧ S 0 0 = nI n ∧ (∀ k, k < 6 → f k = S 0 k) ∧
  (∀ p, p < n → f (6 + 5 * p) = S 1 p ∧ f (6 + 5 * p + 1) = S 2 p ∧ f (6 + 5 * p + 2) = S 3 p ∧ f (6 + 5 * p + 3) = S 4 p ∧ f (6 + 5 * p + 4) = hidC S p) ∧
  zN 9 (S 0 1) ∧ zN 2 (S 0 2) ∧ zN 4 (S 0 3) ∧ (∃ h, h < 2 ^ n ∧ S 0 6 = nI h) ∧
  (∀ p, p < n → (∃ k, 1 ≤ k ∧ k ≤ 5 ∧ S 1 p = nI k) ∧ zN 9 (S 2 p) ∧ zN 9 (S 3 p) ∧ zN 9 (S 4 p))
variable {S : zS} {f : zF} {n p : Nat}
theorem zRl.kd (h : zRl S f n) : zKd f n := by
  obtain ⟨h6, hn, h0, hp, -, -, -, -, hb⟩ := h
  refine ⟨by rw [h0 0 (by decide)]; exact hn, h6, fun p q => ?_⟩
  rw [(hp p q).1]
  exact (hb p q).1
theorem zRl.near (h : zRl S f n) (q : p < n) : nearM f p = nearC S p ∧ ∃ k, k < 19 ∧ nearC S p = nI k := by
  obtain ⟨h6, hn, h0, hp, ⟨c, hc, ec⟩, -, -, -, hb⟩ := h
  obtain ⟨-, ⟨a, ha, ea⟩, ⟨l, hl, el⟩, -⟩ := hb p q
  obtain ⟨-, e1, e2, -, -⟩ := hp p q
  have e : nearC S p = nI ((if a ≤ c then c - a else a - c) + l) := by
    unfold nearC
    rw [ea, ec, el, zq_abs a (by omega) c (by omega), nI_add]
  refine ⟨?_, _, ?_, e⟩
  · unfold nearM nearC
    rw [e1, e2, h0 1 (by decide)]
  · split <;> omega
theorem zRl.el (h : zRl S f n) (q : p < n) : elM f p = elC S p := by
  obtain ⟨h6, hn, h0, hp, -, -, -, -, hb⟩ := h
  obtain ⟨-, -, -, ⟨l, hl, el⟩⟩ := hb p q
  obtain ⟨-, -, -, e3, e4⟩ := hp p q
  unfold elM elC
  rw [e3, e4, el, decide_eq_decide.mpr (zq_0 l (by omega))]
theorem zRl.nx (h : zRl S f n) : ∀ m, m ≤ n → zNxM (elM f) (nearM f) (lgM f) m = zNx (elC S) (nearC S) (S 4) m
  | 0, _ => rfl
  | m + 1, hm => by
    have ih := zRl.nx h m (by omega)
    have em := h.el (p := m) (by omega)
    obtain ⟨en, a, ha, ea⟩ := h.near (p := m) (by omega)
    have e3 : lgM f m = S 4 m := (h.2.2.2.1 m (by omega)).2.2.2.1
    unfold zNxM zNx
    rw [ih]
    rcases hb : zNx (elC S) (nearC S) (S 4) m with _ | b
    · dsimp only
      rw [em]
    · have hbm := zNx_lt hb
      obtain ⟨en2, c, hc, ec⟩ := h.near (p := b) (by omega)
      have e4 : lgM f b = S 4 b := (h.2.2.2.1 b (by omega)).2.2.2.1
      dsimp only
      rw [em, en, en2, e3, e4, ea, ec, decide_eq_decide.mpr (zq_lt a ha c hc).1, decide_eq_decide.mpr (zq_lt a ha c hc).2]
theorem zRl.next (h : zRl S f n) : nextM f n = nextC S n := by
  have e := h.nx n (Nat.le_refl _)
  obtain ⟨h6, hn, h0, -, -, -, ⟨r, hr, er⟩, -, -⟩ := h
  unfold nextM nextC
  rw [h0 3 (by decide), er]
  by_cases q : nI r = 0
  · rw [if_pos q, if_pos ((zq_0 r (by omega)).mpr q), e]
  · rw [if_neg q, if_neg (mt (zq_0 r (by omega)).mp q)]
theorem zRl.sum (h : zRl S f n) : ∀ m, m ≤ n → zsum (lgM f) m = zsum (S 4) m
  | 0, _ => rfl
  | m + 1, hm => by
    have e3 : lgM f m = S 4 m := (h.2.2.2.1 m (by omega)).2.2.2.1
    unfold zsum
    rw [zRl.sum h m (by omega), e3]
theorem zRl.nml (h : zRl S f n) : ∀ m, m ≤ n → zbM (fun p => decide (f (6 + 5 * p + 3) = 0)) m = zNml S m
  | 0, _ => rfl
  | m + 1, hm => by
    have e3 : f (6 + 5 * m + 3) = S 4 m := (h.2.2.2.1 m (by omega)).2.2.2.1
    show zbM _ m ||| _ = zbits _ (m + 1)
    rw [zRl.nml h m (by omega)]
    dsimp only
    show _ = if decide (S 4 m = 0) = true then zNml S m ||| (nI 1 <<< (nI m &&& 31)) else zNml S m
    by_cases q : S 4 m = 0
    · rw [if_pos (decide_eq_true (e3.trans q)), if_pos (decide_eq_true q)]
    · rw [if_neg (fun z => q (e3.symm.trans (of_decide_eq_true z))), if_neg (fun z => q (of_decide_eq_true z)), show nI 0 = (0 : Int32) from rfl, Int32.or_zero]
theorem zRl.lend (h : zRl S f n) (q : p < n) : ∀ k, k < n → zlend (lgM f) n p k = zlend (S 4) n p k
  | 0, _ => rfl
  | k + 1, hk => by
    have hm : (p + (n - (k + 1))) % n < n := Nat.mod_lt _ (by omega)
    have e3 : lgM f ((p + (n - (k + 1))) % n) = S 4 ((p + (n - (k + 1))) % n) := (h.2.2.2.1 _ hm).2.2.2.1
    unfold zlend
    rw [e3, zRl.lend h q k (by omega)]
end ZR1
