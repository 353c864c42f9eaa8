section ZR8
variable {S T F : zS} {f g : zF} {n p : Nat} {x v : Int32}
theorem zq_b01 : ∀ h, h < 64 → ∀ p, p < 6 → ((nI h >>> (nI p &&& 31)) &&& nI 1 = 0 ∨ (nI h >>> (nI p &&& 31)) &&& nI 1 = nI 1) ∧ ¬ (nI 1 : Int32) = 0 := by decide +kernel
theorem zhas7_iff {s q : Nat} (hs : s < 64) (hq : q < 6) : (zhas7 (nI s) q = true) ↔ ¬ (nI s >>> (nI q &&& 31)) &&& nI 1 = 0 := by
  unfold zhas7
  obtain ⟨h1, h2⟩ := zq_b01 s hs q hq
  rcases h1 with e | e
  · rw [e]; exact ⟨fun z => absurd (of_decide_eq_true z).symm h2, fun z => absurd rfl z⟩
  · rw [e]; exact ⟨fun _ => h2, fun _ => decide_eq_true rfl⟩
theorem zRl.sm (h : zRl F g n) {s : Nat} (hs : s < 64) : ∀ m, m ≤ n → zss F (nI s) m = zsmM g (nI s) m
  | 0, _ => rfl
  | m + 1, hm => by
    have h6 := h.1
    have ih := zRl.sm h hs m (by omega)
    have e := h.lg (p := m) (by omega)
    have hi := zhas7_iff (s := s) (q := m) hs (by omega)
    unfold zss zsmM
    rw [ih, e]
    by_cases q : (nI s >>> (nI m &&& 31)) &&& nI 1 = 0
    · rw [if_pos q, if_neg (fun z => hi.mp z q), show nI 0 = (0 : Int32) from rfl, Int32.add_zero]
    · rw [if_neg q, if_pos (hi.mpr q)]
theorem zRl.ok (h : zRl F g n) {s : Nat} (hs : s < 64) : zis F n (nI s) v = zokM g n v s := by
  unfold zis zokM
  rw [h.nml n (Nat.le_refl _), h.sm hs n (Nat.le_refl _)]
/-- how many, in all, in any: class and reference -/
theorem zq_and : ∀ s, s < 64 → ∀ m, m < 7 → s < 2 ^ m → nI (2 ^ m - 1) &&& nI s = nI s := by decide +kernel
theorem zRl.se (h : zRl F g n) : ∀ i, i ≤ 2 ^ n → (zseM g n v i).1 = zhm F n v i ∧ (zseM g n v i).2.2 = zin F n v i ∧ (∃ c, c ≤ i ∧ zhm F n v i = nI c ∧ ((c = 0 ∧ zif F n v i = nI 0 ∧ zia F n v i = nI (2 ^ n - 1) ∧ (zseM g n v i).2.1 = nI 0) ∨ (0 < c ∧ zif F n v i = nI 1 ∧ zia F n v i = (zseM g n v i).2.1)))
  | 0, _ => ⟨rfl, rfl, 0, Nat.le_refl _, rfl, Or.inl ⟨rfl, rfl, rfl, rfl⟩⟩
  | i + 1, hi => by
    have h6 := h.1
    have h2n : 2 ^ n ≤ 64 := (p2n h6).2
    obtain ⟨a1, a2, c, hc, ec, a3⟩ := zRl.se h i (by omega)
    have ho := h.ok (v := v) (s := i) (by omega)
    unfold zseM zhm zin zif zia
    rw [ho]
    by_cases q : zokM g n v i = true
    · simp only [q, if_true]
      refine ⟨by rw [a1], by rw [a2], c + 1, by omega, by rw [ec, zi1], Or.inr ⟨by omega, by first | trivial | rfl, ?_⟩⟩
      rcases a3 with ⟨c0, b1, b2, b3⟩ | ⟨c0, b1, b2⟩
      · subst c0
        rw [a1, ec, if_pos (show nI 0 = 0 from rfl), b2]
        exact zq_and i (by omega) n (by omega) (by omega)
      · rw [a1, ec, if_neg (nI_ne0 c0 (by omega)), b2]
    · have q2 : zokM g n v i = false := by
        rcases hq : zokM g n v i with _ | _
        · rfl
        · exact absurd hq q
      simp only [q2, if_false, Bool.false_eq_true]
      exact ⟨a1, a2, c, by omega, ec, a3⟩
/-- share -/
theorem zov_cong {a m : Int32} {A B : zS} : ∀ k, (∀ q, q < k → A 4 q = B 4 q) → zov A a m k = zov B a m k
  | 0, _ => rfl
  | k + 1, h => by
    unfold zov
    rw [zov_cong k (fun q hq => h q (by omega)), h k (by omega)]
theorem zahd_cong {A B : zS} : ∀ k, (∀ q, q < k → A 4 q = B 4 q) → zahd A p k = zahd B p k
  | 0, _ => rfl
  | k + 1, h => by
    unfold zahd
    rw [zahd_cong k (fun q hq => h q (by omega)), h k (by omega)]
theorem zRl.sum0 (h : zRl F g n) (hp : p < n) (hl : ¬ F 4 p = 0) : ¬ zsum (F 4) n = 0 := by
  obtain ⟨s, hs, es, hs0⟩ := zsum_nat (c := F 4) n h.1 (fun p hp => (h.2.2.2.2.2.2.2.2 p hp).2.2.2)
  have h6 := h.1
  intro z
  rw [es] at z
  exact hl (hs0.mp ((nI_eq (a := s) (b := 0) (by omega) (by omega)).mp z) p hp)
end ZR8
