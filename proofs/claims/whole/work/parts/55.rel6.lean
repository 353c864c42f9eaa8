section ZR6
variable {S T F : zS} {f g : zF} {n p : Nat} {x : Int32}
theorem zsum_nat {c : Nat → Int32} : ∀ m, m ≤ 6 → (∀ p, p < m → zN 9 (c p)) → ∃ s, s ≤ 9 * m ∧ zsum c m = nI s ∧ (s = 0 ↔ ∀ p, p < m → c p = 0)
  | 0, _, _ => ⟨0, by omega, rfl, ⟨fun _ p hp => absurd hp (by omega), fun _ => rfl⟩⟩
  | m + 1, hm, hc => by
    obtain ⟨s, hs, es, iff_⟩ := zsum_nat (c := c) m (by omega) (fun p hp => hc p (by omega))
    obtain ⟨k, hk, ek⟩ := hc m (by omega)
    refine ⟨s + k, by omega, by unfold zsum; rw [es, ek, nI_add], ⟨fun h p hp => ?_, fun h => ?_⟩⟩
    · by_cases e : p = m
      · subst e; rw [ek, show k = 0 by omega]; rfl
      · exact iff_.mp (by omega) p (by omega)
    · have h1 : s = 0 := iff_.mpr (fun p hp => h p (by omega))
      have h2 : nI k = nI 0 := by rw [← ek]; exact h m (by omega)
      have h3 := (nI_eq (a := k) (b := 0) (by omega) (by omega)).mp h2
      omega
theorem zq_all : ∀ m, m < 7 → ∀ b, b < 64 → b < 2 ^ m → ((nI b &&& nI (2 ^ m - 1) = nI (2 ^ m - 1)) ↔ ∀ p, p < m → b / 2 ^ p % 2 = 1) := by decide +kernel
theorem zRl.nmlAll (h : zRl S f n) : (zNml S n &&& nI (2 ^ n - 1) = nI (2 ^ n - 1)) ↔ zsum (lgM f) n = 0 := by
  obtain ⟨b, hb, eb, hbp⟩ := zbits_nat (c := fun p => decide (S 4 p = 0)) n h.1
  have h64 : b < 64 := Nat.lt_of_lt_of_le hb (Nat.pow_le_pow_right (by decide) h.1)
  have h6 := h.1
  obtain ⟨s, hs, es, hs0⟩ := zsum_nat (c := S 4) n h.1 (fun p hp => (h.2.2.2.2.2.2.2.2 p hp).2.2.2)
  rw [show zNml S n = nI b from eb, zq_all n (by omega) b h64 hb, h.sum n (Nat.le_refl _), es]
  have e1 : nI s = 0 ↔ s = 0 := ⟨fun z => (nI_eq (a := s) (b := 0) (by omega) (by omega)).mp z, fun z => by rw [z]; rfl⟩
  rw [e1, hs0]
  constructor
  · intro z p hp
    have := z p hp
    rw [hbp p hp] at this
    by_cases q : S 4 p = 0
    · exact q
    · simp [q] at this
  · intro z p hp
    rw [hbp p hp]
    simp [z p hp]
theorem zRl.ov : ∀ (k i : Nat) {S : zS} {f : zF}, zRl S f n → (zfnL n (nI (2 ^ n - 1)) k i S).1 = (zovM n k i f).1
  | 0, i, S, f, h => rfl
  | k + 1, i, S, f, h => by
    unfold zfnL zovM
    by_cases q : zsum (lgM f) n = 0
    · rw [if_pos q, if_pos (h.nmlAll.mpr q)]
    · rw [if_neg q, if_neg (mt h.nmlAll.mp q)]
      exact zRl.ov k (i + 1) h.noon.1
theorem zRl.lf (h : zRl F g n) {i m : Nat} (hi : i ≤ 9) : zRl (zlf S F n p (nI i) m) (zspT g f n p m 1 (nI i)) n := (h.take.u2 ⟨i, hi, rfl⟩).noons m
theorem zRl.dc (h : zRl F g n) {i m : Nat} (hi : i ≤ 9) : zRl (zdc S F n p (nI i) m) (zspT g f n p m 3 (nI i)) n := (h.take.u4 ⟨i, hi, rfl⟩).noons m
theorem zRl.bp (h : zRl F g n) (hp : p < n) {m : Nat} : ∀ (k i : Nat) (b mo : Int32) (S : zS) (f : zF), i + k = 10 → (zbpL F n p m k i b mo S).1 = (zspM g n p m k i b mo f).1
  | 0, i, b, mo, S, f, hi => rfl
  | k + 1, i, b, mo, S, f, hi => by
    have e := (h.lf (S := S) (f := f) (p := p) (i := i) (m := m) (by omega)).lg hp
    unfold zbpL zspM
    rw [e]
    by_cases q : zlf S F n p (nI i) m 4 p ≤ mo
    · rw [if_pos q, if_pos q]
      exact zRl.bp h hp k (i + 1) _ _ _ _ (by omega)
    · rw [if_neg q, if_neg q]
      exact zRl.bp h hp k (i + 1) _ _ _ _ (by omega)
theorem zRl.dcl (h : zRl F g n) {o m : Nat} (ho : o < n) : ∀ (k i : Nat) (S : zS) (f : zF), i + k = 10 → (zdcL F n p o m k i S).1 = (zdcM g n p o m k i f).1
  | 0, i, S, f, hi => rfl
  | k + 1, i, S, f, hi => by
    have e := (h.dc (S := S) (f := f) (p := p) (i := i) (m := m) (by omega)).lg ho
    unfold zdcL zdcM
    rw [e, h.lg ho]
    by_cases q : zdc S F n p (nI i) m 4 o = F 4 o
    · rw [if_pos q, if_pos q]
    · rw [if_neg q, if_neg q]
      exact zRl.dcl h ho k (i + 1) _ _ (by omega)
theorem zRl.draw (h : zRl S f n) (h1 : 0 < n) {X : Nat} : zRl (zdraw S n X) (zdrM f n X) n := by
  have hx := Nat.mod_lt X h1
  unfold zdraw zdrM
  rw [h.lg hx]
  by_cases q : S 4 (X % n) = 0
  · rw [if_pos q, if_pos q, nI_add]
    exact h.u4 ⟨X % 9 + 1, by omega, rfl⟩
  · rw [if_neg q, if_neg q]
    by_cases z : X % 3 = 0
    · rw [if_pos z, if_pos z]
      exact h.u2 ⟨X / 8 % 10, by omega, rfl⟩
    · rw [if_neg z, if_neg z]
      exact h
theorem zRl.bd (h1 : 0 < n) : ∀ (k X : Nat) (x : Int32) {S : zS} {f : zF}, zRl S f n → zRl (zbdL n k X S) (zbdM n k X x f).2 n
  | 0, X, x, S, f, h => h
  | k + 1, X, x, S, f, h => by
    unfold zbdL zbdM
    exact zRl.bd h1 k _ _ (h.draw h1).noon.1
end ZR6
