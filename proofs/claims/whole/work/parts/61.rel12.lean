section ZRc
variable {S T F : zS} {f g : zF} {n p : Nat} {x v : Int32}
theorem noonC_keep {q k : Nat} (h : q = 1 ∨ q = 3 ∨ (q = 0 ∧ (k = 0 ∨ k = 2 ∨ k = 6))) : noonC S n q k = S q k := by
  have e1 : ∀ (T : zS) (p : Nat), biteC T n p q k = T q k := fun T p => by
    unfold biteC bite4C bite3C bite2C
    rw [zs_ne (by omega), zs_ne (by omega), zs_ne (by omega)]
    unfold bite1C
    split
    · rw [zs_ne (by omega)]
    · rw [zs_ne (by omega)]
  have e2 : ∀ (T : zS) (b : Option Nat), noon3C T n b q k = T q k := fun T b => by
    unfold noon3C
    split
    · cases b with
      | none => rfl
      | some p => exact e1 T p
    · rw [zs_ne (by omega)]
  unfold noonC noon5C noon4C
  rw [zs_ne (by omega), zs_ne (by omega), e2]
  unfold noon2C
  rw [zs_ne (by omega), zs_ne (by omega)]
theorem noonsC_keep {q k : Nat} (h : q = 1 ∨ q = 3 ∨ (q = 0 ∧ (k = 0 ∨ k = 2 ∨ k = 6))) : ∀ m, noonsC S n m q k = S q k
  | 0 => rfl
  | m + 1 => (noonC_keep h).trans (noonsC_keep h m)
theorem zhB_ne {s : Int32} {k : Nat} : ∀ i, (∀ q, q < i → k ≠ 6 + 5 * q + 4) → zhB f s i k = f k
  | 0, _ => rfl
  | i + 1, h => by
    unfold zhB
    rw [zu_ne (h i (by omega))]
    exact zhB_ne i (fun q hq => h q (by omega))
theorem zhB_eq {s : Int32} : ∀ i q, q < i → zhB f s i (6 + 5 * q + 4) = (s >>> (nI q &&& 31)) &&& nI 1
  | 0, q, h => absurd h (by omega)
  | i + 1, q, h => by
    unfold zhB
    by_cases e : q = i
    · rw [e, zu_eq]
    · rw [zu_ne (by omega)]
      exact zhB_eq i q (by omega)
/-- the hidden ones laid anew -/
theorem zRl.hid (h : zRl S f n) {s : Nat} (hs : s < 2 ^ n) : zRl (zsu S 0 6 (nI s)) (zhB f (nI s) n) n := by
  obtain ⟨h6, hn, h0, hp, hc, hd, hr, -, hq⟩ := h
  refine ⟨h6, by rw [zs_ne (by omega)]; exact hn, fun k hk => by rw [zhB_ne n (fun q _ => by omega), zs_ne (by omega)]; exact h0 k hk, fun q hq2 => ?_, by rw [zs_ne (by omega)]; exact hc, by rw [zs_ne (by omega)]; exact hd, by rw [zs_ne (by omega)]; exact hr, ⟨s, hs, zs_eq⟩, fun q hq2 => by rw [zs_ne (by omega), zs_ne (by omega), zs_ne (by omega), zs_ne (by omega)]; exact hq q hq2⟩
  obtain ⟨g1, g2, g3, g4, g5⟩ := hp q hq2
  refine ⟨by rw [zhB_ne n (fun q _ => by omega), zs_ne (by omega)]; exact g1, by rw [zhB_ne n (fun q _ => by omega), zs_ne (by omega)]; exact g2, by rw [zhB_ne n (fun q _ => by omega), zs_ne (by omega)]; exact g3, by rw [zhB_ne n (fun q _ => by omega), zs_ne (by omega)]; exact g4, ?_⟩
  rw [zhB_eq n q hq2]
  unfold hidC
  rw [zs_eq]
theorem zRl.sv (h : zRl F g n) {s m : Nat} (hs : s < 2 ^ n) : zRl (zsv S F n (nI s) m) (zhT g f n m s) n := (h.take.hid hs).noons m
theorem znM_iff {t : zF} {s : Int32} : ∀ i, (znM g t s i = true ↔ ∀ p, p < i → (zhas7 s p = true ∨ g (6 + 5 * p) = nI 5) ∨ t (6 + 5 * p + 3) = g (6 + 5 * p + 3))
  | 0 => ⟨fun _ p hp => absurd hp (by omega), fun _ => rfl⟩
  | i + 1 => by
    unfold znM
    rw [Bool.and_eq_true, znM_iff i, Bool.or_eq_true, Bool.or_eq_true, decide_eq_true_eq, decide_eq_true_eq]
    constructor
    · intro ⟨a, b⟩ p hp
      by_cases e : p = i
      · subst e; exact b
      · exact a p (by omega)
    · intro a
      exact ⟨fun p hp => a p (by omega), a i (by omega)⟩
theorem zsvA_iff : ∀ k p, (zsvA T F k p = true ↔ ∀ q, p ≤ q → q < p + k → (¬ hidC T q = 0 ∨ T 1 q = nI 5) ∨ T 4 q = F 4 q)
  | 0, p => ⟨fun _ q h1 h2 => absurd h2 (by omega), fun _ => rfl⟩
  | k + 1, p => by
    unfold zsvA
    by_cases c : (¬ hidC T p = 0 ∨ T 1 p = nI 5) ∨ T 4 p = F 4 p
    · rw [if_pos c, zsvA_iff k (p + 1)]
      constructor
      · intro a q h1 h2
        by_cases e : q = p
        · subst e; exact c
        · exact a q (by omega) (by omega)
      · intro a q h1 h2
        exact a q (by omega) (by omega)
    · rw [if_neg c]
      constructor
      · intro a; cases a
      · intro a; exact absurd (a p (by omega) (by omega)) c
theorem zRl.save (h : zRl F g n) {s m : Nat} (hs : s < 2 ^ n) : zsvA (zsv S F n (nI s) m) F n 0 = znM g (zhT g f n m s) (nI s) n := by
  have r := h.sv (S := S) (f := f) (m := m) hs
  have h6 := h.1
  have h64 : s < 64 := Nat.lt_of_lt_of_le hs (p2n h6).2
  have e6 : zsv S F n (nI s) m 0 6 = nI s := by
    unfold zsv
    rw [noonsC_keep (Or.inr (Or.inr ⟨rfl, Or.inr (Or.inr rfl)⟩)), zs_eq]
  have e1 : ∀ p, p < n → zsv S F n (nI s) m 1 p = F 1 p := fun p hp => by
    unfold zsv
    rw [noonsC_keep (Or.inl rfl), zs_ne (by omega)]
    unfold takeC
    rw [if_neg (by omega), if_pos (by omega), if_pos (by omega)]
  have key : ∀ p, p < n → (((¬ hidC (zsv S F n (nI s) m) p = 0 ∨ zsv S F n (nI s) m 1 p = nI 5) ∨ zsv S F n (nI s) m 4 p = F 4 p) ↔ ((zhas7 (nI s) p = true ∨ g (6 + 5 * p) = nI 5) ∨ zhT g f n m s (6 + 5 * p + 3) = g (6 + 5 * p + 3))) := fun p hp => by
    rw [e1 p hp, h.lg hp, r.lg hp, (h.2.2.2.1 p hp).1, zhas7_iff h64 (by omega)]
    unfold hidC
    rw [e6]
  rw [Bool.eq_iff_iff, zsvA_iff, znM_iff]
  constructor
  · intro a p hp
    exact (key p hp).mp (a p (by omega) (by omega))
  · intro a q h1 h2
    exact (key q (by omega)).mpr (a q (by omega))
theorem zq_bcl : ∀ m, m < 7 → ∀ i, i < 64 → i < 2 ^ m - 1 → ¬ zbc (nI (2 ^ m - 1)) ≤ zbc (nI i) := by decide +kernel
theorem zq_bcm : ∀ m, m < 7 → ∀ j, j < 64 → j < 2 ^ m → ¬ zbiM (nI (2 ^ m - 1)) 6 < zbiM (nI j) 6 := by decide +kernel
theorem zq_hn : ∀ j, j < 64 → ¬ nI j = -1000000 := by decide +kernel
theorem zq_h7 : ∀ m, m < 7 → ∀ p, p < m → zhas7 (nI (2 ^ m - 1)) p = true := by decide +kernel
theorem zhdM_s {m k s : Nat} {b : Int32} : zhdM g n m (k + 1) s b f = if b = -1000000 ∨ zbiM (nI s) 6 < zbiM b 6 then zhdM g n m k (s + 1) (if znM g (zhT g f n m s) (nI s) n then nI s else b) (zhT g f n m s) else zhdM g n m k (s + 1) b f := rfl
theorem zfhL_s {m k i : Nat} {b : Int32} : zfhL F n m (k + 1) i b S = if zbc b ≤ zbc (nI i) then zfhL F n m k (i + 1) b S else if zsvA (zsv S F n (nI i) m) F n 0 then zfhL F n m k (i + 1) (nI i) (zsv S F n (nI i) m) else zfhL F n m k (i + 1) b (zsv S F n (nI i) m) := rfl
theorem zRl.fh (h : zRl F g n) {m : Nat} : ∀ (k i : Nat) (bc bm : Int32) (S : zS) (f : zF), i + k = 2 ^ n - 1 → ((bm = -1000000 ∧ bc = nI (2 ^ n - 1)) ∨ (bc = bm ∧ ∃ j, j < 2 ^ n ∧ bm = nI j)) →
   ∃ j, j < 2 ^ n ∧ (zfhL F n m k i bc S).1 = nI j ∧ (zhdM g n m (k + 1) i bm f).1 = nI j
  | 0, i, bc, bm, S, f, hi, hb => by
    have h6 := h.1
    obtain ⟨p1, p2⟩ := p2n h6
    obtain rfl : i = 2 ^ n - 1 := by omega
    rw [zhdM_s]
    rcases hb with ⟨e1, e2⟩ | ⟨e1, j, hj, ej⟩
    · rw [if_pos (Or.inl e1), if_pos ((znM_iff n).mpr (fun p hp => Or.inl (Or.inl (zq_h7 n (by omega) p hp))))]
      exact ⟨2 ^ n - 1, by omega, e2, rfl⟩
    · have hc : ¬ (bm = -1000000 ∨ zbiM (nI (2 ^ n - 1)) 6 < zbiM bm 6) := by
        rw [ej]
        rintro (z | z)
        · exact zq_hn j (by omega) z
        · exact zq_bcm n (by omega) j (by omega) hj z
      rw [if_neg hc]
      exact ⟨j, hj, e1.trans ej, ej⟩
  | k + 1, i, bc, bm, S, f, hi, hb => by
    have h6 := h.1
    obtain ⟨p1, p2⟩ := p2n h6
    have hs : i < 2 ^ n := by omega
    have sv := h.save (S := S) (f := f) (m := m) hs
    rw [zhdM_s (k := k + 1), zfhL_s]
    rcases hb with ⟨e1, e2⟩ | ⟨e1, j, hj, ej⟩
    · rw [if_pos (Or.inl e1), if_neg (by rw [e2]; exact zq_bcl n (by omega) i (by omega) (by omega)), sv]
      by_cases q : znM g (zhT g f n m i) (nI i) n = true
      · rw [if_pos q, if_pos q]
        exact zRl.fh h k (i + 1) _ _ _ _ (by omega) (Or.inr ⟨rfl, i, hs, rfl⟩)
      · rw [if_neg q, if_neg q]
        exact zRl.fh h k (i + 1) _ _ _ _ (by omega) (Or.inl ⟨e1, e2⟩)
    · subst e1
      have eb : (zbc bc ≤ zbc (nI i)) ↔ ¬ (bc = -1000000 ∨ zbiM (nI i) 6 < zbiM bc 6) := by
        rw [ej, zq_bc j (by omega), zq_bc i (by omega)]
        constructor
        · rintro a (z | z)
          · exact zq_hn j (by omega) z
          · exact Int32.not_le.mpr z a
        · intro a
          exact Int32.not_lt.mp (fun z => a (Or.inr z))
      by_cases c : zbc bc ≤ zbc (nI i)
      · rw [if_pos c, if_neg (eb.mp c)]
        exact zRl.fh h k (i + 1) _ _ _ _ (by omega) (Or.inr ⟨rfl, j, hj, ej⟩)
      · have c2 : bc = -1000000 ∨ zbiM (nI i) 6 < zbiM bc 6 := Classical.byContradiction (fun z => c (eb.mpr z))
        rw [if_neg c, if_pos c2, sv]
        by_cases q : znM g (zhT g f n m i) (nI i) n = true
        · rw [if_pos q, if_pos q]
          exact zRl.fh h k (i + 1) _ _ _ _ (by omega) (Or.inr ⟨rfl, i, hs, rfl⟩)
        · rw [if_neg q, if_neg q]
          exact zRl.fh h k (i + 1) _ _ _ _ (by omega) (Or.inr ⟨rfl, j, hj, ej⟩)
/-- hides: class and reference -/
theorem zRl.hides (h : zRl F g n) {m : Nat} : ∃ j, j < 64 ∧ (zfhL F n m (2 ^ n - 1) 0 (nI (2 ^ n - 1)) S).1 = nI j ∧ (zhdM g n m (2 ^ n) 0 (-1000000) f).1 = nI j := by
  obtain ⟨p1, p2⟩ := p2n h.1
  obtain ⟨j, hj, e1, e2⟩ := h.fh (m := m) (2 ^ n - 1) 0 (nI (2 ^ n - 1)) (-1000000) S f (by omega) (Or.inl ⟨rfl, rfl⟩)
  rw [show 2 ^ n - 1 + 1 = 2 ^ n by omega] at e2
  exact ⟨j, by omega, e1, e2⟩
end ZRc
