section ZSa
variable {Q : Nat → Nat → Nat → Int32} {Z : zS} {E : zE} {n p : Nat} {S : zS} {f g : zF}
def zIT (T B : zF) (l : Int32) (C : zF) : Prop := ∃ (L a : Nat) (nu f fa : Int32), L ≤ 90 ∧ T = zTr L a nu f fa ∧ l = nI L ∧ B = C
def zIm (S : zS) (k : Int32) (f : zF) : Prop := (S 0 0 = 0 ∧ k = 0) ∨ (¬ k = 0 ∧ ∃ n, 0 < n ∧ zRl S f n)
def zIA (Q : Nat → Nat → Nat → Int32) (T : zF) (k : Int32) (W : zF) : Prop := ∃ (t a : Nat), t < 24 ∧ a ≤ 24 ∧ T 1 = nI t ∧ T 2 = nI a ∧ k = nI a ∧ ∀ i, i < a → ∃ n, zRl (Q (5 + (t + 24 - a + i) % 24)) (fun j => W (36 * i + j)) n
def zIR (Z : zS) : Prop := ∀ r, r < 8 → ((Z 157 r = -1 ∧ Z 166 r = -1) ∨ (∃ m l : Nat, m ≤ 40 ∧ l ≤ 2 ∧ Z 157 r = nI m ∧ Z 167 r = nI m ∧ Z 156 r = nI l ∧ Z 166 r = nI l)) ∧ ∀ k, k < 40 → Z (148 + r) k = Z 168 (40 * r + k)
def zIt (a b : Int32) (f g : zF) : Prop := ∃ t : Nat, t ≤ 16 ∧ a = nI t ∧ b = nI t ∧ f = g
/-- what holds between two calls -/
def zInv (M : zMem) : Prop := M.2 165 0 = nI 0 ∧ M.2 145 9 = M.2 165 1 ∧ M.2 145 8 = M.2 165 18 ∧ zIT (M.2 158) (M.2 159) (M.2 165 11) (M.2 173) ∧ (∃ c s : Nat, M.2 165 12 = nI c ∧ M.2 165 13 = nI s) ∧ zDr (M.1 0) ∧ (∃ n, zRl (M.1 1) (M.2 169) n) ∧ (zIm (M.1 2) (M.2 174 0) (M.2 175) ∧ zIm (M.1 3) (M.2 174 1) (fun k => M.2 175 (36 + k))) ∧ zIA M.1 (M.2 160) (M.2 165 9) (M.2 172) ∧ zIR M.2 ∧ zIt (M.2 163 2) (M.2 165 22) (M.2 164) (M.2 176)
theorem zIA.q {T : zF} {k : Int32} {W : zF} (h : zIA Q T k W) {j : Nat} (hj : j < 5) : zIA (va_up Q j S) T k W := by
  obtain ⟨t, a, h1, h2, h3, h4, h5, h6⟩ := h
  refine ⟨t, a, h1, h2, h3, h4, h5, fun i hi => ?_⟩
  obtain ⟨n, hn⟩ := h6 i hi
  exact ⟨n, by rw [va_up_ne _ _ (by omega)]; exact hn⟩
theorem zIR.z (h : zIR Z) {a : Nat} {v : zF} (ha : a < 148 ∨ (157 < a ∧ a < 166) ∨ 168 < a) : zIR (va_up Z a v) := fun r hr => by
  obtain ⟨h1, h2⟩ := h r hr
  have e : ∀ b, (148 ≤ b ∧ b ≤ 157) ∨ (166 ≤ b ∧ b ≤ 168) → va_up Z a v b = Z b := fun b hb => va_up_ne _ _ (by omega)
  rw [e 157 (by omega), e 166 (by omega), e 167 (by omega), e 156 (by omega), e 168 (by omega), e (148 + r) (by omega)]
  exact ⟨h1, h2⟩
theorem zIR.s (h : zIR Z) {a i : Nat} {x : Int32} (ha : a < 148 ∨ (157 < a ∧ a < 166) ∨ 168 < a) : zIR (zsu Z a i x) := h.z ha
theorem zInv.now {M : zMem} (h : zInv M) : ∃ n, zRl (M.1 1) (M.2 169) n := h.2.2.2.2.2.2.1
theorem zInv.q4 (h : zInv (Q, Z)) : zInv (va_up Q 4 S, Z) := by
  obtain ⟨c1, c2, c3, c4, c5, c6, c7, c8, c9, c10, c11⟩ := h
  exact ⟨c1, c2, c3, c4, c5, c6, c7, c8, c9.q (by decide), c10, c11⟩
theorem zInv.z171 (h : zInv (Q, Z)) : zInv (Q, va_up Z 171 f) := by
  obtain ⟨c1, c2, c3, c4, c5, c6, c7, c8, c9, c10, c11⟩ := h
  exact ⟨c1, c2, c3, c4, c5, c6, c7, c8, c9, c10.z (by omega), c11⟩
theorem zInv.st (h : zInv (Q, Z)) {x : Int32} : zInv (Q, zsu (zsu Z 145 9 x) 165 1 x) := by
  obtain ⟨c1, c2, c3, c4, c5, c6, c7, c8, c9, c10, c11⟩ := h
  exact ⟨c1, rfl, c3, c4, c5, c6, c7, c8, c9, (c10.s (by omega)).s (by omega), c11⟩
theorem zInv.st2 (h : zInv (Q, Z)) {x y : Int32} : zInv (Q, zsu (zsu (zsu Z 145 9 x) 165 1 y) 165 1 x) := by
  obtain ⟨c1, c2, c3, c4, c5, c6, c7, c8, c9, c10, c11⟩ := h
  exact ⟨c1, rfl, c3, c4, c5, c6, c7, c8, c9, ((c10.s (by omega)).s (by omega)).s (by omega), c11⟩
theorem zRl.cong (h : zRl S f n) (e : ∀ k, k < 36 → f k = g k) : zRl S g n := by
  obtain ⟨h6, hn, h0, hp, hc, hd, hr, hh, hq⟩ := h
  refine ⟨h6, hn, fun k hk => by rw [← e k (by omega)]; exact h0 k hk, fun p hp2 => ?_, hc, hd, hr, hh, hq⟩
  rw [← e _ (by omega), ← e _ (by omega), ← e _ (by omega), ← e _ (by omega), ← e _ (by omega)]
  exact hp p hp2
/-- one call on either side: the same answer, and what held holds again -/
def zStep (E : zE) (mx mm : zM) (av : List Value) (M : zMem) : Prop := ∃ (d1 d2 : Nat) (rv : Int32) (M1 M2 : zMem), d1 ≤ 11 ∧ d2 ≤ 11 ∧ zCT E d1 mx (.ref (zad E 145) :: av) M (some (.int rv)) M1 ∧ zCT E d2 mm (.ref (zad E 165) :: av) M1 (some (.int rv)) M2 ∧ zInv M2
def zStepL (E : zE) (mx mm : zM) (av : List Value) (M : zMem) : Prop := ∃ (d1 d2 : Nat) (rv : Int64) (M1 M2 : zMem), d1 ≤ 11 ∧ d2 ≤ 11 ∧ zCT E d1 mx (.ref (zad E 145) :: av) M (some (.long rv)) M1 ∧ zCT E d2 mm (.ref (zad E 165) :: av) M1 (some (.long rv)) M2 ∧ zInv M2
theorem zStep.i {mx mm : zM} {av : List Value} {M M1 M2 : zMem} {d1 d2 : Nat} {a b : Int32} (hx : zCT E d1 mx (.ref (zad E 145) :: av) M (some (.int a)) M1) (hm : zCT E d2 mm (.ref (zad E 165) :: av) M1 (some (.int b)) M2) (e : a = b) (h : zInv M2) (h1 : d1 ≤ 11) (h2 : d2 ≤ 11) : zStep E mx mm av M := by
  subst e
  exact ⟨d1, d2, _, M1, M2, h1, h2, hx, hm, h⟩
theorem zStepL.l {mx mm : zM} {av : List Value} {M M1 M2 : zMem} {d1 d2 : Nat} {a b : Int64} (hx : zCT E d1 mx (.ref (zad E 145) :: av) M (some (.long a)) M1) (hm : zCT E d2 mm (.ref (zad E 165) :: av) M1 (some (.long b)) M2) (e : a = b) (h : zInv M2) (h1 : d1 ≤ 11) (h2 : d2 ≤ 11) : zStepL E mx mm av M := by
  subst e
  exact ⟨d1, d2, _, M1, M2, h1, h2, hx, hm, h⟩
theorem rg {x : Int32} {a b : Nat} (ha : a < 2 ^ 31) (hb : b < 2 ^ 31) (h : nI a ≤ x ∧ x ≤ nI b) : ∃ m : Nat, a ≤ m ∧ m ≤ b ∧ x = nI m := by
  have h0 : ¬ x < 0 := fun q => by
    have q2 := Int32.lt_of_le_of_lt h.1 q
    exact nI_pos ha q2
  obtain ⟨m, hm, e⟩ := nI_of2 (M := nI b) (n := b) (x := x) (nI_toInt hb) h0 h.2
  refine ⟨m, ?_, hm, e⟩
  have := h.1
  rw [e] at this
  exact (nI_leI ha (by omega)).mp this
theorem rgT {x : Int32} (b : Nat) (hb : b < 2 ^ 31) : (∃ m : Nat, m ≤ b ∧ x = nI m) ∨ (x.toInt < 0 ∨ (b : Int) < x.toInt) := by
  by_cases h1 : x.toInt < 0
  · exact Or.inr (Or.inl h1)
  · by_cases h2 : (b : Int) < x.toInt
    · exact Or.inr (Or.inr h2)
    · refine Or.inl ?_
      have h0 : ¬ x < 0 := fun q => h1 (Int32.lt_iff_toInt_lt.mp q)
      obtain ⟨j, hj, e⟩ := nI_of h0
      refine ⟨j, ?_, e⟩
      rw [e, nI_toInt hj] at h2
      omega
theorem zq_m : ∀ n, n < 7 → nI n - nI 1 < nI n := by decide +kernel
theorem zRl.hasI (h : zRl S f n) {x : Int32} : (¬ x < 0 ∧ ¬ S 0 0 ≤ x) ↔ (nI 0 ≤ x ∧ x ≤ f 0 - nI 1) := by
  have h6 := h.1
  rw [h.2.2.1 0 (by decide), h.2.1]
  constructor
  · intro ⟨a, b⟩
    rcases pk_ix x (n := n) (by omega) with q | q | ⟨j, hj, e⟩
    · exact absurd q a
    · exact absurd q b
    · rw [e, pk_sub (by omega)]
      exact ⟨nI_le (by omega) (by omega), nI_le (by omega) (by omega)⟩
  · intro ⟨a, b⟩
    exact ⟨Int32.not_lt.mpr a, fun q => Int32.lt_irrefl (Int32.lt_of_lt_of_le (zq_m n (by omega)) (Int32.le_trans q b))⟩
theorem zRl.ix (h : zRl S f n) {x : Int32} (c : ¬ x < 0 ∧ ¬ S 0 0 ≤ x) : ∃ p, p < n ∧ x = nI p := by
  have h6 := h.1
  rw [h.2.1] at c
  rcases pk_ix x (n := n) (by omega) with q | q | q
  · exact absurd q c.1
  · exact absurd q c.2
  · exact q
theorem zRl.f0 (h : zRl S f n) : f 0 = nI n := (h.2.2.1 0 (by decide)).trans h.2.1
theorem zRl.st (h : zRl S f n) : (S 0 0 = 0 ↔ f 0 ≤ 0) ∧ (¬ S 0 0 = 0 → 0 < n) := by
  have h6 := h.1
  rw [h.f0, h.2.1]
  rcases Nat.eq_zero_or_pos n with e | e
  · subst e
    exact ⟨⟨fun _ => by decide, fun _ => rfl⟩, fun q => absurd rfl q⟩
  · exact ⟨⟨fun q => absurd q (nI_ne0 e (by omega)), fun q => absurd q (nI_nle e (by omega))⟩, fun _ => e⟩
end ZSa
