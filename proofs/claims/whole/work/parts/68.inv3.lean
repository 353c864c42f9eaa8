section ZSd
variable {Q : Nat → Nat → Nat → Int32} {Z : zS} {E : zE} {n p : Nat} {S : zS} {f g : zF}
theorem zIA.keep {T W : zF} {t a : Nat} (ht : t < 24) (ha : a ≤ 24) (e2 : T 2 = nI a) (hw : ∀ i, i < a → ∃ n, zRl (Q (5 + (t + 24 - a + i) % 24)) (fun j => W (36 * i + j)) n) (hr : zRl (Q 1) f n) {S' : zS} : zIA (va_up (zk1 Q t) 1 S') (zkeepT T t) (nI (zkN a)) (zkW W f a) := by
  have hx : (t = 23 ∧ znx t = 0) ∨ (t < 23 ∧ znx t = t + 1) := by
    unfold znx
    split <;> omega
  have hN : (a = 24 ∧ zkN a = 24) ∨ (a < 24 ∧ zkN a = a + 1) := by
    unfold zkN
    split <;> omega
  have q1 : zkeepT T t 1 = nI (znx t) := by
    unfold zkeepT znx
    rw [zu_ne (by decide), zu_eq]
    split <;> rfl
  have q2 : zkeepT T t 2 = nI (zkN a) := by
    unfold zkeepT zkN
    rw [zu_eq, e2, nI_add]
    unfold zmin
    by_cases q : a = 24
    · subst q
      decide
    · rw [if_neg q, if_neg (nI_nlt (by omega) (by omega))]
  refine ⟨znx t, zkN a, by omega, by omega, q1, q2, rfl, fun i hi => ?_⟩
  by_cases new : i + 1 = zkN a
  · have ei : (znx t + 24 - zkN a + i) % 24 = t := by omega
    rw [ei, va_up_ne _ _ (by omega)]
    unfold zk1
    rw [va_up_self]
    refine ⟨n, (hr.take (f := f)).cong (fun k hk => ?_)⟩
    rw [zly_at hk]
    unfold zkW
    by_cases q : a = 24
    · rw [if_pos q]
      unfold zpt
      rw [if_pos (by omega), show 36 * i + k - 36 * 23 = k by omega]
    · rw [if_neg q]
      unfold zpt
      rw [if_pos (by omega), show 36 * i + k - 36 * a = k by omega]
  · by_cases q : a = 24
    · obtain ⟨m, hm⟩ := hw (i + 1) (by omega)
      have ej : (znx t + 24 - zkN a + i) % 24 = (t + 24 - a + (i + 1)) % 24 := by omega
      have et : (t + 24 - a + (i + 1)) % 24 ≠ t := by omega
      rw [ej, va_up_ne _ _ (by omega)]
      unfold zk1
      rw [va_up_ne _ _ (by omega)]
      refine ⟨m, hm.cong (fun k hk => ?_)⟩
      unfold zkW
      rw [if_pos q]
      unfold zpt
      rw [if_neg (by omega)]
      unfold zsh36
      rw [if_pos (by omega)]
      congr 1
      omega
    · obtain ⟨m, hm⟩ := hw i (by omega)
      have ej : (znx t + 24 - zkN a + i) % 24 = (t + 24 - a + i) % 24 := by omega
      have et : (t + 24 - a + i) % 24 ≠ t := by omega
      rw [ej, va_up_ne _ _ (by omega)]
      unfold zk1
      rw [va_up_ne _ _ (by omega)]
      refine ⟨m, hm.cong (fun k hk => ?_)⟩
      unfold zkW
      rw [if_neg q]
      unfold zpt
      rw [if_neg (by omega)]
/-- an act: what was is kept, the square is another -/
theorem zInv.acts (h : zInv (Q, Z)) : ∃ t a : Nat, t < 24 ∧ a ≤ 24 ∧ Z 160 1 = nI t ∧ Z 165 9 = nI a ∧ ∀ {S' : zS} {f' : zF} {n' : Nat}, zRl S' f' n' → zInv (va_up (zk1 Q t) 1 S', va_up (zkM (va_up Z 160 (zkeepT (Z 160) t)) a) 169 f') := by
  obtain ⟨c1, c2, c3, c4, c5, c6, ⟨n, c7⟩, c8, ⟨t, a, t24, a24, e1, e2, e3, hw⟩, c10, c11⟩ := h
  refine ⟨t, a, t24, a24, e1, e3, fun {S' f' n'} hr => ?_⟩
  have eq : ∀ j, j = 0 ∨ j = 2 ∨ j = 3 → va_up (zk1 Q t) 1 S' j = Q j := fun j hj => by
    rw [va_up_ne _ _ (by omega)]
    unfold zk1
    rw [va_up_ne _ _ (by omega)]
  refine ⟨c1, c2, c3, c4, c5, ?_, ⟨n', hr⟩, ⟨?_, ?_⟩, ?_, ?_, c11⟩
  · show zDr (va_up (zk1 Q t) 1 S' 0)
    rw [eq 0 (by omega)]
    exact c6
  · show zIm (va_up (zk1 Q t) 1 S' 2) _ _
    rw [eq 2 (by omega)]
    exact c8.1
  · show zIm (va_up (zk1 Q t) 1 S' 3) _ _
    rw [eq 3 (by omega)]
    exact c8.2
  · exact zIA.keep t24 a24 e2 hw c7
  · show zIR (va_up (zsu (va_up (va_up Z 160 (zkeepT (Z 160) t)) 172 _) 165 9 _) 169 f')
    exact (((c10.z (by omega)).z (by omega)).s (by omega)).z (by omega)
theorem s_move (h : zInv (Q, Z)) {x y : Int32} : zStep E zm_X6_move zm_X7_move [.int x, .int y] (Q, Z) := by
  obtain ⟨n, hr⟩ := h.now
  have hr : zRl (Q 1) (Z 169) n := hr
  have h0 : Z 165 0 = nI 0 := h.1
  have hn := hr.2.1
  have h6 := hr.1
  have hf := hr.f0
  obtain ⟨t, a, t24, a24, ht, ha, act⟩ := h.acts
  by_cases c : (¬ x < 0 ∧ ¬ Q 1 0 0 ≤ x) ∧ (nI 0 ≤ y ∧ y ≤ nI 9)
  · obtain ⟨c1, c2⟩ := c
    obtain ⟨p, hp, rfl⟩ := hr.ix c1
    have e2 := hr.at2 hp
    by_cases he : Q 1 2 p = y
    · exact .i (x_move_there hn h6 hp c2 he) (m_move_there h0 hf h6 hp c2 (e2.trans he)) rfl h (by decide) (by decide)
    · exact .i (x_move_ok hn h6 ht t24 hp c2 he) (m_move_ok (Z := va_up Z 160 (zkeepT (Z 160) t)) h0 hf h6 ha a24 hp c2 (fun q => he (e2.symm.trans q))) e2.symm (act (hr.u2 (zpl_N c2))) (by decide) (by decide)
  · exact .i (x_move_bad c) (m_move_bad h0 (by rw [← hr.hasI]; exact c)) rfl h (by decide) (by decide)
theorem s_write (h : zInv (Q, Z)) {x y : Int32} : zStep E zm_X6_write zm_X7_write [.int x, .int y] (Q, Z) := by
  obtain ⟨n, hr⟩ := h.now
  have hr : zRl (Q 1) (Z 169) n := hr
  have h0 : Z 165 0 = nI 0 := h.1
  have hn := hr.2.1
  have h6 := hr.1
  have hf := hr.f0
  obtain ⟨t, a, t24, a24, ht, ha, act⟩ := h.acts
  by_cases c : (¬ x < 0 ∧ ¬ Q 1 0 0 ≤ x) ∧ (nI 1 ≤ y ∧ y ≤ nI 9)
  · obtain ⟨c1, c2⟩ := c
    obtain ⟨p, hp, rfl⟩ := hr.ix c1
    exact .i (x_write_ok hn h6 ht t24 hp c2) (m_write_ok (Z := va_up Z 160 (zkeepT (Z 160) t)) h0 hf h6 ha a24 hp c2) (hr.lg hp).symm (act (hr.u4 (zN_of (zq_10 c2.1) c2.2))) (by decide) (by decide)
  · exact .i (x_write_bad c) (m_write_bad h0 (by rw [← hr.hasI]; exact c)) rfl h (by decide) (by decide)
theorem s_hide (h : zInv (Q, Z)) {x : Int32} : zStep E zm_X6_hide zm_X7_hide [.int x] (Q, Z) := by
  obtain ⟨n, hr⟩ := h.now
  have hr : zRl (Q 1) (Z 169) n := hr
  have h0 : Z 165 0 = nI 0 := h.1
  have hn := hr.2.1
  have h6 := hr.1
  have hf := hr.f0
  obtain ⟨t, a, t24, a24, ht, ha, act⟩ := h.acts
  by_cases c : ¬ x < 0 ∧ ¬ Q 1 0 0 ≤ x
  · obtain ⟨p, hp, rfl⟩ := hr.ix c
    have hh := hr.hide hp
    exact .i (x_hide_ok hn h6 ht t24 hp) (m_hide_ok (Z := va_up Z 160 (zkeepT (Z 160) t)) h0 hf h6 ha a24 hp) ((hh.hd01 hp).trans zu_eq) (act hh) (by decide) (by decide)
  · exact .i (x_hide_bad c) (m_hide_bad h0 (by rw [← hr.hasI]; exact c)) rfl h (by decide) (by decide)
theorem s_clock (h : zInv (Q, Z)) {y : Int32} : zStep E zm_X6_clock zm_X7_clock [.int y] (Q, Z) := by
  obtain ⟨n, hr⟩ := h.now
  have hr : zRl (Q 1) (Z 169) n := hr
  have h0 : Z 165 0 = nI 0 := h.1
  obtain ⟨t, a, t24, a24, ht, ha, act⟩ := h.acts
  by_cases s : Q 1 0 0 = 0
  · exact .i (x_clock_state s) (m_clock_state h0 (hr.st.1.mp s)) rfl h (by decide) (by decide)
  have hz : ¬ Z 169 0 ≤ 0 := mt hr.st.1.mpr s
  have e1 := hr.2.2.1 1 (by decide)
  by_cases c : nI 0 ≤ y ∧ y ≤ nI 9
  · by_cases he : Q 1 0 1 = y
    · exact .i (x_clock_there s c he) (m_clock_there h0 hz c (e1.trans he)) rfl h (by decide) (by decide)
    · exact .i (x_clock_ok ht t24 s c he) (m_clock_ok (Z := va_up Z 160 (zkeepT (Z 160) t)) h0 ha a24 hz c (fun q => he (e1.symm.trans q))) e1.symm (act (hr.u0 (i := 1) (by decide) (fun _ => zpl_N c) (fun q => absurd q (by decide)) ⟨by decide, by decide⟩)) (by decide) (by decide)
  · exact .i (x_clock_bad s c) (m_clock_bad h0 hz c) rfl h (by decide) (by decide)
theorem zkM_160 {A B : zF} {a : Nat} : va_up (zkM (va_up Z 160 A) a) 169 f = va_up (va_up (zkM (va_up Z 160 B) a) 169 f) 160 A := by
  funext b
  by_cases e0 : b = 160
  · subst e0
    rfl
  · rw [va_up_ne (j := b) _ A e0]
    by_cases e1 : b = 169
    · subst e1
      rfl
    · rw [va_up_ne _ _ e1, va_up_ne _ _ e1]
      unfold zkM
      by_cases e2 : b = 165
      · subst e2
        rfl
      · rw [zsu_ne _ _ e2, zsu_ne _ _ e2]
        by_cases e3 : b = 172
        · subst e3
          rfl
        · rw [va_up_ne _ _ e3, va_up_ne _ _ e3, va_up_ne _ _ e0, va_up_ne _ _ e0]
theorem va_id {a : Nat} : va_up Z a (Z a) = Z := by
  funext b
  by_cases e : b = a
  · subst e
    exact va_up_self _ _ _
  · exact va_up_ne _ _ e
theorem noons_go : ∀ (m : Nat) (Q : Nat → Nat → Nat → Int32) (Z : zS) (t a : Nat) (x : Int32), zInv (Q, Z) → zRl (Q 1) (Z 169) n → t < 24 → a ≤ 24 → Z 160 1 = nI t → Z 165 9 = nI a → zInv ((znL n m Q (Z 160) t).1, (zNk n m (va_up Z 160 (znL n m Q (Z 160) t).2) a x).2) ∧ (zNk n m (va_up Z 160 (znL n m Q (Z 160) t).2) a x).1 = x + ((znL n m Q (Z 160) t).1 1 0 5 - Q 1 0 5)
  | 0, Q, Z, t, a, x, h, hr, t24, a24, ht, ha => by
    refine ⟨?_, ?_⟩
    · show zInv (Q, va_up Z 160 (Z 160))
      rw [va_id]
      exact h
    · show x = x + (Q 1 0 5 - Q 1 0 5)
      rw [Int32.sub_self, Int32.add_zero]
  | m + 1, Q, Z, t, a, x, h, hr, t24, a24, ht, ha => by
    obtain ⟨t', a', t24', a24', ht', ha', act⟩ := h.acts
    obtain rfl : t' = t := (nI_eq (by omega) (by omega)).mp (ht'.symm.trans ht)
    obtain rfl : a' = a := (nI_eq (by omega) (by omega)).mp (ha'.symm.trans ha)
    have hno := hr.noon.1
    have h' := act hno
    have t2 : znx t' < 24 := by
      unfold znx
      split <;> omega
    have a2 : zkN a' ≤ 24 := by
      unfold zkN
      split <;> omega
    have k1 : zkeepT (Z 160) t' 1 = nI (znx t') := by
      unfold zkeepT znx
      rw [zu_ne (by decide), zu_eq]
      split <;> rfl
    obtain ⟨i1, i2⟩ := noons_go m _ _ (znx t') (zkN a') (x + (n1M (Z 169) n).1) h' hno t2 a2 k1 rfl
    have eR : znL n (m + 1) Q (Z 160) t' = znL n m (va_up (zk1 Q t') 1 (noonC (Q 1) n)) (zkeepT (Z 160) t') (znx t') := rfl
    have eN : ∀ T : zF, zNk n (m + 1) (va_up Z 160 T) a' x = zNk n m (va_up (va_up (zkM (va_up Z 160 (zkeepT (Z 160) t')) a') 169 (noonM (Z 169) n)) 160 T) (zkN a') (x + (n1M (Z 169) n).1) := fun T => by
      rw [← zkM_160 (A := T)]
      rfl
    rw [eR, eN]
    refine ⟨i1, i2.trans ?_⟩
    have e5 : va_up (zk1 Q t') 1 (noonC (Q 1) n) 1 0 5 = Q 1 0 5 + (n1M (Z 169) n).1 := by
      show noonC (Q 1) n 0 5 = _
      rw [← hno.2.2.1 5 (by decide), noonM_5, hr.2.2.1 5 (by decide)]
    rw [e5]
    exact zi_ring _ _ _ _
theorem s_noons (h : zInv (Q, Z)) {x : Int32} : zStep E zm_X6_noons zm_X7_noons [.int x] (Q, Z) := by
  obtain ⟨n, hr⟩ := h.now
  have hr : zRl (Q 1) (Z 169) n := hr
  have h0 : Z 165 0 = nI 0 := h.1
  have hn := hr.2.1
  have h6 := hr.1
  by_cases s : Q 1 0 0 = 0
  · exact .i (x_noons_state s) (m_noons_state h0 (hr.st.1.mp s)) rfl h (by decide) (by decide)
  have hz : ¬ Z 169 0 ≤ 0 := mt hr.st.1.mpr s
  have e4 := hr.2.2.1 4 (by decide)
  by_cases c : nI 1 ≤ x ∧ x ≤ nI 24
  · by_cases hf : Q 1 0 4 + x ≤ nI 999
    · obtain ⟨m, m1, m2, rfl⟩ := rg (by decide) (by decide) c
      obtain ⟨t, a, t24, a24, ht, ha, -⟩ := h.acts
      obtain ⟨g1, g2⟩ := noons_go m Q Z t a (nI 0) h hr t24 a24 ht ha
      refine .i (x_noons_ok hn h6 ht t24 s m1 m2 hf) (m_noons_ok (Z := va_up Z 160 (znL n m Q (Z 160) t).2) h0 ha a24 hr.kd hz m1 m2 (show Z 169 4 + nI m ≤ nI 999 by rw [e4]; exact hf)) ?_ g1 (by decide) (by decide)
      rw [g2, show nI 0 = (0 : Int32) from rfl, Int32.zero_add]
    · exact .i (x_noons_full s c hf) (m_noons_full h0 hz c (by rw [e4]; exact hf)) rfl h (by decide) (by decide)
  · exact .i (x_noons_bad s c) (m_noons_bad h0 hz c) rfl h (by decide) (by decide)
theorem s_undo (h : zInv (Q, Z)) : zStep E zm_X6_undo zm_X7_undo [] (Q, Z) := by
  have h0 : Z 165 0 = nI 0 := h.1
  have hc := h
  obtain ⟨c1, c2, c3, c4, c5, c6, ⟨n, c7⟩, c8, ⟨t, a, t24, a24, e1, e2, e3, hw⟩, c10, c11⟩ := hc
  have e1 : Z 160 1 = nI t := e1
  have e2 : Z 160 2 = nI a := e2
  have e3 : Z 165 9 = nI a := e3
  rcases Nat.eq_zero_or_pos a with q | q
  · subst q
    exact .i (x_undo_none e2) (m_undo_none h0 e3) rfl h (by decide) (by decide)
  · obtain ⟨b, rfl⟩ : ∃ b, a = b + 1 := ⟨a - 1, by omega⟩
    obtain ⟨u, hu, eu, hut⟩ : ∃ u, u < 24 ∧ (if nI t ≤ 0 then nI 23 else nI t - nI 1) = nI u ∧ ((t = 0 ∧ u = 23) ∨ (0 < t ∧ u + 1 = t)) := by
      rcases Nat.eq_zero_or_pos t with z | z
      · subst z
        exact ⟨23, by decide, by decide, Or.inl ⟨rfl, rfl⟩⟩
      · exact ⟨t - 1, by omega, by rw [if_neg (nI_nle z (by omega)), pk_sub z], Or.inr ⟨z, by omega⟩⟩
    have ne : ¬ Z 160 2 = 0 := by
      rw [e2]
      exact nI_ne0 (by omega) (by omega)
    refine .i (x_undo_ok ne e1 eu hu) (m_undo_ok (Z := va_up Z 160 (zbackT (Z 160) u)) h0 e3 (by omega)) (by rw [e2, pk_sub (by omega)]; rfl) ?_ (by decide) (by decide)
    have eb : (t + 24 - (b + 1) + b) % 24 = u := by omega
    refine ⟨c1, c2, c3, c4, c5, c6, ?_, c8, ⟨u, b, hu, by omega, rfl, ?_, rfl, fun i hi => ?_⟩, ?_, c11⟩
    · obtain ⟨k, hk⟩ := hw b (by omega)
      rw [eb] at hk
      exact ⟨k, hk.take⟩
    · show Z 160 2 - nI 1 = nI b
      rw [e2, pk_sub (by omega)]
      rfl
    · obtain ⟨k, hk⟩ := hw i (by omega)
      refine ⟨k, ?_⟩
      have ei : (u + 24 - b + i) % 24 = (t + 24 - (b + 1) + i) % 24 := by omega
      rw [ei]
      show zRl (va_up Q 1 _ (5 + (t + 24 - (b + 1) + i) % 24)) _ k
      rw [va_up_ne _ _ (by omega)]
      exact hk
    · show zIR (va_up (zsu (va_up Z 160 (zbackT (Z 160) u)) 165 9 (nI b)) 169 _)
      exact ((c10.z (by omega)).s (by omega)).z (by omega)
theorem s_restore (h : zInv (Q, Z)) {x : Int32} : zStep E zm_X6_restore zm_X7_restore [.int x] (Q, Z) := by
  have h0 : Z 165 0 = nI 0 := h.1
  have hc := h
  obtain ⟨c1, c2, c3, c4, c5, c6, c7, ⟨c8, c8b⟩, c9, c10, c11⟩ := hc
  by_cases c : nI 0 ≤ x ∧ x ≤ nI 1
  · obtain ⟨k, k1, k2, rfl⟩ := rg (by decide) (by decide) c
    rcases (show k = 0 ∨ k = 1 by omega) with rfl | rfl
    · rcases c8 with ⟨i1, i2⟩ | ⟨i1, m, hm, i2⟩
      · exact .i (x_restore_s0 i1) (m_restore_state h0 (by decide) i2) rfl h (by decide) (by decide)
      · have ne : ¬ Q 2 0 0 = 0 := by
          rw [show Q 2 0 0 = nI m from i2.2.1]
          exact nI_ne0 hm (by have := i2.1; omega)
        refine .i (x_restore_0 ne) (m_restore_ok (Z := va_up Z 160 (upd (upd (Z 160) 1 (nI 0)) 2 (nI 0))) h0 (b := 0) (by decide) i1) rfl ?_ (by decide) (by decide)
        refine ⟨c1, c2, c3, c4, c5, c6, ⟨m, ?_⟩, ⟨Or.inr ⟨i1, m, hm, i2⟩, c8b⟩, ⟨0, 0, by decide, by decide, rfl, rfl, rfl, fun i hi => absurd hi (by omega)⟩, ?_, c11⟩
        · exact (zRl.cong (g := fun k => Z 175 (36 * 0 + k)) i2 (fun k _ => by rw [Nat.mul_zero, Nat.zero_add])).take
        · show zIR (zsu (va_up (va_up Z 160 _) 169 _) 165 9 (nI 0))
          exact ((c10.z (by omega)).z (by omega)).s (by omega)
    · rcases c8b with ⟨i1, i2⟩ | ⟨i1, m, hm, i2⟩
      · exact .i (x_restore_s1 i1) (m_restore_state h0 (by decide) i2) rfl h (by decide) (by decide)
      · have ne : ¬ Q 3 0 0 = 0 := by
          have := i2.2.1
          rw [show Q 3 0 0 = nI m from this]
          exact nI_ne0 hm (by have := i2.1; omega)
        refine .i (x_restore_1 ne) (m_restore_ok (Z := va_up Z 160 (upd (upd (Z 160) 1 (nI 0)) 2 (nI 0))) h0 (b := 1) (by decide) i1) rfl ?_ (by decide) (by decide)
        refine ⟨c1, c2, c3, c4, c5, c6, ⟨m, ?_⟩, ⟨c8, Or.inr ⟨i1, m, hm, i2⟩⟩, ⟨0, 0, by decide, by decide, rfl, rfl, rfl, fun i hi => absurd hi (by omega)⟩, ?_, c11⟩
        · exact (zRl.cong (g := fun k => Z 175 (36 * 1 + k)) i2 (fun k _ => rfl)).take
        · show zIR (zsu (va_up (va_up Z 160 _) 169 _) 165 9 (nI 0))
          exact ((c10.z (by omega)).z (by omega)).s (by omega)
  · exact .i (x_restore_bad c) (m_restore_bad h0 c) rfl h (by decide) (by decide)
theorem zIm.cong {k : Int32} (h : zIm S k f) (e : ∀ k, k < 36 → f k = g k) : zIm S k g := by
  rcases h with h | ⟨h1, n, hn, h2⟩
  · exact Or.inl h
  · exact Or.inr ⟨h1, n, hn, h2.cong e⟩
theorem s_image (h : zInv (Q, Z)) {x : Int32} : zStep E zm_X6_image zm_X7_image [.int x] (Q, Z) := by
  have h0 : Z 165 0 = nI 0 := h.1
  have hc := h
  obtain ⟨c1, c2, c3, c4, c5, c6, ⟨n, c7⟩, ⟨c8, c8b⟩, c9, c10, c11⟩ := hc
  have c7 : zRl (Q 1) (Z 169) n := c7
  by_cases c : nI 0 ≤ x ∧ x ≤ nI 1
  · by_cases s : Q 1 0 0 = 0
    · exact .i (x_image_state c s) (m_image_state h0 c (c7.st.1.mp s)) rfl h (by decide) (by decide)
    have hz : ¬ Z 169 0 ≤ 0 := mt c7.st.1.mpr s
    have h1 : 0 < n := c7.st.2 s
    obtain ⟨k, k1, k2, rfl⟩ := rg (by decide) (by decide) c
    rcases (show k = 0 ∨ k = 1 by omega) with rfl | rfl
    · refine .i (x_image_0 s) (m_image_ok h0 (b := 0) (by decide) hz) rfl ?_ (by decide) (by decide)
      refine ⟨c1, c2, c3, c4, c5, c6, ⟨n, c7⟩, ⟨Or.inr ⟨?_, n, h1, ?_⟩, ?_⟩, c9.q (by decide), ?_, c11⟩
      · show ¬ (1 : Int32) = 0
        decide
      · refine zRl.cong (f := zly (Z 169) (Z 169)) (c7.take (S := Q 2)) (fun k hk => ?_)
        rw [zly_at hk]
        show Z 169 k = zpt (Z 175) (Z 169) (36 * 0) 36 k
        unfold zpt
        rw [if_pos (by omega)]
        rfl
      · refine zIm.cong c8b (fun k hk => ?_)
        show Z 175 (36 + k) = zpt (Z 175) (Z 169) (36 * 0) 36 (36 + k)
        unfold zpt
        rw [if_neg (by omega)]
      · show zIR (zsu (va_up Z 175 _) 174 0 1)
        exact (c10.z (by omega)).s (by omega)
    · refine .i (x_image_1 s) (m_image_ok h0 (b := 1) (by decide) hz) rfl ?_ (by decide) (by decide)
      refine ⟨c1, c2, c3, c4, c5, c6, ⟨n, c7⟩, ⟨?_, Or.inr ⟨?_, n, h1, ?_⟩⟩, c9.q (by decide), ?_, c11⟩
      · refine zIm.cong c8 (fun k hk => ?_)
        show Z 175 k = zpt (Z 175) (Z 169) (36 * 1) 36 k
        unfold zpt
        rw [if_neg (by omega)]
      · show ¬ (1 : Int32) = 0
        decide
      · refine zRl.cong (f := zly (Z 169) (Z 169)) (c7.take (S := Q 3)) (fun k hk => ?_)
        rw [zly_at hk]
        show Z 169 k = zpt (Z 175) (Z 169) (36 * 1) 36 (36 + k)
        unfold zpt
        rw [if_pos (by omega)]
        congr 1
        omega
      · show zIR (zsu (va_up Z 175 _) 174 1 1)
        exact (c10.z (by omega)).s (by omega)
  · exact .i (x_image_bad c) (m_image_bad h0 c) rfl h (by decide) (by decide)
end ZSd
