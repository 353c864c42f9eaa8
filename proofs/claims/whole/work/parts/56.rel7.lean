section ZR7
variable {S T F : zS} {f g : zF} {n p : Nat} {x : Int32}
theorem zRl.u1 (h : zRl S f n) {v : Nat} (hv : 1 ≤ v ∧ v ≤ 5) : zRl (zsu S 1 p (nI v)) (upd f (6 + 5 * p) (nI v)) n := by
  obtain ⟨h6, hn, h0, hp, hc, hd, hr, ⟨b, hb, eb⟩, hq⟩ := h
  refine ⟨h6, by rw [zs_ne (by omega)]; exact hn, fun k hk => by rw [zu_ne (by omega), zs_ne (by omega)]; exact h0 k hk, fun q hq2 => ?_, by rw [zs_ne (by omega)]; exact hc, by rw [zs_ne (by omega)]; exact hd, by rw [zs_ne (by omega)]; exact hr, ⟨b, hb, by rw [zs_ne (by omega)]; exact eb⟩, fun q hq2 => ?_⟩
  · obtain ⟨g1, g2, g3, g4, g5⟩ := hp q hq2
    refine ⟨?_, by rw [zu_ne (by omega), zs_ne (by omega)]; exact g2, by rw [zu_ne (by omega), zs_ne (by omega)]; exact g3, by rw [zu_ne (by omega), zs_ne (by omega)]; exact g4, by rw [zu_ne (by omega), hid_ne (by omega)]; exact g5⟩
    by_cases e : q = p
    · rw [e, zu_eq, zs_eq]
    · rw [zu_ne (by omega), zs_ne (by omega)]; exact g1
  · obtain ⟨g1, g2, g3, g4⟩ := hq q hq2
    refine ⟨?_, by rw [zs_ne (by omega)]; exact g2, by rw [zs_ne (by omega)]; exact g3, by rw [zs_ne (by omega)]; exact g4⟩
    by_cases e : q = p
    · rw [e, zs_eq]; exact ⟨v, hv.1, hv.2, rfl⟩
    · rw [zs_ne (by omega)]; exact g1
theorem zsoM_no {it : Nat → Int32} : ∀ (k i : Nat) (f : zF), (zsoM n it k i false f).1 = false
  | 0, i, f => rfl
  | k + 1, i, f => by
    unfold zsoM
    rw [Bool.false_and]
    exact zsoM_no k (i + 1) _
theorem zRl.so {ic im : Nat → Int32} {m : Nat} (hit : ∀ k, k < m → ic k = im k) : ∀ (k i : Nat) {S : zS} {f : zF}, i + k = m → zRl S f n → (zctL n ic k i S).1 = (zsoM n im k i true f).1
  | 0, i, S, f, hi, h => rfl
  | k + 1, i, S, f, hi, h => by
    obtain ⟨h1, h7, -⟩ := h.noon
    have e : zbt (noonC S n) = zbtM f n := by
      unfold zbt zbtM
      rw [h7]
    unfold zctL zsoM
    rw [e, hit i (by omega), Bool.true_and]
    by_cases q : im i = zbtM f n
    · rw [if_pos q, decide_eq_true q.symm]
      exact zRl.so hit k (i + 1) (by omega) h1
    · rw [if_neg q, decide_eq_false (fun z => q z.symm), zsoM_no]
/-- where the reference lays what is supposed -/
def zplw (p w : Nat) : Nat := if w = 0 then 6 + 5 * p else if w = 1 then 6 + 5 * p + 1 else if w = 2 then 6 + 5 * p + 3 else 1
theorem zRl.sup (h : zRl F g n) {w v : Nat} (hv : v ≤ 9) (h0 : w = 0 → 1 ≤ v ∧ v ≤ 5) : zRl (zsup (takeC S F) p w (nI v)) (upd (zly g f) (zplw p w) (nI v)) n := by
  have t := h.take (S := S) (f := f)
  unfold zsup zplw
  by_cases e0 : w = 0
  · rw [if_pos e0, if_pos e0]; exact t.u1 (h0 e0)
  · rw [if_neg e0, if_neg e0]
    by_cases e1 : w = 1
    · rw [if_pos e1, if_pos e1]; exact t.u2 ⟨v, hv, rfl⟩
    · rw [if_neg e1, if_neg e1]
      by_cases e2 : w = 2
      · rw [if_pos e2, if_pos e2]; exact t.u4 ⟨v, hv, rfl⟩
      · rw [if_neg e2, if_neg e2]
        exact t.u0 (by decide) (fun _ => ⟨v, hv, rfl⟩) (fun q => absurd q (by decide)) ⟨by decide, by decide⟩
theorem zRl.fi (h : zRl F g n) {ic im : Nat → Int32} {m w hi : Nat} (hit : ∀ k, k < m → ic k = im k) (hh : hi ≤ 9) (hw : w = 0 → hi ≤ 5) : ∀ (k v : Nat) (b : Int32) (S : zS) (f : zF), v + k = hi + 1 → (w = 0 → 1 ≤ v) → (zfiL F n p w ic m k v b S).1 = (zwoM g n (zplw p w) im m k v b f).1
  | 0, v, b, S, f, hv, h1 => rfl
  | k + 1, v, b, S, f, hv, h1 => by
    have hs := h.sup (S := S) (f := f) (p := p) (w := w) (v := v) (by omega) (fun e => ⟨h1 e, by have := hw e; omega⟩)
    have e := zRl.so hit m 0 (by omega) hs
    unfold zfiL zwoM
    unfold zfit
    by_cases q : (zctL n ic m 0 (zsup (takeC S F) p w (nI v))).1 = true
    · rw [if_pos q, if_pos (e ▸ q)]
      exact zRl.fi h hit hh hw k (v + 1) _ _ _ (by omega) (fun e => by have := h1 e; omega)
    · rw [if_neg q, if_neg (e ▸ q), show nI 0 = (0 : Int32) from rfl, Int32.or_zero]
      exact zRl.fi h hit hh hw k (v + 1) _ _ _ (by omega) (fun e => by have := h1 e; omega)
end ZR7
