section ZST
def zpi (k : Nat) : Nat := if k < 5 then 15 + k else if k < 10 then 20 + (k - 5) else if k < 15 then 147 + (k - 10) else if k < 20 then 152 + (k - 15) else if k < 25 then 158 + (k - 20) else if k < 145 then 27 + (k - 25) else if k = 145 then 0 else if k = 146 then 1 else if k = 147 then 2 else if k < 156 then 3 + (k - 148) else if k = 156 then 11 else if k = 157 then 12 else if k = 158 then 13 else if k = 159 then 14 else if k = 160 then 25 else if k = 161 then 26 else if k = 162 then 157 else k
theorem zpi_lt : ∀ k, k < 177 → zpi k < 177 := by decide +kernel
theorem zpi_inj : ∀ i, i < 177 → ∀ j, j < 177 → zpi i = zpi j → i = j := by decide +kernel
def zM0 : zMem := (fun _ q k => if q = 0 then (if k = 7 then -1000000 else 0) else 0, fun a k => if a = 157 then zSz k else if a = 166 then zLn k else 0)
theorem zInv_0 : zInv zM0 := by
  refine ⟨rfl, rfl, rfl, ⟨0, 0, 0, 0, 0, by omega, ?_, rfl, rfl⟩, ⟨0, 0, rfl, rfl⟩, fun j h1 h2 => ?_, ⟨0, by omega, rfl, fun k hk => ?_, fun p hp => absurd hp (by omega), ⟨0, by omega, rfl⟩, ⟨0, by omega, rfl⟩, ⟨0, by omega, rfl⟩, ⟨0, by decide, rfl⟩, fun p hp => absurd hp (by omega)⟩, ⟨Or.inl ⟨rfl, rfl⟩, Or.inl ⟨rfl, rfl⟩⟩, ⟨0, 0, by omega, by omega, rfl, rfl, rfl, fun i hi => absurd hi (by omega)⟩, fun r hr => ?_, ⟨0, by omega, rfl, rfl, rfl⟩⟩
  · funext k
    show (0 : Int32) = zTr 0 0 0 0 0 k
    unfold zTr
    split
    · rfl
    · split
      · rfl
      · split
        · rfl
        · split
          · rfl
          · split <;> rfl
  · rcases (show j = 3 ∨ j = 4 ∨ j = 5 ∨ j = 6 by omega) with rfl | rfl | rfl | rfl <;> rfl
  · rcases (show k = 0 ∨ k = 1 ∨ k = 2 ∨ k = 3 ∨ k = 4 ∨ k = 5 by omega) with rfl | rfl | rfl | rfl | rfl | rfl <;> rfl
  · rcases (show r = 0 ∨ r = 1 ∨ r = 2 ∨ r = 3 ∨ r = 4 ∨ r = 5 ∨ r = 6 ∨ r = 7 by omega) with rfl | rfl | rfl | rfl | rfl | rfl | rfl | rfl <;> exact ⟨Or.inl ⟨rfl, rfl⟩, fun k _ => rfl⟩
theorem zAO2 {args : Array Value} {s : State} (h : (Cond.arrayOver (.array .int)).before args s = true) : ∃ (comp c : ClassId) (k : Class), s.vm.findClass "[I" = some comp ∧ s.vm.classes[c]? = some k ∧ k.kind = .array comp (.array .int) ∧ s.vm.findClass "[[I" = some c := by
  simp only [Cond.before, Cond.holds, Cond.value, beq_iff_eq] at h
  obtain ⟨comp, hc, h⟩ := Option.bind_eq_some_iff.mp h
  obtain ⟨c, hi, h⟩ := Option.bind_eq_some_iff.mp h
  obtain ⟨k, hk, hb⟩ := Option.map_eq_some_iff.mp h
  obtain ⟨hlt, hp, -⟩ := Array.findIdx?_eq_some_iff_getElem.mp hi
  have hkk : s.vm.classes[c] = k := (Array.getElem?_eq_some_iff.mp hk).2
  rw [hkk] at hp
  cases hkind : k.kind with
  | array component ty =>
    rw [hkind] at hb hp
    simp at hb hp
    exact ⟨comp, c, k, hc, hk, by rw [hkind, hp, hb.1], hb.2⟩
  | _ => rw [hkind] at hb; simp at hb
/-- all that was made, as the law found it -/
def zE0 (J : zJ) (h0 t : Nat) : zE := (J.1, J.2.1, fun k => h0 + zpi k, J.2.2, t)
def zall0 (J : zJ) (h0 i : Nat) : va_E := if i < 165 then zcs6 J h0 i else zcs7 J (h0 + 165) (i - 165)
theorem zat_rf {D : va_G} {a N : Nat} {cA : ClassId} {f g : Nat → Option Nat} {H : Heap} (h : va_at D vwCl (a, zrf cA N f) H) (e : ∀ j, j < N → f j = g j) : va_at D vwCl (a, zrf cA N g) H := by
  have h : H[a]? = some (vp_cell cA (N, .inr (.inr (.inr (.inr f))))) := h
  show H[a]? = some (vp_cell cA (N, .inr (.inr (.inr (.inr g)))))
  rw [h, vp_cell_q, vp_cell_q]
  unfold arrV
  congr 2
  refine congrArg Array.ofFn (funext fun j => ?_)
  dsimp only
  rw [e j.val j.isLt]
set_option maxHeartbeats 4000000 in
set_option maxRecDepth 100000 in
theorem zcell {J : zJ} {h0 t : Nat} : ∀ k, k < 177 → k ≠ 147 → k ≠ 161 → zall0 J h0 (zpi k) = zce (zE0 J h0 t) zM0 k := by
  intro k hk h1 h2
  by_cases hs : k < 145
  · obtain ⟨j, q, hj, hq, rfl⟩ : ∃ j q, j < 29 ∧ q < 5 ∧ k = 5 * j + q := ⟨k / 5, k % 5, by omega, by omega, by omega⟩
    have hjs : j = 0 ∨ j = 1 ∨ j = 2 ∨ j = 3 ∨ j = 4 ∨ j = 5 ∨ j = 6 ∨ j = 7 ∨ j = 8 ∨ j = 9 ∨ j = 10 ∨ j = 11 ∨ j = 12 ∨ j = 13 ∨ j = 14 ∨ j = 15 ∨ j = 16 ∨ j = 17 ∨ j = 18 ∨ j = 19 ∨ j = 20 ∨ j = 21 ∨ j = 22 ∨ j = 23 ∨ j = 24 ∨ j = 25 ∨ j = 26 ∨ j = 27 ∨ j = 28 := by omega
    rcases (show q = 0 ∨ q = 1 ∨ q = 2 ∨ q = 3 ∨ q = 4 by omega) with rfl | rfl | rfl | rfl | rfl

    · clear hk h1 h2 hs hj hq
      rcases hjs with rfl | rfl | rfl | rfl | rfl | rfl | rfl | rfl | rfl | rfl | rfl | rfl | rfl | rfl | rfl | rfl | rfl | rfl | rfl | rfl | rfl | rfl | rfl | rfl | rfl | rfl | rfl | rfl | rfl <;> rfl
    · clear hk h1 h2 hs hj hq
      rcases hjs with rfl | rfl | rfl | rfl | rfl | rfl | rfl | rfl | rfl | rfl | rfl | rfl | rfl | rfl | rfl | rfl | rfl | rfl | rfl | rfl | rfl | rfl | rfl | rfl | rfl | rfl | rfl | rfl | rfl <;> rfl
    · clear hk h1 h2 hs hj hq
      rcases hjs with rfl | rfl | rfl | rfl | rfl | rfl | rfl | rfl | rfl | rfl | rfl | rfl | rfl | rfl | rfl | rfl | rfl | rfl | rfl | rfl | rfl | rfl | rfl | rfl | rfl | rfl | rfl | rfl | rfl <;> rfl
    · clear hk h1 h2 hs hj hq
      rcases hjs with rfl | rfl | rfl | rfl | rfl | rfl | rfl | rfl | rfl | rfl | rfl | rfl | rfl | rfl | rfl | rfl | rfl | rfl | rfl | rfl | rfl | rfl | rfl | rfl | rfl | rfl | rfl | rfl | rfl <;> rfl
    · clear hk h1 h2 hs hj hq
      rcases hjs with rfl | rfl | rfl | rfl | rfl | rfl | rfl | rfl | rfl | rfl | rfl | rfl | rfl | rfl | rfl | rfl | rfl | rfl | rfl | rfl | rfl | rfl | rfl | rfl | rfl | rfl | rfl | rfl | rfl <;> rfl
  · rcases (show k = 145 ∨ k = 146 ∨ k = 148 ∨ k = 149 ∨ k = 150 ∨ k = 151 ∨ k = 152 ∨ k = 153 ∨ k = 154 ∨ k = 155 ∨ k = 156 ∨ k = 157 ∨ k = 158 ∨ k = 159 ∨ k = 160 ∨ k = 162 ∨ k = 163 ∨ k = 164 ∨ k = 165 ∨ k = 166 ∨ k = 167 ∨ k = 168 ∨ k = 169 ∨ k = 170 ∨ k = 171 ∨ k = 172 ∨ k = 173 ∨ k = 174 ∨ k = 175 ∨ k = 176 by omega) with rfl | rfl | rfl | rfl | rfl | rfl | rfl | rfl | rfl | rfl | rfl | rfl | rfl | rfl | rfl | rfl | rfl | rfl | rfl | rfl | rfl | rfl | rfl | rfl | rfl | rfl | rfl | rfl | rfl | rfl <;> rfl
theorem zP0 {J : zJ} {h0 t : Nat} {H : Heap} (A : zwA J h0 177 (zall0 J h0) H) : va_P (zE0 J h0 t).2.1 vwCl (zwl (zE0 J h0 t) zM0) H := by
  intro k q hq
  have hk := zwl_lt hq
  rw [zwl_at _ _ hk] at hq
  cases hq
  have hat := A.2 (zpi k) (zpi_lt k hk)
  by_cases h1 : k = 147
  · subst h1
    exact zat_rf (f := fun j => if j < 8 then some (h0 + 1 + 1 + 1 + j) else none) (g := fun i => some (zad (zE0 J h0 t) (148 + i))) hat (fun j hj => by
      rcases (show j = 0 ∨ j = 1 ∨ j = 2 ∨ j = 3 ∨ j = 4 ∨ j = 5 ∨ j = 6 ∨ j = 7 by omega) with rfl | rfl | rfl | rfl | rfl | rfl | rfl | rfl <;> rfl)
  · by_cases h2 : k = 161
    · subst h2
      exact zat_rf (f := fun q => if q < 24 then some (h0 + 25 + 2 + 5 * q) else none) (g := fun i => some (zad (zE0 J h0 t) (zsq (5 + i)))) hat (fun j hj => by
        rcases (show j = 0 ∨ j = 1 ∨ j = 2 ∨ j = 3 ∨ j = 4 ∨ j = 5 ∨ j = 6 ∨ j = 7 ∨ j = 8 ∨ j = 9 ∨ j = 10 ∨ j = 11 ∨ j = 12 ∨ j = 13 ∨ j = 14 ∨ j = 15 ∨ j = 16 ∨ j = 17 ∨ j = 18 ∨ j = 19 ∨ j = 20 ∨ j = 21 ∨ j = 22 ∨ j = 23 by omega) with rfl | rfl | rfl | rfl | rfl | rfl | rfl | rfl | rfl | rfl | rfl | rfl | rfl | rfl | rfl | rfl | rfl | rfl | rfl | rfl | rfl | rfl | rfl | rfl <;> rfl)
    · rw [zcell (t := t) k hk h1 h2] at hat
      exact hat
end ZST
