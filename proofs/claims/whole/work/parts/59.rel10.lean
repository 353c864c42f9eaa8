section ZRa
variable {S T F : zS} {f g : zF} {n p : Nat} {x v : Int32}
theorem zq_bc : ∀ h, h < 64 → zbc (nI h) = zbiM (nI h) 6 := by decide +kernel
theorem zbM_cong {c d : Nat → Bool} : ∀ m, (∀ p, p < m → c p = d p) → zbM c m = zbM d m
  | 0, _ => rfl
  | m + 1, h => by
    unfold zbM
    rw [zbM_cong m (fun p hp => h p (by omega)), h m (by omega)]
theorem zq_bm : ∀ m, m < 7 → ∀ h, h < 64 → h < 2 ^ m → zbM (fun p => decide ((nI h >>> (nI p &&& 31)) &&& nI 1 = nI 1)) m = nI h := by decide +kernel
theorem zRl.hdn (h : zRl S f n) : zhdn f n = S 0 6 := by
  have h6 := h.1
  have hp := h.2.2.2.1
  obtain ⟨b, hb, eb⟩ := h.2.2.2.2.2.2.2.1
  have h64 : b < 64 := Nat.lt_of_lt_of_le hb (Nat.pow_le_pow_right (by decide) h6)
  rw [eb, ← zq_bm n (by omega) b h64 hb]
  unfold zhdn
  refine zbM_cong n (fun p hpn => ?_)
  rw [(hp p hpn).2.2.2.2]
  unfold hidC
  rw [eb]
theorem zRl.nmlB (h : zRl S f n) : zbc (zNml S n) = zbiM (zbM (fun p => decide (f (6 + 5 * p + 3) = 0)) n) 6 := by
  obtain ⟨b, hb, eb, -⟩ := zbits_nat (c := fun p => decide (S 4 p = 0)) n h.1
  have h64 : b < 64 := Nat.lt_of_lt_of_le hb (Nat.pow_le_pow_right (by decide) h.1)
  rw [h.nml n (Nat.le_refl _), show zNml S n = nI b from eb]
  exact zq_bc b h64
theorem zq_hide : ∀ m, m < 7 → ∀ h, h < 64 → h < 2 ^ m → ∀ p, p < m → (∃ h2, h2 < 2 ^ m ∧ nI h ^^^ (nI 1 <<< (nI p &&& 31)) = nI h2) := by decide +kernel
theorem zq_hid2 : ∀ h, h < 64 → ∀ p, p < 6 → ∀ q, q < 6 → (((nI h ^^^ (nI 1 <<< (nI p &&& 31))) >>> (nI q &&& 31)) &&& nI 1 = if q = p then nI 1 - ((nI h >>> (nI q &&& 31)) &&& nI 1) else (nI h >>> (nI q &&& 31)) &&& nI 1) := by decide +kernel
/-- one is hidden, or shown again -/
theorem zRl.hide (h : zRl S f n) (hp : p < n) : zRl (zsu S 0 6 (S 0 6 ^^^ (nI 1 <<< (nI p &&& 31)))) (upd f (6 + 5 * p + 4) (nI 1 - f (6 + 5 * p + 4))) n := by
  obtain ⟨h6, hn, h0, hr, hc, hd, hr3, ⟨b, hb, eb⟩, hq⟩ := h
  have h64 : b < 64 := Nat.lt_of_lt_of_le hb (Nat.pow_le_pow_right (by decide) h6)
  obtain ⟨b2, hb2, eb2⟩ := zq_hide n (by omega) b h64 hb p hp
  refine ⟨h6, by rw [zs_ne (by omega)]; exact hn, fun k hk => by rw [zu_ne (by omega), zs_ne (by omega)]; exact h0 k hk, fun q hq2 => ?_, by rw [zs_ne (by omega)]; exact hc, by rw [zs_ne (by omega)]; exact hd, by rw [zs_ne (by omega)]; exact hr3, ⟨b2, hb2, by rw [zs_eq, eb]; exact eb2⟩, fun q hq2 => by rw [zs_ne (by omega), zs_ne (by omega), zs_ne (by omega), zs_ne (by omega)]; exact hq q hq2⟩
  obtain ⟨g1, g2, g3, g4, g5⟩ := hr q hq2
  refine ⟨by rw [zu_ne (by omega), zs_ne (by omega)]; exact g1, by rw [zu_ne (by omega), zs_ne (by omega)]; exact g2, by rw [zu_ne (by omega), zs_ne (by omega)]; exact g3, by rw [zu_ne (by omega), zs_ne (by omega)]; exact g4, ?_⟩
  have e := zq_hid2 b h64 p (by omega) q (by omega)
  unfold hidC
  rw [zs_eq, eb, e]
  by_cases z : q = p
  · subst z
    rw [zu_eq, if_pos rfl, g5]
    unfold hidC
    rw [eb]
  · rw [zu_ne (by omega), if_neg z, g5]
    unfold hidC
    rw [eb]
end ZRa
