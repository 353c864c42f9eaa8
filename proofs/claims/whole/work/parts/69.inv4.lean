section ZSe
variable {Q : Nat → Nat → Nat → Int32} {Z Z2 : zS} {E : zE} {n p : Nat} {S : zS} {f g : zF}
theorem zInv.rowed (h : zInv (Q, Z)) {x : Int32} (hb : ∀ b, (157 < b ∧ b < 165) ∨ 168 < b → Z2 b = Z b) (e1 : Z2 145 = upd (Z 145) 9 x) (e2 : Z2 165 = upd (Z 165) 1 x) (hr : zIR Z2) : zInv (Q, Z2) := by
  obtain ⟨c1, c2, c3, c4, c5, c6, c7, c8, c9, c10, c11⟩ := h
  have s : ∀ k, k ≠ 1 → Z2 165 k = Z 165 k := fun k hk => by
    rw [e2, zu_ne hk]
  refine ⟨?_, ?_, ?_, ?_, ?_, c6, ?_, ?_, ?_, hr, ?_⟩
  · show Z2 165 0 = nI 0
    rw [s 0 (by decide)]
    exact c1
  · show Z2 145 9 = Z2 165 1
    rw [e1, e2, zu_eq, zu_eq]
  · show Z2 145 8 = Z2 165 18
    rw [e1, zu_ne (by decide), s 18 (by decide)]
    exact c3
  · show zIT (Z2 158) (Z2 159) (Z2 165 11) (Z2 173)
    rw [hb 158 (by omega), hb 159 (by omega), hb 173 (by omega), s 11 (by decide)]
    exact c4
  · show ∃ c s : Nat, Z2 165 12 = nI c ∧ Z2 165 13 = nI s
    rw [s 12 (by decide), s 13 (by decide)]
    exact c5
  · show ∃ n, zRl (Q 1) (Z2 169) n
    rw [hb 169 (by omega)]
    exact c7
  · show zIm (Q 2) (Z2 174 0) (Z2 175) ∧ zIm (Q 3) (Z2 174 1) (fun k => Z2 175 (36 + k))
    rw [hb 174 (by omega), hb 175 (by omega)]
    exact c8
  · show zIA Q (Z2 160) (Z2 165 9) (Z2 172)
    rw [hb 160 (by omega), hb 172 (by omega), s 9 (by decide)]
    exact c9
  · show zIt (Z2 163 2) (Z2 165 22) (Z2 164) (Z2 176)
    rw [hb 163 (by omega), hb 164 (by omega), hb 176 (by omega), s 22 (by decide)]
    exact c11
theorem hIt {m : Nat} (hm : m ≤ 40) {i k : Int32} : (¬ i < 0 ∧ ¬ k < 0 ∧ ¬ (nI m).toInt64 < i.toInt64 + k.toInt64) ↔ ∃ a b : Nat, i = nI a ∧ k = nI b ∧ a + b ≤ m := by
  constructor
  · intro ⟨h1, h2, h3⟩
    obtain ⟨a, ha, ea⟩ := nI_of h1
    obtain ⟨b, hb, eb⟩ := nI_of h2
    refine ⟨a, b, ea, eb, ?_⟩
    rw [ea, eb, nI_l ha, nI_l hb, nI_l (by omega), lN_add, pk_lLT (by omega) (by omega)] at h3
    omega
  · rintro ⟨a, b, ea, eb, hab⟩
    rw [ea, eb, nI_l (by omega), nI_l (by omega), nI_l (by omega), lN_add, pk_lLT (by omega) (by omega)]
    exact ⟨nI_pos (by omega), nI_pos (by omega), by omega⟩
theorem rw_lane {l : Nat} (h : l ≤ 2) : 0 ≤ nI l ∧ ¬ nI l < 0 := ⟨nI_pos' (by omega), nI_pos (by omega)⟩
theorem rw_m1 : ¬ (0 : Int32) ≤ -1 := by decide
theorem rw_nm {m : Nat} (h : m ≤ 40) : ¬ nI m = -1 := fun q => by
  have := nI_pos (n := m) (by omega)
  rw [q] at this
  exact this (by decide)
theorem s_row (h : zInv (Q, Z)) {x l m : Int32} : zStep E zm_X6_row zm_X7_row [.int x, .int l, .int m] (Q, Z) := by
  have h0 : Z 165 0 = nI 0 := h.1
  have c10 : zIR Z := h.2.2.2.2.2.2.2.2.2.1
  by_cases c : (nI 0 ≤ x ∧ x ≤ nI 7) ∧ (nI 0 ≤ l ∧ l ≤ nI 2) ∧ m ≤ nI 40
  · obtain ⟨c1, c2, c3⟩ := c
    obtain ⟨r, r1, r2, rfl⟩ := rg (by decide) (by decide) c1
    have hr : r < 8 := by omega
    by_cases hm : m < 0
    · exact .i (x_row_size hr c2 hm c3) (m_row_size (Z := zsu Z 145 9 (nI 4)) h0 hr c2 hm c3) rfl h.st2 (by decide) (by decide)
    · have hm0 : 0 ≤ m := Int32.not_lt.mp hm
      obtain ⟨lk, l1, l2, el⟩ := rg (a := 0) (b := 2) (by decide) (by decide) c2
      obtain ⟨mk, m1, m2, em⟩ := rg (a := 0) (b := 40) (x := m) (by decide) (by decide) ⟨hm0, c3⟩
      obtain ⟨Z1, eZ1⟩ : ∃ Z1, zmkR (zsu Z 145 9 (nI 0)) r l m = Z1 := ⟨_, rfl⟩
      have b1 : ∀ b, b ≠ 145 → b ≠ 156 → b ≠ 157 → b ≠ 148 + r → Z1 b = Z b := fun b a1 a2 a3 a4 => by
        rw [← eZ1]
        unfold zmkR
        rw [zsu_ne _ _ a3, zsu_ne _ _ a2, va_up_ne _ _ a4, zsu_ne _ _ a1]
      have hx := x_row_ok (E := E) (Q := Q) (Z := Z) hr c2 hm0 c3
      rw [eZ1] at hx
      have z0 : Z1 165 0 = nI 0 := by
        rw [b1 165 (by decide) (by decide) (by decide) (by omega)]
        exact h0
      refine .i hx (m_row_ok (Z := Z1) z0 hr c2 hm0 c3) rfl ?_ (by decide) (by decide)
      have e2 : ∀ b, b ≠ 145 → b ≠ 156 → b ≠ 157 → b ≠ 148 + r → b ≠ 165 → b ≠ 166 → b ≠ 167 → b ≠ 168 → va_up (zsu (zsu (zsu Z1 165 1 (nI 0)) 166 r l) 167 r m) 168 (zpt (Z1 168) (fun _ => nI 0) (40 * r) 40) b = Z b := fun b a1 a2 a3 a4 a5 a6 a7 a8 => by
        rw [va_up_ne _ _ a8, zsu_ne _ _ a7, zsu_ne _ _ a6, zsu_ne _ _ a5, b1 b a1 a2 a3 a4]
      have z168 : Z1 168 = Z 168 := b1 168 (by decide) (by decide) (by decide) (by omega)
      have k157 : Z1 157 = upd (Z 157) r m := by
        rw [← eZ1]
        unfold zmkR
        rw [zsu_row, zsu_ne _ _ (by decide), va_up_ne _ _ (by omega), zsu_ne _ _ (by decide)]
      have k156 : Z1 156 = upd (Z 156) r l := by
        rw [← eZ1]
        unfold zmkR
        rw [zsu_ne _ _ (by decide), zsu_row, va_up_ne _ _ (by omega), zsu_ne _ _ (by decide)]
      have k145 : Z1 145 = upd (Z 145) 9 (nI 0) := by
        rw [← eZ1]
        unfold zmkR
        rw [zsu_ne _ _ (by decide), zsu_ne _ _ (by decide), va_up_ne _ _ (by omega), zsu_row]
      have kr : ∀ k, k < 40 → Z1 (148 + r) k = nI 0 := fun k hk => by
        rw [← eZ1]
        unfold zmkR
        rw [zsu_ne _ _ (by omega), zsu_ne _ _ (by omega), va_up_self, if_pos hk]
      refine h.rowed (x := nI 0) (fun b hb => e2 b (by omega) (by omega) (by omega) (by omega) (by omega) (by omega) (by omega) (by omega)) ?_ ?_ ?_
      · rw [va_up_ne _ _ (by decide), zsu_ne _ _ (by decide), zsu_ne _ _ (by decide), zsu_ne _ _ (by decide), k145]
      · rw [va_up_ne _ _ (by decide), zsu_ne _ _ (by decide), zsu_ne _ _ (by decide), zsu_row, b1 165 (by decide) (by decide) (by decide) (by omega)]
      · intro q hq
        obtain ⟨g1, g2⟩ := c10 q hq
        have w157 : va_up (zsu (zsu (zsu Z1 165 1 (nI 0)) 166 r l) 167 r m) 168 (zpt (Z1 168) (fun _ => nI 0) (40 * r) 40) 157 = upd (Z 157) r m := by
          rw [va_up_ne _ _ (by decide), zsu_ne _ _ (by decide), zsu_ne _ _ (by decide), zsu_ne _ _ (by decide), k157]
        have w156 : va_up (zsu (zsu (zsu Z1 165 1 (nI 0)) 166 r l) 167 r m) 168 (zpt (Z1 168) (fun _ => nI 0) (40 * r) 40) 156 = upd (Z 156) r l := by
          rw [va_up_ne _ _ (by decide), zsu_ne _ _ (by decide), zsu_ne _ _ (by decide), zsu_ne _ _ (by decide), k156]
        have w166 : va_up (zsu (zsu (zsu Z1 165 1 (nI 0)) 166 r l) 167 r m) 168 (zpt (Z1 168) (fun _ => nI 0) (40 * r) 40) 166 = upd (Z 166) r l := by
          rw [va_up_ne _ _ (by decide), zsu_ne _ _ (by decide), zsu_row, zsu_ne _ _ (by decide), b1 166 (by decide) (by decide) (by decide) (by omega)]
        have w167 : va_up (zsu (zsu (zsu Z1 165 1 (nI 0)) 166 r l) 167 r m) 168 (zpt (Z1 168) (fun _ => nI 0) (40 * r) 40) 167 = upd (Z 167) r m := by
          rw [va_up_ne _ _ (by decide), zsu_row, zsu_ne _ _ (by decide), zsu_ne _ _ (by decide), b1 167 (by decide) (by decide) (by decide) (by omega)]
        have w168 : va_up (zsu (zsu (zsu Z1 165 1 (nI 0)) 166 r l) 167 r m) 168 (zpt (Z1 168) (fun _ => nI 0) (40 * r) 40) 168 = zpt (Z 168) (fun _ => nI 0) (40 * r) 40 := by
          rw [va_up_self, z168]
        have wr : va_up (zsu (zsu (zsu Z1 165 1 (nI 0)) 166 r l) 167 r m) 168 (zpt (Z1 168) (fun _ => nI 0) (40 * r) 40) (148 + q) = Z1 (148 + q) := by
          rw [va_up_ne _ _ (by omega), zsu_ne _ _ (by omega), zsu_ne _ _ (by omega), zsu_ne _ _ (by omega)]
        rw [w157, w156, w166, w167, w168, wr]
        by_cases e : q = r
        · subst e
          rw [zu_eq, zu_eq, zu_eq, zu_eq]
          refine ⟨Or.inr ⟨mk, lk, m2, l2, em, em, el, el⟩, fun k hk => ?_⟩
          rw [kr k hk]
          unfold zpt
          rw [if_pos (by omega)]
        · rw [zu_ne e, zu_ne e, zu_ne e, zu_ne e]
          refine ⟨g1, fun k hk => ?_⟩
          rw [b1 (148 + q) (by omega) (by omega) (by omega) (by omega), g2 k hk]
          unfold zpt
          rw [if_neg (by omega)]
  · exact .i (x_row_bad c) (m_row_bad h0 c) rfl h (by decide) (by decide)
theorem s_drop (h : zInv (Q, Z)) {x : Int32} : zStep E zm_X6_drop zm_X7_drop [.int x] (Q, Z) := by
  have h0 : Z 165 0 = nI 0 := h.1
  have c10 : zIR Z := h.2.2.2.2.2.2.2.2.2.1
  by_cases c : nI 0 ≤ x ∧ x ≤ nI 7
  · obtain ⟨r, r1, r2, rfl⟩ := rg (by decide) (by decide) c
    have hr : r < 8 := by omega
    rcases (c10 r hr).1 with ⟨a1, a2⟩ | ⟨m, l, hm, hl, a1, a2, a3, a4⟩
    · exact .i (x_drop_null hr a1) (m_drop_null (Z := zsu Z 145 9 (nI 1)) h0 hr (show ¬ 0 ≤ Z 166 r by rw [a2]; decide)) rfl h.st2 (by decide) (by decide)
    · refine .i (x_drop_ok hr (by rw [a1]; exact rw_nm hm)) (m_drop_ok (Z := zsu (zsu Z 145 9 (nI 0)) 157 r (-1)) h0 hr (show 0 ≤ Z 166 r by rw [a4]; exact (rw_lane hl).1)) (a1.trans a2.symm) ?_ (by decide) (by decide)
      refine h.rowed (x := nI 0) (fun b hb => by rw [zsu_ne _ _ (by omega), zsu_ne _ _ (by omega), zsu_ne _ _ (by omega), zsu_ne _ _ (by omega)]) rfl rfl ?_
      intro q hq
      obtain ⟨g1, g2⟩ := c10 q hq
      have wr : zsu (zsu (zsu (zsu Z 145 9 (nI 0)) 157 r (-1)) 165 1 (nI 0)) 166 r (-1) (148 + q) = Z (148 + q) := by
        rw [zsu_ne _ _ (by omega), zsu_ne _ _ (by omega), zsu_ne _ _ (by omega), zsu_ne _ _ (by omega)]
      rw [wr]
      show ((upd (Z 157) r (-1) q = -1 ∧ upd (Z 166) r (-1) q = -1) ∨ (∃ m l : Nat, m ≤ 40 ∧ l ≤ 2 ∧ upd (Z 157) r (-1) q = nI m ∧ Z 167 q = nI m ∧ Z 156 q = nI l ∧ upd (Z 166) r (-1) q = nI l)) ∧ ∀ k, k < 40 → Z (148 + q) k = Z 168 (40 * q + k)
      by_cases e : q = r
      · subst e
        rw [zu_eq, zu_eq]
        exact ⟨Or.inl ⟨rfl, rfl⟩, g2⟩
      · rw [zu_ne e, zu_ne e]
        exact ⟨g1, g2⟩
  · exact .i (x_drop_bad c) (m_drop_bad h0 c) rfl h (by decide) (by decide)
theorem s_set (h : zInv (Q, Z)) {x i v : Int32} : zStep E zm_X6_set zm_X7_set [.int x, .int i, .int v] (Q, Z) := by
  have h0 : Z 165 0 = nI 0 := h.1
  have c10 : zIR Z := h.2.2.2.2.2.2.2.2.2.1
  by_cases c : nI 0 ≤ x ∧ x ≤ nI 7
  · obtain ⟨r, r1, r2, rfl⟩ := rg (by decide) (by decide) c
    have hr : r < 8 := by omega
    rcases (c10 r hr).1 with ⟨a1, a2⟩ | ⟨m, l, hm, hl, a1, a2, a3, a4⟩
    · exact .i (x_set_null hr a1) (m_set_null (Z := zsu Z 145 9 (nI 1)) h0 hr (show ¬ 0 ≤ Z 166 r by rw [a2]; decide)) rfl h.st2 (by decide) (by decide)
    · have hz : ¬ Z 157 r = -1 := by rw [a1]; exact rw_nm hm
      have hy : 0 ≤ Z 166 r := by rw [a4]; exact (rw_lane hl).1
      by_cases kq : ¬ i < 0 ∧ ¬ nI 1 < 0 ∧ ¬ (Z 157 r).toInt64 < i.toInt64 + (nI 1).toInt64
      · have k2 := kq
        rw [a1] at k2
        obtain ⟨j, b, rfl, eb, hjb⟩ := (hIt hm).mp k2
        have hb1 : 1 = b := (nI_eq (by omega) (by omega)).mp eb
        obtain ⟨Z1, eZ1⟩ : ∃ Z1, zsu (zsu Z 145 9 (nI 0)) (148 + r) j (zputV (Z 156 r) v) = Z1 := ⟨_, rfl⟩
        have b1 : ∀ b, b ≠ 145 → b ≠ 148 + r → Z1 b = Z b := fun b a1 a2 => by
          rw [← eZ1, zsu_ne _ _ a2, zsu_ne _ _ a1]
        have hx := x_set_ok (E := E) (Q := Q) (Z := Z) (v := v) hr (by omega) hz kq
        rw [eZ1] at hx
        have z165 := b1 165 (by decide) (by omega)
        have z166 := b1 166 (by decide) (by omega)
        have z167 := b1 167 (by decide) (by omega)
        have z168 := b1 168 (by decide) (by omega)
        refine .i hx (m_set_ok (Z := Z1) (by rw [z165]; exact h0) hr (by omega) (by rw [z166]; exact hy) (by rw [z167, a2, pk_sub (by omega)]; exact ⟨nI_le (by omega) (by omega), nI_le (by omega) (by omega)⟩)) (by rw [z166, a3, a4]) ?_ (by decide) (by decide)
        refine h.rowed (x := nI 0) (fun b hb => by rw [zsu_ne _ _ (by omega), zsu_ne _ _ (by omega), b1 b (by omega) (by omega)]) ?_ ?_ ?_
        · rw [zsu_ne _ _ (by decide), zsu_ne _ _ (by decide), ← eZ1, zsu_ne _ _ (by omega), zsu_row]
        · rw [zsu_ne _ _ (by decide), zsu_row, z165]
        · intro q hq
          obtain ⟨g1, g2⟩ := c10 q hq
          have w : ∀ b, b = 157 ∨ b = 156 ∨ b = 166 ∨ b = 167 → zsu (zsu Z1 165 1 (nI 0)) 168 (40 * r + j) (zputV (Z1 166 r) v) b = Z b := fun b hb => by
            rw [zsu_ne _ _ (by omega), zsu_ne _ _ (by omega), b1 b (by omega) (by omega)]
          have w168 : zsu (zsu Z1 165 1 (nI 0)) 168 (40 * r + j) (zputV (Z1 166 r) v) 168 = upd (Z 168) (40 * r + j) (zputV (Z 166 r) v) := by
            rw [zsu_row, zsu_ne _ _ (by decide), z168, z166]
          have wr : zsu (zsu Z1 165 1 (nI 0)) 168 (40 * r + j) (zputV (Z1 166 r) v) (148 + q) = Z1 (148 + q) := by
            rw [zsu_ne _ _ (by omega), zsu_ne _ _ (by omega)]
          rw [w 157 (by omega), w 156 (by omega), w 166 (by omega), w 167 (by omega), w168, wr]
          refine ⟨g1, fun k hk => ?_⟩
          by_cases e : q = r
          · subst e
            rw [← eZ1, zsu_row, zsu_ne _ _ (by omega)]
            by_cases e3 : k = j
            · subst e3
              rw [zu_eq, zu_eq, a3, a4]
            · rw [zu_ne e3, zu_ne (by omega)]
              exact g2 k hk
          · rw [b1 (148 + q) (by omega) (by omega), zu_ne (by omega)]
            exact g2 k hk
      · refine .i (x_set_place hr hz kq) (m_set_place (Z := zsu Z 145 9 (nI 2)) h0 hr hy ?_) rfl h.st2 (by decide) (by decide)
        show ¬ (nI 0 ≤ i ∧ i ≤ Z 167 r - nI 1)
        rw [a2]
        intro ⟨q1, q2⟩
        apply kq
        rw [a1, hIt hm]
        have m1 : 1 ≤ m := by
          rcases Nat.eq_zero_or_pos m with z | z
          · subst z
            exact absurd (Int32.le_trans q1 q2) (by decide)
          · exact z
        rw [pk_sub m1] at q2
        obtain ⟨j, j1, j2, ej⟩ := rg (by decide) (by omega) ⟨q1, q2⟩
        exact ⟨j, 1, ej, rfl, by omega⟩
  · exact .i (x_set_bad c) (m_set_bad h0 c) rfl h (by decide) (by decide)
theorem s_copy (h : zInv (Q, Z)) {x i y j k : Int32} : zStep E zm_X6_copy zm_X7_copy [.int x, .int i, .int y, .int j, .int k] (Q, Z) := by
  have h0 : Z 165 0 = nI 0 := h.1
  have c10 : zIR Z := h.2.2.2.2.2.2.2.2.2.1
  by_cases c : (nI 0 ≤ x ∧ x ≤ nI 7) ∧ (nI 0 ≤ y ∧ y ≤ nI 7)
  · obtain ⟨c1, c2⟩ := c
    obtain ⟨a, a1, a2, rfl⟩ := rg (by decide) (by decide) c1
    obtain ⟨d, d1, d2, rfl⟩ := rg (by decide) (by decide) c2
    have ha : a < 8 := by omega
    have hd : d < 8 := by omega
    obtain ⟨ga, fa⟩ := c10 a ha
    obtain ⟨gd, fd⟩ := c10 d hd
    rcases ga with ⟨ga1, ga2⟩ | ⟨ma, la, hma, hla, ga1, ga2, ga3, ga4⟩
    · exact .i (x_copy_null ha hd (Or.inl ga1)) (m_copy_null (Z := zsu Z 145 9 (nI 1)) h0 ha hd (show ¬ (0 ≤ Z 166 a ∧ 0 ≤ Z 166 d) by rw [ga2]; exact fun q => rw_m1 q.1)) rfl h.st2 (by decide) (by decide)
    · rcases gd with ⟨gd1, gd2⟩ | ⟨md, ld, hmd, hld, gd1, gd2, gd3, gd4⟩
      · exact .i (x_copy_null ha hd (Or.inr gd1)) (m_copy_null (Z := zsu Z 145 9 (nI 1)) h0 ha hd (show ¬ (0 ≤ Z 166 a ∧ 0 ≤ Z 166 d) by rw [gd2]; exact fun q => rw_m1 q.2)) rfl h.st2 (by decide) (by decide)
      · have hz : ¬ Z 157 a = -1 := by rw [ga1]; exact rw_nm hma
        have hy : ¬ Z 157 d = -1 := by rw [gd1]; exact rw_nm hmd
        have nz : ¬ Z 166 a < 0 := by rw [ga4]; exact (rw_lane hla).2
        have ny : 0 ≤ Z 166 d := by rw [gd4]; exact (rw_lane hld).1
        by_cases hs : Z 156 a = Z 156 d
        · have ns : Z 166 a = Z 166 d := by rw [ga4, gd4, ← ga3, ← gd3, hs]
          by_cases t : (¬ i < 0 ∧ ¬ k < 0 ∧ ¬ (Z 157 a).toInt64 < i.toInt64 + k.toInt64) ∧ (¬ j < 0 ∧ ¬ k < 0 ∧ ¬ (Z 157 d).toInt64 < j.toInt64 + k.toInt64)
          · obtain ⟨t1, t2⟩ := t
            have u1 := t1
            have u2 := t2
            rw [ga1] at u1
            rw [gd1] at u2
            obtain ⟨ia, kb, rfl, rfl, hik⟩ := (hIt hma).mp u1
            obtain ⟨ja, kc, rfl, ekc, hjk⟩ := (hIt hmd).mp u2
            obtain rfl : kb = kc := (nI_eq (by omega) (by omega)).mp ekc
            obtain ⟨Z1, eZ1⟩ : ∃ Z1, va_up (zsu Z 145 9 (nI 0)) (148 + d) (va_cpy (Z (148 + a)) (Z (148 + d)) ia ja kb) = Z1 := ⟨_, rfl⟩
            have b1 : ∀ b, b ≠ 145 → b ≠ 148 + d → Z1 b = Z b := fun b a1 a2 => by
              rw [← eZ1, va_up_ne _ _ a2, zsu_ne _ _ a1]
            have hx := x_copy_ok (E := E) (Q := Q) (Z := Z) ha hd (show ia + kb ≤ 40 by omega) (show ja + kb ≤ 40 by omega) hz hy hs t1 t2
            rw [eZ1] at hx
            have z165 := b1 165 (by decide) (by omega)
            have z166 := b1 166 (by decide) (by omega)
            have z167 := b1 167 (by decide) (by omega)
            have z168 := b1 168 (by decide) (by omega)
            refine .i hx (m_copy_ok (Z := Z1) (by rw [z165]; exact h0) ha hd (by omega) (by omega) (by rw [z166]; exact nz) (by rw [z166]; exact ny) (by rw [z166]; exact ns) (by rw [z167, ga2, gd2, ← ga1, ← gd1]; exact ⟨t1.1, t2.1, t1.2.1, t1.2.2, t2.2.2⟩)) rfl ?_ (by decide) (by decide)
            refine h.rowed (x := nI 0) (fun b hb => by rw [va_up_ne _ _ (by omega), zsu_ne _ _ (by omega), b1 b (by omega) (by omega)]) ?_ ?_ ?_
            · rw [va_up_ne _ _ (by decide), zsu_ne _ _ (by decide), ← eZ1, va_up_ne _ _ (by omega), zsu_row]
            · rw [va_up_ne _ _ (by decide), zsu_row, z165]
            · intro q hq
              obtain ⟨g1, g2⟩ := c10 q hq
              have w : ∀ b, b = 157 ∨ b = 156 ∨ b = 166 ∨ b = 167 → va_up (zsu Z1 165 1 (nI 0)) 168 (zpt (Z1 168) (fun q => Z1 168 (40 * a + ia + q)) (40 * d + ja) kb) b = Z b := fun b hb => by
                rw [va_up_ne _ _ (by omega), zsu_ne _ _ (by omega), b1 b (by omega) (by omega)]
              have w168 : va_up (zsu Z1 165 1 (nI 0)) 168 (zpt (Z1 168) (fun q => Z1 168 (40 * a + ia + q)) (40 * d + ja) kb) 168 = zpt (Z 168) (fun q => Z 168 (40 * a + ia + q)) (40 * d + ja) kb := by
                rw [va_up_self, z168]
              have wr : va_up (zsu Z1 165 1 (nI 0)) 168 (zpt (Z1 168) (fun q => Z1 168 (40 * a + ia + q)) (40 * d + ja) kb) (148 + q) = Z1 (148 + q) := by
                rw [va_up_ne _ _ (by omega), zsu_ne _ _ (by omega)]
              rw [w 157 (by omega), w 156 (by omega), w 166 (by omega), w 167 (by omega), w168, wr]
              refine ⟨g1, fun u hu => ?_⟩
              unfold zpt
              by_cases e : q = d
              · subst e
                rw [← eZ1, va_up_self]
                unfold va_cpy
                by_cases v : ja ≤ u ∧ u < ja + kb
                · rw [if_pos v, if_pos (by omega), fa _ (by omega)]
                  congr 1
                  omega
                · rw [if_neg v, if_neg (by omega)]
                  exact g2 u hu
              · rw [b1 (148 + q) (by omega) (by omega), if_neg (by omega)]
                exact g2 u hu
          · refine .i (x_copy_place ha hd hz hy hs t) (m_copy_place (Z := zsu Z 145 9 (nI 2)) h0 ha hd nz ny ns ?_) rfl h.st2 (by decide) (by decide)
            show ¬ (¬ i < 0 ∧ ¬ j < 0 ∧ ¬ k < 0 ∧ ¬ (Z 167 a).toInt64 < i.toInt64 + k.toInt64 ∧ ¬ (Z 167 d).toInt64 < j.toInt64 + k.toInt64)
            rw [ga2, gd2, ← ga1, ← gd1]
            intro ⟨q1, q2, q3, q4, q5⟩
            exact t ⟨⟨q1, q3, q4⟩, ⟨q2, q3, q5⟩⟩
        · exact .i (x_copy_store ha hd hz hy hs) (m_copy_store (Z := zsu Z 145 9 (nI 5)) h0 ha hd nz ny (show ¬ Z 166 a = Z 166 d by rw [ga4, gd4, ← ga3, ← gd3]; exact hs)) rfl h.st2 (by decide) (by decide)
  · exact .i (x_copy_bad c) (m_copy_bad h0 c) rfl h (by decide) (by decide)
theorem s_as (h : zInv (Q, Z)) {x y : Int32} : zStep E zm_X6_as zm_X7_as [.int x, .int y] (Q, Z) := by
  obtain ⟨n, hr⟩ := h.now
  have hr : zRl (Q 1) (Z 169) n := hr
  have h0 : Z 165 0 = nI 0 := h.1
  have hn := hr.2.1
  have h6 := hr.1
  have hf := hr.f0
  by_cases c : (¬ x < 0 ∧ ¬ Q 1 0 0 ≤ x) ∧ (nI 0 ≤ y ∧ y ≤ nI 5)
  · obtain ⟨c1, c2⟩ := c
    obtain ⟨p, hp, rfl⟩ := hr.ix c1
    obtain ⟨v, v1, v2, rfl⟩ := rg (by decide) (by decide) c2
    obtain ⟨k, k1, k5, ek⟩ := (hr.2.2.2.2.2.2.2.2 p hp).1
    have em : Z 169 (6 + 5 * p) = nI k := (hr.2.2.2.1 p hp).1.trans ek
    have z := zq_as k (by omega) v (by omega)
    rcases z with z | z
    · omega
    · by_cases o : zofC 6 k (nI v) = true
      · have o2 := o
        rw [z] at o2
        exact .i (x_as_ok hn h6 hp ek (by omega) c2 o) (m_as_ok (Z := zsu Z 145 9 (nI 0)) h0 hf h6 hp em c2 (of_decide_eq_true o2)) rfl h.st (by decide) (by decide)
      · have o2 := o
        rw [z] at o2
        exact .i (x_as_no hn h6 hp ek (by omega) c2 o) (m_as_no (Z := zsu Z 145 9 (nI 3)) h0 hf h6 hp em c2 (fun q => o2 (decide_eq_true q))) rfl h.st2 (by decide) (by decide)
  · exact .i (x_as_bad c) (m_as_bad h0 (by rw [← hr.hasI]; exact c)) rfl h (by decide) (by decide)
theorem s_who (h : zInv (Q, Z)) {x y u i m : Int32} : zStep E zm_X6_who zm_X7_who [.int x, .int y, .int u, .int i, .int m] (Q, Z) := by
  obtain ⟨n, hr⟩ := h.now
  have hr : zRl (Q 1) (Z 169) n := hr
  have h0 : Z 165 0 = nI 0 := h.1
  have hn := hr.2.1
  have h6 := hr.1
  have c10 : zIR Z := h.2.2.2.2.2.2.2.2.2.1
  by_cases c : (¬ x < 0 ∧ ¬ Q 1 0 0 ≤ x) ∧ (nI 0 ≤ y ∧ y ≤ nI 3) ∧ (nI 0 ≤ u ∧ u ≤ nI 7) ∧ (nI 1 ≤ m ∧ m ≤ nI 12)
  · obtain ⟨c1, c2, c3, c4⟩ := c
    obtain ⟨p, hp, rfl⟩ := hr.ix c1
    obtain ⟨w, w1, w2, rfl⟩ := rg (by decide) (by decide) c2
    obtain ⟨r, r1, r2, rfl⟩ := rg (by decide) (by decide) c3
    obtain ⟨m, m1, m2, rfl⟩ := rg (by decide) (by decide) c4
    have hr8 : r < 8 := by omega
    obtain ⟨g1, g2⟩ := c10 r hr8
    rcases g1 with ⟨a1, a2⟩ | ⟨sz, l, hsz, hl, a1, a2, a3, a4⟩
    · exact .i (x_who_null hn h6 hp (by omega) hr8 m1 m2 a1) (m_who_null (Z := zsu Z 145 9 (nI 1)) h0 hr.kd hp (by omega) hr8 m1 m2 (show ¬ 0 ≤ Z 166 r by rw [a2]; decide)) rfl h.st (by decide) (by decide)
    · have hz : ¬ Z 157 r = -1 := by rw [a1]; exact rw_nm hsz
      have hy : 0 ≤ Z 166 r := by rw [a4]; exact (rw_lane hl).1
      by_cases t : ¬ i < 0 ∧ ¬ nI m < 0 ∧ ¬ (Z 157 r).toInt64 < i.toInt64 + (nI m).toInt64
      · have t2 := t
        rw [a1] at t2
        obtain ⟨j, b, rfl, eb, hjb⟩ := (hIt hsz).mp t2
        obtain rfl : m = b := (nI_eq (by omega) (by omega)).mp eb
        have him : j + m ≤ 40 := by omega
        have t3 : ¬ nI j < 0 ∧ ¬ (Z 167 r).toInt64 < (nI j).toInt64 + (nI m).toInt64 := by
          rw [a2, ← a1]
          exact ⟨t.1, t.2.2⟩
        have hit : ∀ k, k < m → (fun k => zsu Z 145 9 (nI 0) (148 + r) (j + k)) k = (fun k => Z 168 (40 * r + j + k)) k := fun k hk => by
          dsimp only
          rw [zsu_ne _ _ (by omega), g2 _ (by omega), Nat.add_assoc]
        rcases (show w = 0 ∨ w = 1 ∨ w = 2 ∨ w = 3 by omega) with rfl | rfl | rfl | rfl
        · exact .i (x_who_0 hn h6 hp hr8 m1 m2 him hz t) (m_who_0 (Z := zsu Z 145 9 (nI 0)) h0 hr.kd hp hr8 m1 m2 him hy t3) (hr.fi (w := 0) (hi := 5) hit (by decide) (fun _ => by decide) 5 1 (nI 0) (Q 4) (Z 171) rfl (fun _ => by decide)) h.st.q4.z171 (by decide) (by decide)
        · exact .i (x_who_1 hn h6 hp hr8 m1 m2 him hz t) (m_who_1 (Z := zsu Z 145 9 (nI 0)) h0 hr.kd hp hr8 m1 m2 him hy t3) (hr.fi (w := 1) (hi := 9) hit (by decide) (fun q => absurd q (by decide)) 10 0 (nI 0) (Q 4) (Z 171) rfl (fun q => absurd q (by decide))) h.st.q4.z171 (by decide) (by decide)
        · exact .i (x_who_2 hn h6 hp hr8 m1 m2 him hz t) (m_who_2 (Z := zsu Z 145 9 (nI 0)) h0 hr.kd hp hr8 m1 m2 him hy t3) (hr.fi (w := 2) (hi := 9) hit (by decide) (fun q => absurd q (by decide)) 9 1 (nI 0) (Q 4) (Z 171) rfl (fun q => absurd q (by decide))) h.st.q4.z171 (by decide) (by decide)
        · exact .i (x_who_3 hn h6 hp hr8 m1 m2 him hz t) (m_who_3 (Z := zsu Z 145 9 (nI 0)) h0 hr.kd hp hr8 m1 m2 him hy t3) (hr.fi (w := 3) (hi := 9) hit (by decide) (fun q => absurd q (by decide)) 10 0 (nI 0) (Q 4) (Z 171) rfl (fun q => absurd q (by decide))) h.st.q4.z171 (by decide) (by decide)
      · refine .i (x_who_place hn h6 hp (by omega) hr8 m1 m2 hz t) (m_who_place (Z := zsu Z 145 9 (nI 2)) h0 hr.kd hp (by omega) hr8 m1 m2 hy ?_) rfl h.st (by decide) (by decide)
        show ¬ (¬ i < 0 ∧ ¬ (Z 167 r).toInt64 < i.toInt64 + (nI m).toInt64)
        rw [a2, ← a1]
        exact fun q => t ⟨q.1, nI_pos (by omega), q.2⟩
  · exact .i (x_who_bad c) (m_who_bad h0 (by rw [← hr.hasI]; exact c)) rfl h (by decide) (by decide)
theorem zInv.tr (h : zInv (Q, Z)) {w : zTf} (hw : w.1 ≤ 16) : zInv (Q, zTN (zTM Z w) w) := by
  obtain ⟨c1, c2, c3, c4, c5, c6, c7, c8, c9, c10, c11⟩ := h
  refine ⟨c1, c2, c3, c4, c5, c6, c7, c8, c9, ?_, ⟨w.1, hw, rfl, rfl, rfl⟩⟩
  show zIR (va_up (va_up (va_up (va_up Z 164 w.2) 163 _) 176 w.2) 165 _)
  exact (((c10.z (by omega)).z (by omega)).z (by omega)).z (by omega)
theorem zpush_l2 {w : zTf} {x : Int32} (h : w.1 ≤ 16) : (zpush w x).1 ≤ 16 := by
  unfold zpush
  split
  · show w.1 + 1 ≤ 16
    omega
  · exact h
theorem s_ask (h : zInv (Q, Z)) {x y : Int32} : zStep E zm_X6_ask zm_X7_ask [.int x, .int y] (Q, Z) := by
  obtain ⟨n, hr⟩ := h.now
  have hr : zRl (Q 1) (Z 169) n := hr
  have h0 : Z 165 0 = nI 0 := h.1
  have hn := hr.2.1
  have h6 := hr.1
  have hf := hr.f0
  obtain ⟨t, t16, e1, e2, e3⟩ := h.2.2.2.2.2.2.2.2.2.2
  have e1 : Z 163 2 = nI t := e1
  have e2 : Z 165 22 = nI t := e2
  have e3 : Z 164 = Z 176 := e3
  by_cases c : (¬ x < 0 ∧ ¬ Q 1 0 0 ≤ x) ∧ (nI 0 ≤ y ∧ y ≤ nI 1)
  · obtain ⟨c1, c2⟩ := c
    obtain ⟨p, hp, rfl⟩ := hr.ix c1
    obtain ⟨v, v1, v2, rfl⟩ := rg (by decide) (by decide) c2
    obtain ⟨k, k1, k5, ek⟩ := (hr.2.2.2.2.2.2.2.2 p hp).1
    have em : Z 169 (6 + 5 * p) = nI k := (hr.2.2.2.1 p hp).1.trans ek
    have l3 := hr.lg hp
    have l2 := hr.at2 hp
    rcases (show k = 1 ∨ k = 2 ∨ k = 3 ∨ k = 4 ∨ k = 5 by omega) with rfl | rfl | rfl | rfl | rfl
    · rcases (show v = 0 ∨ v = 1 by omega) with rfl | rfl
      · have hx := x_ask_10 (E := E) (Q := Q) (Z := Z) hn h6 hp ek e1
        rw [e3] at hx
        refine .i hx (m_ask_10 (Z := zTM Z (zpush (zpush (zpush (zpush (0, Z 176) (nI 11)) (nI 10)) (nI 21)) (nI 20))) h0 hf h6 hp em e2) ?_ (h.tr (zpush_l2 (zpush_l2 (zpush_l2 (zpush_l2 (Nat.zero_le _)))))) (by decide) (by decide)
        show Q 1 4 p + (nI p + Q 1 2 p) = Z 169 (6 + 5 * p + 3) + (nI p + Z 169 (6 + 5 * p + 1))
        rw [l3, l2]
      · have hx := x_ask_11 (E := E) (Q := Q) (Z := Z) hn h6 hp ek e1
        rw [e3] at hx
        refine .i hx (m_ask_11 (Z := zTM Z (zpush (zpush (0, Z 176) (nI 21)) (nI 20))) h0 hf h6 hp em e2) ?_ (h.tr (zpush_l2 (zpush_l2 (Nat.zero_le _)))) (by decide) (by decide)
        show nI p + Q 1 2 p = nI p + Z 169 (6 + 5 * p + 1)
        rw [l2]
    · rcases (show v = 0 ∨ v = 1 by omega) with rfl | rfl
      · have hx := x_ask_20 (E := E) (Q := Q) (Z := Z) hn h6 hp ek e1
        rw [e3] at hx
        refine .i hx (m_ask_20 (Z := zTM Z (zpush (zpush (zpush (zpush (zpush (zpush (0, Z 176) (nI 12)) (nI 11)) (nI 10)) (nI 24)) (nI 21)) (nI 20))) h0 hf h6 hp em e2) ?_ (h.tr (zpush_l2 (zpush_l2 (zpush_l2 (zpush_l2 (zpush_l2 (zpush_l2 (Nat.zero_le _)))))))) (by decide) (by decide)
        show -(Q 1 4 p + (nI p + Q 1 2 p) * nI 2) = -(Z 169 (6 + 5 * p + 3) + (nI 2 * (nI p + Z 169 (6 + 5 * p + 1))))
        rw [l3, l2, Int32.mul_comm]
      · have hx := x_ask_21 (E := E) (Q := Q) (Z := Z) hn h6 hp ek e1
        rw [e3] at hx
        refine .i hx (m_ask_21 (Z := zTM Z (zpush (zpush (zpush (0, Z 176) (nI 24)) (nI 21)) (nI 20))) h0 hf h6 hp em e2) ?_ (h.tr (zpush_l2 (zpush_l2 (zpush_l2 (Nat.zero_le _))))) (by decide) (by decide)
        show (nI p + Q 1 2 p) * nI 2 = nI 2 * (nI p + Z 169 (6 + 5 * p + 1))
        rw [l2, Int32.mul_comm]
    · rcases (show v = 0 ∨ v = 1 by omega) with rfl | rfl
      · have hx := x_ask_30 (E := E) (Q := Q) (Z := Z) hn h6 hp ek e1
        rw [e3] at hx
        refine .i hx (m_ask_30 (Z := zTM Z (zpush (zpush (zpush (zpush (zpush (0, Z 176) (nI 11)) (nI 10)) (nI 22)) (nI 21)) (nI 20))) h0 hf h6 hp em e2) ?_ (h.tr (zpush_l2 (zpush_l2 (zpush_l2 (zpush_l2 (zpush_l2 (Nat.zero_le _))))))) (by decide) (by decide)
        show Q 1 4 p + (nI p + Q 1 2 p - nI 1000) = Z 169 (6 + 5 * p + 3) + (nI p + Z 169 (6 + 5 * p + 1) - nI 1000)
        rw [l3, l2]
      · have hx := x_ask_31 (E := E) (Q := Q) (Z := Z) hn h6 hp ek e1
        rw [e3] at hx
        refine .i hx (m_ask_31 (Z := zTM Z (zpush (zpush (zpush (0, Z 176) (nI 22)) (nI 21)) (nI 20))) h0 hf h6 hp em e2) ?_ (h.tr (zpush_l2 (zpush_l2 (zpush_l2 (Nat.zero_le _))))) (by decide) (by decide)
        show nI p + Q 1 2 p - nI 1000 = nI p + Z 169 (6 + 5 * p + 1) - nI 1000
        rw [l2]
    · rcases (show v = 0 ∨ v = 1 by omega) with rfl | rfl
      · have hx := x_ask_40 (E := E) (Q := Q) (Z := Z) hn h6 hp ek e1
        rw [e3] at hx
        refine .i hx (m_ask_40 (Z := zTM Z (zpush (zpush (0, Z 176) (nI 13)) (nI 10))) h0 hf h6 hp em e2) ?_ (h.tr (zpush_l2 (zpush_l2 (Nat.zero_le _)))) (by decide) (by decide)
        show Q 1 4 p - nI 100 = Z 169 (6 + 5 * p + 3) - nI 100
        rw [l3]
      · have hx := x_ask_41 (E := E) (Q := Q) (Z := Z) hn h6 hp ek e1
        rw [e3] at hx
        refine .i hx (m_ask_41 (Z := zTM Z (zpush (zpush (zpush (zpush (0, Z 176) (nI 23)) (nI 20)) (nI 13)) (nI 10))) h0 hf h6 hp em e2) ?_ (h.tr (zpush_l2 (zpush_l2 (zpush_l2 (zpush_l2 (Nat.zero_le _)))))) (by decide) (by decide)
        show nI p - (Q 1 4 p - nI 100) = nI p - (Z 169 (6 + 5 * p + 3) - nI 100)
        rw [l3]
    · rcases (show v = 0 ∨ v = 1 by omega) with rfl | rfl
      · have hx := x_ask_50 (E := E) (Q := Q) (Z := Z) hn h6 hp ek e1
        rw [e3] at hx
        refine .i hx (m_ask_50 (Z := zTM Z (zpush (zpush (zpush (0, Z 176) (nI 14)) (nI 13)) (nI 10))) h0 hf h6 hp em e2) ?_ (h.tr (zpush_l2 (zpush_l2 (zpush_l2 (Nat.zero_le _))))) (by decide) (by decide)
        show (Q 1 4 p - nI 100) * nI 2 = nI 2 * (Z 169 (6 + 5 * p + 3) - nI 100)
        rw [l3, Int32.mul_comm]
      · have hx := x_ask_51 (E := E) (Q := Q) (Z := Z) hn h6 hp ek e1
        rw [e3] at hx
        refine .i hx (m_ask_51 (Z := zTM Z (zpush (zpush (zpush (zpush (zpush (0, Z 176) (nI 23)) (nI 20)) (nI 14)) (nI 13)) (nI 10))) h0 hf h6 hp em e2) ?_ (h.tr (zpush_l2 (zpush_l2 (zpush_l2 (zpush_l2 (zpush_l2 (Nat.zero_le _))))))) (by decide) (by decide)
        show nI p - (Q 1 4 p - nI 100) * nI 2 = nI p - nI 2 * (Z 169 (6 + 5 * p + 3) - nI 100)
        rw [l3, Int32.mul_comm]
  · exact .i (x_ask_bad c) (m_ask_bad h0 (by rw [← hr.hasI]; exact c)) rfl h (by decide) (by decide)
theorem s_feed (h : zInv (Q, Z)) {x : Int32} : zStep E zm_X6_feed zm_X7_feed [.int x] (Q, Z) := by
  have h0 : Z 165 0 = nI 0 := h.1
  have hc := h
  obtain ⟨c1, c2, c3, ⟨L, a, nu, f, fa, hL, eT, eL, eB⟩, c5, c6, c7, c8, c9, c10, c11⟩ := hc
  by_cases c : nI 0 ≤ x ∧ x ≤ nI 255
  · by_cases hl : L = 90
    · exact .i (x_feed_full eT c hl) (m_feed_full h0 c (by rw [← hl]; exact eL)) rfl h (by decide) (by decide)
    · refine .i (x_feed_ok eT c (by omega)) (m_feed_ok (Q := va_up Q 0 (Q 0)) (Z := va_up (zsu Z 159 L x) 158 (zTr (L + 1) a nu f fa)) h0 c eL (by omega)) rfl ?_ (by decide) (by decide)
      refine ⟨c1, c2, c3, ⟨L + 1, a, nu, f, fa, by omega, rfl, rfl, ?_⟩, c5, c6, c7, c8, c9.q (by decide), ?_, c11⟩
      · show upd (Z 159) L x = upd (Z 173) L x
        rw [show Z 159 = Z 173 from eB]
      · show zIR (zsu (zsu (va_up (zsu Z 159 L x) 158 _) 173 L x) 165 11 _)
        exact (((c10.s (by omega)).z (by omega)).s (by omega)).s (by omega)
  · exact .i (x_feed_bad c) (m_feed_bad h0 c) rfl h (by decide) (by decide)
end ZSe
