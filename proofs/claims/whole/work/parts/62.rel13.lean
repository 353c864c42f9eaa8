section ZRd
variable {S T F : zS} {f g : zF} {n m p t : Nat} {x v : Int32}
def zSm (x : Int32) : Prop := -9 ≤ x ∧ x ≤ 9
theorem zSm_gt {x : Int32} (h : zSm x) : (-1000000 : Int32) < x := Int32.lt_of_lt_of_le (by decide) h.1
theorem zSm_ne {x : Int32} (h : zSm x) : ¬ x = -1000000 := fun e => by
  rw [e] at h
  exact absurd h.1 (by decide)
def zR9 (b0 : Int32) (i : Nat) (r b : Int32) : Prop := (r = -1000000 ∧ b = b0 ∧ i ≤ 1) ∨ (r = b ∧ zSm b)
theorem zmx_ok {i : Nat} {r b u : Int32} (h : zR9 (-9) i r b) (hu : zSm u) : zmaxN r u = zmax b u ∧ zSm (zmax b u) := by
  rcases h with ⟨rfl, rfl, _⟩ | ⟨rfl, hb⟩
  · have e : zmax (-9) u = u := by
      unfold zmax
      by_cases q : (-9 : Int32) < u
      · rw [if_pos q]
      · rw [if_neg q]
        exact Int32.le_antisymm hu.1 (Int32.not_lt.mp q)
    rw [e]
    exact ⟨if_pos (zSm_gt hu), hu⟩
  · refine ⟨rfl, ?_⟩
    unfold zmax
    split
    · exact hu
    · exact hb
theorem zmn_ok {i : Nat} {r b u : Int32} (h : zR9 (nI 9) i r b) (hu : zSm u) : zminN r u = zmin b u ∧ zSm (zmin b u) := by
  rcases h with ⟨rfl, rfl, _⟩ | ⟨rfl, hb⟩
  · have e : zmin (nI 9) u = u := by
      unfold zmin
      by_cases q : u < nI 9
      · rw [if_pos q]
      · rw [if_neg q]
        exact Int32.le_antisymm (Int32.not_lt.mp q) hu.2
    rw [e]
    exact ⟨if_pos ⟨zSm_ne hu, Or.inl rfl⟩, hu⟩
  · refine ⟨?_, ?_⟩
    · unfold zminN zmin
      by_cases q : u < r
      · rw [if_pos q, if_pos ⟨zSm_ne hu, Or.inr q⟩]
      · rw [if_neg q, if_neg (fun z => z.2.elim (zSm_ne hb) q)]
    · unfold zmin
      split
      · exact hu
      · exact hb
theorem zmx_no {i : Nat} {b0 r b : Int32} (h : zR9 b0 i r b) : zmaxN r (-1000000) = r := by
  rcases h with ⟨rfl, rfl, _⟩ | ⟨rfl, hb⟩
  · decide
  · exact if_neg (Int32.lt_asymm (zSm_gt hb))
theorem zmn_no {r : Int32} : zminN r (-1000000) = r := if_neg (fun z => z.1 rfl)
theorem zq_11 : nI 1 - nI 1 = (0 : Int32) ∧ nI 1 - nI 1 = nI 0 ∧ nI 0 - nI 1 = (-1 : Int32) := by decide
theorem lv_max {vr : Int32 → zF → Int32 × zF} {vc : Int32 → Int32 → zS → Int32 × zS} {z y : Int32} (hz : zpl z) (hy : zpl y) (h1 : ∀ (i : Nat) (f : zF) (S : zS), i < 3 → zpl (z + (nI i - nI 1)) → (vr (nI i - nI 1) f).1 = (vc (z + (nI i - nI 1)) y S).1 ∧ zSm (vc (z + (nI i - nI 1)) y S).1) (h2 : ∀ (i : Nat) (f : zF), i < 3 → ¬ zpl (z + (nI i - nI 1)) → (vr (nI i - nI 1) f).1 = -1000000) :
    ∀ (k i : Nat) (r b : Int32) (f : zF) (S : zS), i + k = 3 → zR9 (-9) i r b → (zfoT zmaxN vr k (nI i - nI 1) (r, f)).1 = (zlp true vc z y k i (b, S)).1 ∧ zSm (zlp true vc z y k i (b, S)).1
  | 0, i, r, b, f, S, hi, h => by
    rcases h with ⟨_, _, h⟩ | ⟨h1, h2⟩
    · omega
    · exact ⟨h1, h2⟩
  | k + 1, i, r, b, f, S, hi, h => by
    unfold zfoT zlp
    rw [(zi3 (i := i) (by omega)).2]
    show (zfoT zmaxN vr k (nI (i + 1) - nI 1) (zmaxN r (vr (nI i - nI 1) f).1, (vr (nI i - nI 1) f).2)).1 = (zlp true vc z y k (i + 1) (zst true vc z y i (b, S))).1 ∧ zSm (zlp true vc z y k (i + 1) (zst true vc z y i (b, S))).1
    by_cases c : zpl (z + (nI i - nI 1))
    · have e : zst true vc z y i (b, S) = (zmax b (vc (z + (nI i - nI 1)) y S).1, (vc (z + (nI i - nI 1)) y S).2) := by
        unfold zst
        rw [if_pos rfl, if_pos ⟨c, hy⟩]
      obtain ⟨e1, e2⟩ := h1 i f S (by omega) c
      obtain ⟨m1, m2⟩ := zmx_ok h e2
      rw [e, e1, m1]
      exact lv_max hz hy h1 h2 k (i + 1) _ _ _ _ (by omega) (Or.inr ⟨rfl, m2⟩)
    · have e : zst true vc z y i (b, S) = (b, S) := by
        unfold zst
        rw [if_pos rfl, if_neg (fun q => c q.1)]
      rw [e, h2 i f (by omega) c, zmx_no h]
      refine lv_max hz hy h1 h2 k (i + 1) _ _ _ _ (by omega) ?_
      rcases h with ⟨h3, h4, h5⟩ | h3
      · have i0 : i ≠ 1 := fun e1 => by
          subst e1
          rw [zq_11.1, Int32.add_zero] at c
          exact c hz
        exact Or.inl ⟨h3, h4, by omega⟩
      · exact Or.inr h3
theorem lv_min {vr : Int32 → zF → Int32 × zF} {vc : Int32 → Int32 → zS → Int32 × zS} {z y : Int32} (hz : zpl z) (hy : zpl y) (h1 : ∀ (i : Nat) (f : zF) (S : zS), i < 3 → zpl (z + (nI i - nI 1)) → (vr (nI i - nI 1) f).1 = (vc y (z + (nI i - nI 1)) S).1 ∧ zSm (vc y (z + (nI i - nI 1)) S).1) (h2 : ∀ (i : Nat) (f : zF), i < 3 → ¬ zpl (z + (nI i - nI 1)) → (vr (nI i - nI 1) f).1 = -1000000) :
    ∀ (k i : Nat) (r b : Int32) (f : zF) (S : zS), i + k = 3 → zR9 (nI 9) i r b → (zfoT zminN vr k (nI i - nI 1) (r, f)).1 = (zlp false vc y z k i (b, S)).1 ∧ zSm (zlp false vc y z k i (b, S)).1
  | 0, i, r, b, f, S, hi, h => by
    rcases h with ⟨_, _, h⟩ | ⟨h1, h2⟩
    · omega
    · exact ⟨h1, h2⟩
  | k + 1, i, r, b, f, S, hi, h => by
    unfold zfoT zlp
    rw [(zi3 (i := i) (by omega)).2]
    show (zfoT zminN vr k (nI (i + 1) - nI 1) (zminN r (vr (nI i - nI 1) f).1, (vr (nI i - nI 1) f).2)).1 = (zlp false vc y z k (i + 1) (zst false vc y z i (b, S))).1 ∧ zSm (zlp false vc y z k (i + 1) (zst false vc y z i (b, S))).1
    by_cases c : zpl (z + (nI i - nI 1))
    · have e : zst false vc y z i (b, S) = (zmin b (vc y (z + (nI i - nI 1)) S).1, (vc y (z + (nI i - nI 1)) S).2) := by
        unfold zst
        rw [if_neg (by decide), if_pos ⟨hy, c⟩]
      obtain ⟨e1, e2⟩ := h1 i f S (by omega) c
      obtain ⟨m1, m2⟩ := zmn_ok h e2
      rw [e, e1, m1]
      exact lv_min hz hy h1 h2 k (i + 1) _ _ _ _ (by omega) (Or.inr ⟨rfl, m2⟩)
    · have e : zst false vc y z i (b, S) = (b, S) := by
        unfold zst
        rw [if_neg (by decide), if_neg (fun q => c q.2)]
      rw [e, h2 i f (by omega) c, zmn_no]
      refine lv_min hz hy h1 h2 k (i + 1) _ _ _ _ (by omega) ?_
      rcases h with ⟨h3, h4, h5⟩ | h3
      · have i0 : i ≠ 1 := fun e1 => by
          subst e1
          rw [zq_11.1, Int32.add_zero] at c
          exact c hz
        exact Or.inl ⟨h3, h4, by omega⟩
      · exact Or.inr h3
/-- a level of the tree: the debtor's -/
theorem lw_max {L : Nat} (hL : L % 2 = 0) {vr : Int32 → zF → Int32 × zF} {z y : Int32} (hz : zpl z) (hy : zpl y) (h1 : ∀ (i : Nat) (f : zF) (S : zS), i < 3 → zpl (z + (nI i - nI 1)) → (vr (nI i - nI 1) f).1 = (zbo F n m (t - (L + 1)) (L + 1) (z + (nI i - nI 1)) y S).1 ∧ zSm (zbo F n m (t - (L + 1)) (L + 1) (z + (nI i - nI 1)) y S).1) (h2 : ∀ (i : Nat) (f : zF), i < 3 → ¬ zpl (z + (nI i - nI 1)) → (vr (nI i - nI 1) f).1 = -1000000) (f : zF) (S : zS) :
    (zfoT zmaxN vr (zkx t L) (zkf t L) (-1000000, f)).1 = (zbo F n m (t - L) L z y S).1 ∧ zSm (zbo F n m (t - L) L z y S).1 := by
  by_cases q : L < t
  · have e : t - L = t - (L + 1) + 1 := by omega
    have ez : zbo F n m (t - L) L z y S = zlp true (fun x2 y2 S2 => zbo F n m (t - (L + 1)) (L + 1) x2 y2 S2) z y 3 0 (-9, S) := by
      rw [e]
      show zlp (decide (L % 2 = 0)) _ z y 3 0 (if L % 2 = 0 then (-9) else nI 9, S) = _
      rw [if_pos hL, decide_eq_true hL]
    rw [ez, show zkx t L = 3 from if_pos q, show zkf t L = nI 0 - nI 1 from if_pos q]
    exact lv_max (vc := fun x2 y2 S2 => zbo F n m (t - (L + 1)) (L + 1) x2 y2 S2) hz hy h1 h2 3 0 _ _ f S rfl (Or.inl ⟨rfl, rfl, by omega⟩)
  · have e0 : t - L = 0 := by omega
    have e1 : t - (L + 1) = 0 := by omega
    rw [show zkx t L = 1 from if_neg q, show zkf t L = nI 0 from if_neg q, e0]
    have k := h1 1 f S (by omega) (by rw [zq_11.1, Int32.add_zero]; exact hz)
    rw [e1, zq_11.1, Int32.add_zero] at k
    obtain ⟨k1, k2⟩ := k
    have k3 : (zfoT zmaxN vr 1 (nI 0) (-1000000, f)).1 = zmaxN (-1000000) (vr (nI 0) f).1 := rfl
    have k4 : (zbo F n m 0 L z y S).1 = (zbo F n m 0 (L + 1) z y S).1 := rfl
    rw [k3, k4, show nI 0 = (0 : Int32) from rfl, k1]
    exact ⟨if_pos (zSm_gt k2), k2⟩
theorem lw_min {L : Nat} (hL : ¬ L % 2 = 0) {vr : Int32 → zF → Int32 × zF} {z y : Int32} (hz : zpl z) (hy : zpl y) (h1 : ∀ (i : Nat) (f : zF) (S : zS), i < 3 → zpl (z + (nI i - nI 1)) → (vr (nI i - nI 1) f).1 = (zbo F n m (t - (L + 1)) (L + 1) y (z + (nI i - nI 1)) S).1 ∧ zSm (zbo F n m (t - (L + 1)) (L + 1) y (z + (nI i - nI 1)) S).1) (h2 : ∀ (i : Nat) (f : zF), i < 3 → ¬ zpl (z + (nI i - nI 1)) → (vr (nI i - nI 1) f).1 = -1000000) (f : zF) (S : zS) :
    (zfoT zminN vr (zkx t L) (zkf t L) (-1000000, f)).1 = (zbo F n m (t - L) L y z S).1 ∧ zSm (zbo F n m (t - L) L y z S).1 := by
  by_cases q : L < t
  · have e : t - L = t - (L + 1) + 1 := by omega
    have ez : zbo F n m (t - L) L y z S = zlp false (fun x2 y2 S2 => zbo F n m (t - (L + 1)) (L + 1) x2 y2 S2) y z 3 0 (nI 9, S) := by
      rw [e]
      show zlp (decide (L % 2 = 0)) _ y z 3 0 (if L % 2 = 0 then (-9) else nI 9, S) = _
      rw [if_neg hL, decide_eq_false hL]
    rw [ez, show zkx t L = 3 from if_pos q, show zkf t L = nI 0 - nI 1 from if_pos q]
    exact lv_min (vc := fun x2 y2 S2 => zbo F n m (t - (L + 1)) (L + 1) x2 y2 S2) hz hy h1 h2 3 0 _ _ f S rfl (Or.inl ⟨rfl, rfl, by omega⟩)
  · have e0 : t - L = 0 := by omega
    have e1 : t - (L + 1) = 0 := by omega
    rw [show zkx t L = 1 from if_neg q, show zkf t L = nI 0 from if_neg q, e0]
    have k := h1 1 f S (by omega) (by rw [zq_11.1, Int32.add_zero]; exact hz)
    rw [e1, zq_11.1, Int32.add_zero] at k
    obtain ⟨k1, k2⟩ := k
    have k3 : (zfoT zminN vr 1 (nI 0) (-1000000, f)).1 = zminN (-1000000) (vr (nI 0) f).1 := rfl
    have k4 : (zbo F n m 0 L y z S).1 = (zbo F n m 0 (L + 1) y z S).1 := rfl
    rw [k3, k4, show nI 0 = (0 : Int32) from rfl, k1]
    exact ⟨if_pos ⟨zSm_ne k2, Or.inl rfl⟩, k2⟩
theorem fo_none {op : Int32 → Int32 → Int32} (ho : op (-1000000) (-1000000) = -1000000) {vr : Int32 → zF → Int32 × zF} (hv : ∀ (e : Int32) (f : zF), (vr e f).1 = -1000000) : ∀ (k : Nat) (x : Int32) (f : zF), (zfoT op vr k x (-1000000, f)).1 = -1000000
  | 0, x, f => rfl
  | k + 1, x, f => by
    unfold zfoT
    show (zfoT op vr k _ (op (-1000000) (vr x f).1, (vr x f).2)).1 = _
    rw [hv, ho]
    exact fo_none ho hv k _ _
theorem zmaxN_n : zmaxN (-1000000) (-1000000) = -1000000 := by decide
theorem zminN_n : zminN (-1000000) (-1000000) = -1000000 := by decide
theorem zu_over {f : zF} {i : Nat} {a b : Int32} : upd (upd f i a) i b = upd f i b := by
  funext k
  unfold upd
  split <;> rfl
theorem zpl_N {x : Int32} (h : zpl x) : zN 9 x := by
  obtain ⟨j, hj, e⟩ := nI_of2 (M := nI 9) (n := 9) (x := x) (by decide) (Int32.not_lt.mpr h.1) h.2
  exact ⟨j, hj, e⟩
theorem zq_sm : ∀ a, a < 10 → ∀ b, b < 10 → (-9 ≤ nI a - nI b ∧ nI a - nI b ≤ 9) := by decide +kernel
theorem zq_pl : ∀ a, a < 10 → zpl (nI a) := by decide +kernel
theorem stp_ok {p : Nat} {x y : Int32} (e : f (6 + 5 * p + 1) = y) (h : zpl (y + x)) : zstp f p x = (true, upd f (6 + 5 * p + 1) (y + x)) := by
  unfold zstp
  rw [e]
  exact if_pos h
theorem stp_no {p : Nat} {x y : Int32} (e : f (6 + 5 * p + 1) = y) (h : ¬ zpl (y + x)) : (zstp f p x).1 = false := by
  unfold zstp
  rw [e, if_neg h]
section
variable {a b c d : Int32}
theorem aS_1 (h : zRl F g n) (h1 : 0 < n) (c1 : ¬ zpl (F 2 0 + a)) : (zaT g n m a b c d f).1 = -1000000 := by
  have e0 : zly g f (6 + 5 * 0 + 1) = F 2 0 := (zly_at (by omega)).trans (h.at2 h1)
  unfold zaT
  rw [if_neg]
  unfold zaS
  dsimp only
  rw [stp_no e0 c1]
  simp
theorem aS_2 (h : zRl F g n) (h2 : 2 ≤ n) (c2 : ¬ zpl (F 2 (n - 1) + b)) : (zaT g n m a b c d f).1 = -1000000 := by
  have h6 := h.1
  have e0 : zly g f (6 + 5 * 0 + 1) = F 2 0 := (zly_at (by omega)).trans (h.at2 (p := 0) (by omega))
  have eL : zly g f (6 + 5 * (n - 1) + 1) = F 2 (n - 1) := (zly_at (by omega)).trans (h.at2 (p := n - 1) (by omega))
  by_cases c1 : zpl (F 2 0 + a)
  · unfold zaT
    rw [if_neg]
    unfold zaS
    dsimp only
    rw [stp_ok e0 c1]
    dsimp only
    rw [stp_no ((zu_ne (by omega)).trans eL) c2]
    simp
  · exact aS_1 h (by omega) c1
theorem aS_3 (h : zRl F g n) (h2 : 2 ≤ n) (c3 : ¬ zpl (F 2 0 + a + c)) : (zaT g n m a b c d f).1 = -1000000 := by
  have h6 := h.1
  have e0 : zly g f (6 + 5 * 0 + 1) = F 2 0 := (zly_at (by omega)).trans (h.at2 (p := 0) (by omega))
  have eL : zly g f (6 + 5 * (n - 1) + 1) = F 2 (n - 1) := (zly_at (by omega)).trans (h.at2 (p := n - 1) (by omega))
  by_cases c1 : zpl (F 2 0 + a)
  · by_cases c2 : zpl (F 2 (n - 1) + b)
    · unfold zaT
      rw [if_neg]
      unfold zaS
      dsimp only
      rw [stp_ok e0 c1]
      dsimp only
      rw [stp_ok ((zu_ne (by omega)).trans eL) c2]
      dsimp only
      rw [stp_no (p := 0) ((zu_ne (by omega)).trans zu_eq) c3]
      simp
    · exact aS_2 h h2 c2
  · exact aS_1 h (by omega) c1
theorem aS_4 (h : zRl F g n) (h2 : 2 ≤ n) (c4 : ¬ zpl (F 2 (n - 1) + b + d)) : (zaT g n m a b c d f).1 = -1000000 := by
  have h6 := h.1
  have e0 : zly g f (6 + 5 * 0 + 1) = F 2 0 := (zly_at (by omega)).trans (h.at2 (p := 0) (by omega))
  have eL : zly g f (6 + 5 * (n - 1) + 1) = F 2 (n - 1) := (zly_at (by omega)).trans (h.at2 (p := n - 1) (by omega))
  by_cases c1 : zpl (F 2 0 + a)
  · by_cases c2 : zpl (F 2 (n - 1) + b)
    · by_cases c3 : zpl (F 2 0 + a + c)
      · unfold zaT
        rw [if_neg]
        unfold zaS
        dsimp only
        rw [stp_ok e0 c1]
        dsimp only
        rw [stp_ok ((zu_ne (by omega)).trans eL) c2]
        dsimp only
        rw [stp_ok (p := 0) ((zu_ne (by omega)).trans zu_eq) c3]
        dsimp only
        rw [stp_no (p := n - 1) ((zu_ne (by omega)).trans zu_eq) c4]
        simp
      · exact aS_3 h h2 c3
    · exact aS_2 h h2 c2
  · exact aS_1 h (by omega) c1
theorem aS_ok (h : zRl F g n) (h2 : 2 ≤ n) (c1 : zpl (F 2 0 + a)) (c2 : zpl (F 2 (n - 1) + b)) (c3 : zpl (F 2 0 + a + c)) (c4 : zpl (F 2 (n - 1) + b + d)) (S : zS) : (zaT g n m a b c d f).1 = zgv S F n m (F 2 0 + a + c) (F 2 (n - 1) + b + d) ∧ zSm (zgv S F n m (F 2 0 + a + c) (F 2 (n - 1) + b + d)) := by
  have h6 := h.1
  have e0 : zly g f (6 + 5 * 0 + 1) = F 2 0 := (zly_at (by omega)).trans (h.at2 (p := 0) (by omega))
  have eL : zly g f (6 + 5 * (n - 1) + 1) = F 2 (n - 1) := (zly_at (by omega)).trans (h.at2 (p := n - 1) (by omega))
  have e : zaS g n a b c d f = (true, upd (upd (zly g f) (6 + 5 * 0 + 1) (F 2 0 + a + c)) (6 + 5 * (n - 1) + 1) (F 2 (n - 1) + b + d)) := by
    unfold zaS
    dsimp only
    rw [stp_ok e0 c1]
    dsimp only
    rw [stp_ok ((zu_ne (by omega)).trans eL) c2]
    dsimp only
    rw [stp_ok (p := 0) ((zu_ne (by omega)).trans zu_eq) c3]
    dsimp only
    rw [stp_ok (p := n - 1) ((zu_ne (by omega)).trans zu_eq) c4]
    dsimp only
    rw [zu_swap (i := 6 + 5 * (n - 1) + 1) (j := 6 + 5 * 0 + 1) (by omega), zu_over, zu_over]
    rfl
  have r := ((h.take (S := S) (f := f)).u2 (p := 0) (zpl_N c3)).u2 (p := n - 1) (zpl_N c4) |>.noons m
  have l0 := r.lg (p := 0) (by omega)
  have lL := r.lg (p := n - 1) (by omega)
  obtain ⟨u, hu, eu⟩ := (r.2.2.2.2.2.2.2.2 0 (by omega)).2.2.2
  obtain ⟨w, hw, ew⟩ := (r.2.2.2.2.2.2.2.2 (n - 1) (by omega)).2.2.2
  have ev : (zaT g n m a b c d f).1 = zgv S F n m (F 2 0 + a + c) (F 2 (n - 1) + b + d) := by
    unfold zaT
    rw [e, if_pos rfl]
    dsimp only
    rw [l0, lL]
    rfl
  refine ⟨ev, ?_⟩
  show zSm (zgn S F n m (F 2 0 + a + c) (F 2 (n - 1) + b + d) 4 0 - zgn S F n m (F 2 0 + a + c) (F 2 (n - 1) + b + d) 4 (n - 1))
  unfold zgn
  rw [eu, ew]
  exact zq_sm u (by omega) w (by omega)
end
/-- byTurns: class and reference, two papers at least -/
theorem zRl.turns2 (h : zRl F g n) (h2 : 2 ≤ n) (ht : t ≤ 4) (f : zF) (S : zS) : (zF1 g n m t f).1 = (zbo F n m t 0 (F 2 0) (F 2 (n - 1)) S).1 := by
  obtain ⟨u, hu, eu⟩ := (h.2.2.2.2.2.2.2.2 0 (by omega)).2.1
  obtain ⟨w, hw, ew⟩ := (h.2.2.2.2.2.2.2.2 (n - 1) (by omega)).2.1
  have z0 : zpl (F 2 0) := by rw [eu]; exact zq_pl u (by omega)
  have zL : zpl (F 2 (n - 1)) := by rw [ew]; exact zq_pl w (by omega)
  have k4 : ∀ (a b c : Int32) (f : zF) (S : zS), zpl (F 2 0 + a) → zpl (F 2 (n - 1) + b) → zpl (F 2 0 + a + c) → (zF4 g n m t a b c f).1 = (zbo F n m (t - 3) 3 (F 2 0 + a + c) (F 2 (n - 1) + b) S).1 ∧ zSm (zbo F n m (t - 3) 3 (F 2 0 + a + c) (F 2 (n - 1) + b) S).1 := fun a b c f S c1 c2 c3 =>
    lw_min (L := 3) (by decide) c2 c3 (fun i f S _ c4 => by
      rw [show t - (3 + 1) = 0 by omega]
      exact aS_ok h h2 c1 c2 c3 c4 S) (fun i f _ c4 => aS_4 h h2 c4) f S
  have k3 : ∀ (a b : Int32) (f : zF) (S : zS), zpl (F 2 0 + a) → zpl (F 2 (n - 1) + b) → (zF3 g n m t a b f).1 = (zbo F n m (t - 2) 2 (F 2 0 + a) (F 2 (n - 1) + b) S).1 ∧ zSm (zbo F n m (t - 2) 2 (F 2 0 + a) (F 2 (n - 1) + b) S).1 := fun a b f S c1 c2 =>
    lw_max (L := 2) (by decide) c1 c2 (fun i f S _ c3 => k4 a b _ f S c1 c2 c3) (fun i f _ c3 => fo_none zminN_n (fun d f => aS_3 h h2 c3) _ _ _) f S
  have k2 : ∀ (a : Int32) (f : zF) (S : zS), zpl (F 2 0 + a) → (zF2 g n m t a f).1 = (zbo F n m (t - 1) 1 (F 2 0 + a) (F 2 (n - 1)) S).1 ∧ zSm (zbo F n m (t - 1) 1 (F 2 0 + a) (F 2 (n - 1)) S).1 := fun a f S c1 =>
    lw_min (L := 1) (by decide) zL c1 (fun i f S _ c2 => k3 a _ f S c1 c2) (fun i f _ c2 => fo_none zmaxN_n (fun c f => fo_none zminN_n (fun d f => aS_2 h h2 c2) _ _ _) _ _ _) f S
  exact (lw_max (L := 0) (by decide) z0 zL (fun i f S _ c1 => k2 _ f S c1) (fun i f _ c1 => fo_none zminN_n (fun b f => fo_none zmaxN_n (fun c f => fo_none zminN_n (fun d f => aS_1 h (by omega) c1) _ _ _) _ _ _) _ _ _) f S).1
def z0N (x : Int32) : Prop := x = -1000000 ∨ x = 0
theorem z0_mx {x y : Int32} (hx : z0N x) (hy : z0N y) : z0N (zmaxN x y) ∧ ((x = 0 ∨ y = 0) → zmaxN x y = 0) := by
  rcases hx with rfl | rfl <;> rcases hy with rfl | rfl <;> (refine ⟨?_, ?_⟩ <;> first | (unfold z0N; decide) | decide)
theorem z0_mn {x y : Int32} (hx : z0N x) (hy : z0N y) : z0N (zminN x y) ∧ ((x = 0 ∨ y = 0) → zminN x y = 0) := by
  rcases hx with rfl | rfl <;> rcases hy with rfl | rfl <;> (refine ⟨?_, ?_⟩ <;> first | (unfold z0N; decide) | decide)
theorem fo_0 {op : Int32 → Int32 → Int32} (ho : ∀ x y, z0N x → z0N y → z0N (op x y) ∧ ((x = 0 ∨ y = 0) → op x y = 0)) {vr : Int32 → zF → Int32 × zF} (hv : ∀ (e : Int32) (f : zF), z0N (vr e f).1) : ∀ (k : Nat) (x r : Int32) (f : zF), z0N r → z0N (zfoT op vr k x (r, f)).1 ∧ (r = 0 → (zfoT op vr k x (r, f)).1 = 0)
  | 0, x, r, f, h => ⟨h, fun e => e⟩
  | k + 1, x, r, f, h => by
    unfold zfoT
    obtain ⟨a1, a2⟩ := ho r (vr x f).1 h (hv x f)
    obtain ⟨b1, b2⟩ := fo_0 ho hv k (x + Int32.ofInt 1) (op r (vr x f).1) (vr x f).2 a1
    exact ⟨b1, fun e => b2 (a2 (Or.inl e))⟩
theorem fo_00 {op : Int32 → Int32 → Int32} (ho : ∀ x y, z0N x → z0N y → z0N (op x y) ∧ ((x = 0 ∨ y = 0) → op x y = 0)) {vr : Int32 → zF → Int32 × zF} (hv : ∀ (e : Int32) (f : zF), z0N (vr e f).1) (h0 : ∀ f : zF, (vr 0 f).1 = 0) {L : Nat} (f : zF) : (zfoT op vr (zkx t L) (zkf t L) (-1000000, f)).1 = 0 := by
  by_cases q : L < t
  · rw [show zkx t L = 3 from if_pos q, show zkf t L = -1 from if_pos q]
    have hn : z0N (-1000000) := Or.inl rfl
    obtain ⟨a1, -⟩ := ho (-1000000) (vr (-1) f).1 hn (hv _ _)
    obtain ⟨b1, b2⟩ := ho (op (-1000000) (vr (-1) f).1) (vr 0 (vr (-1) f).2).1 a1 (hv _ _)
    exact (fo_0 ho hv 1 (0 + Int32.ofInt 1) (op (op (-1000000) (vr (-1) f).1) (vr 0 (vr (-1) f).2).1) (vr 0 (vr (-1) f).2).2 b1).2 (b2 (Or.inr (h0 _)))
  · rw [show zkx t L = 1 from if_neg q, show zkf t L = 0 from if_neg q]
    exact (ho (-1000000) (vr 0 f).1 (Or.inl rfl) (hv _ _)).2 (Or.inr (h0 f))
/-- one paper alone: nothing is gained -/
theorem zbo_1 : ∀ (k t : Nat) (x y : Int32) (S : zS), zpl x → zpl y → (zbo F 1 m k t x y S).1 = 0
  | 0, t, x, y, S, hx, hy => Int32.sub_self _
  | k + 1, t, x, y, S, hx, hy => by
    have s0 : zSm 0 := by unfold zSm; decide
    show (zlp (decide (t % 2 = 0)) (fun x2 y2 S2 => zbo F 1 m k (t + 1) x2 y2 S2) x y 3 0 (if t % 2 = 0 then (-9) else nI 9, S)).1 = 0
    by_cases q : t % 2 = 0
    · rw [if_pos q, decide_eq_true q]
      have g1 := (lv_max (vr := fun e f => (if zpl (x + e) then 0 else -1000000, f)) (vc := fun x2 y2 S2 => zbo F 1 m k (t + 1) x2 y2 S2) hx hy (fun i f S _ c => by
        have e := zbo_1 k (t + 1) (x + (nI i - nI 1)) y S c hy
        dsimp only
        rw [if_pos c, e]
        exact ⟨rfl, s0⟩) (fun i f _ c => if_neg c) 3 0 (-1000000) (-9) (fun _ => 0) S rfl (Or.inl ⟨rfl, rfl, by omega⟩)).1
      rw [← g1]
      exact fo_00 (t := 1) (L := 0) (fun _ _ => z0_mx) (fun e f => by dsimp only; unfold z0N; split <;> simp) (fun f => by dsimp only; rw [Int32.add_zero, if_pos hx]) _
    · rw [if_neg q, decide_eq_false q]
      have g1 := (lv_min (vr := fun e f => (if zpl (y + e) then 0 else -1000000, f)) (vc := fun x2 y2 S2 => zbo F 1 m k (t + 1) x2 y2 S2) hy hx (fun i f S _ c => by
        have e := zbo_1 k (t + 1) x (y + (nI i - nI 1)) S hx c
        dsimp only
        rw [if_pos c, e]
        exact ⟨rfl, s0⟩) (fun i f _ c => if_neg c) 3 0 (-1000000) (nI 9) (fun _ => 0) S rfl (Or.inl ⟨rfl, rfl, by omega⟩)).1
      rw [← g1]
      exact fo_00 (t := 1) (L := 0) (fun _ _ => z0_mn) (fun e f => by dsimp only; unfold z0N; split <;> simp) (fun f => by dsimp only; rw [Int32.add_zero, if_pos hy]) _
theorem aT_0 {a b c d : Int32} : z0N (zaT g 1 m a b c d f).1 := by
  unfold zaT
  split
  · exact Or.inr (Int32.sub_self _)
  · exact Or.inl rfl
theorem stp_0 {y : Int32} (e : f (6 + 5 * 0 + 1) = y) (h : zpl y) : zstp f 0 0 = (true, f) := by
  rw [stp_ok e (by rw [Int32.add_zero]; exact h), Int32.add_zero, ← e, zu_same]
theorem zRl.turns1 (h : zRl F g 1) (f : zF) (S : zS) : (zF1 g 1 m t f).1 = (zbo F 1 m t 0 (F 2 0) (F 2 (1 - 1)) S).1 := by
  obtain ⟨u, hu, eu⟩ := (h.2.2.2.2.2.2.2.2 0 (by omega)).2.1
  have z0 : zpl (F 2 0) := by rw [eu]; exact zq_pl u (by omega)
  rw [zbo_1 t 0 _ _ S z0 z0]
  have mx : ∀ x y, z0N x → z0N y → z0N (zmaxN x y) ∧ ((x = 0 ∨ y = 0) → zmaxN x y = 0) := fun _ _ => z0_mx
  have mn : ∀ x y, z0N x → z0N y → z0N (zminN x y) ∧ ((x = 0 ∨ y = 0) → zminN x y = 0) := fun _ _ => z0_mn
  have n0 : z0N (-1000000) := Or.inl rfl
  have v4 : ∀ (a b c : Int32) (f : zF), z0N (zF4 g 1 m t a b c f).1 := fun a b c f => (fo_0 mn (fun d f => aT_0) _ _ _ _ n0).1
  have v3 : ∀ (a b : Int32) (f : zF), z0N (zF3 g 1 m t a b f).1 := fun a b f => (fo_0 mx (fun c f => v4 a b c f) _ _ _ _ n0).1
  have v2 : ∀ (a : Int32) (f : zF), z0N (zF2 g 1 m t a f).1 := fun a f => (fo_0 mn (fun b f => v3 a b f) _ _ _ _ n0).1
  refine fo_00 mx v2 (fun f => fo_00 mn (v3 0) (fun f => fo_00 mx (v4 0 0) (fun f => fo_00 mn (fun d f => aT_0) (fun f => ?_) _) _) _) _
  have e0 : zly g f (6 + 5 * 0 + 1) = F 2 0 := (zly_at (by omega)).trans (h.at2 (p := 0) (by omega))
  have e : zaS g 1 0 0 0 0 f = (true, zly g f) := by
    unfold zaS
    dsimp only
    rw [stp_0 e0 z0]
    dsimp only
    rw [show 1 - 1 = 0 from rfl, stp_0 e0 z0]
    dsimp only
    rw [stp_0 e0 z0]
    dsimp only
    rw [stp_0 e0 z0]
    rfl
  show (zaT g 1 m 0 0 0 0 f).1 = 0
  unfold zaT
  rw [e, if_pos rfl]
  exact Int32.sub_self _
/-- byTurns: class and reference -/
theorem zRl.turns (h : zRl F g n) (h1 : 0 < n) (ht : t ≤ 4) (f : zF) (S : zS) : (zF1 g n m t f).1 = (zbo F n m t 0 (F 2 0) (F 2 (n - 1)) S).1 := by
  by_cases e : n = 1
  · subst e
    exact h.turns1 f S
  · exact h.turns2 (by omega) ht f S
end ZRd
