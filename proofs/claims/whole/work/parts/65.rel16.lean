section ZRg
variable {S T : zS} {F B : zF} {n L a : Nat} {y : zY} {c lo hi nu f fa : Int32}
def zDr (S : zS) : Prop := ∀ j, 3 ≤ j → j ≤ 6 → S 0 j = 0
theorem zDr.u (h : zDr S) {q i : Nat} {x : Int32} (hq : ¬ (q = 0 ∧ 3 ≤ i ∧ i ≤ 6)) : zDr (zsu S q i x) := fun j h1 h2 => by
  rw [zs_ne (by omega)]
  exact h j h1 h2
theorem zthen_T {u : zP} {f : zP → Bool × zP} : zthen (true, u) f = f u := rfl
theorem zthen_F {u : zP} {f : zP → Bool × zP} : zthen (false, u) f = (false, u) := rfl
theorem zrL_then {u : zP} : zrL B L u = zthen (zrB B L (nI 99) u) (fun r1 => zthen (zrN B L (nI 0) (nI 9) r1) (fun r2 => zthen (zrB B L (nI 44) (zsu r2.1 0 1 r2.2.2.1, r2.2)) (fun r3 => zthen (zrN B L (nI 0) (nI 2) r3) (fun r4 => zrB B L (nI 59) (zsu r4.1 0 2 r4.2.2.1, r4.2))))) := rfl
theorem rd_law (h : zAt B L a y) (hd : zDr S) : (∃ (b : Nat) (nu' c1 d1 : Int32), zrL B L (S, a, nu, f, fa) = (true, (zsu (zsu S 0 1 c1) 0 2 d1, b, nu', f, fa)) ∧ zAt B L b (zqE B L y) ∧ (zqA B L y).1 = c1 ∧ (zqB B L y).1 = d1 ∧ (nI 0 ≤ c1 ∧ c1 ≤ nI 9) ∧ (nI 0 ≤ d1 ∧ d1 ≤ nI 2)) ∨ (∃ (S' : zS) (k : Nat) (nu' w : Int32), zrL B L (S, a, nu, f, fa) = (false, (S', k, nu', w, nI k)) ∧ zFd w k (zqE B L y) ∧ zDr S') := by
  have eE : zqE B L y = zSg B L (nI 59) (zNu B L (nI 0) (nI 2) (zSg B L (nI 44) (zNu B L (nI 0) (nI 9) (zMu B L (decide (y.2.2.2.2.1 = 0 ∧ y.2.2.1 = nI 2 ∧ y.2.2.2.1 = nI 99)) y)).2)).2 := rfl
  have eB : zqB B L y = zNu B L (nI 0) (nI 2) (zSg B L (nI 44) (zNu B L (nI 0) (nI 9) (zMu B L (decide (y.2.2.2.2.1 = 0 ∧ y.2.2.1 = nI 2 ∧ y.2.2.2.1 = nI 99)) y)).2) := rfl
  have eA : zqA B L y = zNu B L (nI 0) (nI 9) (zMu B L (decide (y.2.2.2.2.1 = 0 ∧ y.2.2.1 = nI 2 ∧ y.2.2.2.1 = nI 99)) y) := rfl
  rw [zrL_then, eE, eB, eA]
  rcases rd_c (S := S) (nu := nu) (f := f) (fa := fa) h with ⟨e1, h1⟩ | ⟨e1, h1⟩
  · rw [e1, zthen_T]
    rcases rd_num (S := S) (nu := nu) (f := f) (fa := fa) (lo := nI 0) (hi := nI 9) h1 with ⟨b, v, e2, f2, h2, r1, r2, -⟩ | ⟨w, e2, h2⟩
    · rw [e2, zthen_T]
      dsimp only
      rcases rd_sign (S := zsu S 0 1 v) (nu := v) (f := f) (fa := fa) (c := nI 44) (Or.inl rfl) h2 with ⟨e3, h3⟩ | ⟨e3, h3⟩
      · rw [e3, zthen_T]
        rcases rd_num (S := zsu S 0 1 v) (nu := v) (f := f) (fa := fa) (lo := nI 0) (hi := nI 2) h3 with ⟨b4, v4, e4, f4, h4, r3, r4, -⟩ | ⟨w, e4, h4⟩
        · rw [e4, zthen_T]
          dsimp only
          rcases rd_sign (S := zsu (zsu S 0 1 v) 0 2 v4) (nu := v4) (f := f) (fa := fa) (c := nI 59) (Or.inr rfl) h4 with ⟨e5, h5⟩ | ⟨e5, h5⟩
          · exact Or.inl ⟨_, _, _, _, e5, h5, f2, f4, ⟨r1, r2⟩, ⟨r3, r4⟩⟩
          · exact Or.inr ⟨_, _, _, _, e5, h5, (hd.u (by omega)).u (by omega)⟩
        · rw [e4, zthen_F]
          refine Or.inr ⟨_, _, _, _, rfl, ?_, hd.u (by omega)⟩
          rw [zSg_st h4.ne]
          exact h4
      · rw [e3, zthen_F]
        refine Or.inr ⟨_, _, _, _, rfl, ?_, hd.u (by omega)⟩
        rw [zNu_st h3.ne, zSg_st h3.ne]
        exact h3
    · rw [e2, zthen_F]
      refine Or.inr ⟨_, _, _, _, rfl, ?_, hd⟩
      rw [zSg_st h2.ne, zNu_st h2.ne, zSg_st h2.ne]
      exact h2
  · rw [e1, zthen_F]
    refine Or.inr ⟨_, _, _, _, rfl, ?_, hd⟩
    rw [zNu_st h1.ne, zSg_st h1.ne, zNu_st h1.ne, zSg_st h1.ne]
    exact h1
theorem kd_five {x : Int32} (hk : ¬ zkt x = 0) : x = nI 98 ∨ x = nI 100 ∨ x = nI 108 ∨ x = nI 112 ∨ x = nI 115 := by
  unfold zkt at hk
  by_cases e1 : x = nI 98
  · exact Or.inl e1
  · by_cases e2 : x = nI 100
    · exact Or.inr (Or.inl e2)
    · by_cases e3 : x = nI 108
      · exact Or.inr (Or.inr (Or.inl e3))
      · by_cases e4 : x = nI 112
        · exact Or.inr (Or.inr (Or.inr (Or.inl e4)))
        · by_cases e5 : x = nI 115
          · exact Or.inr (Or.inr (Or.inr (Or.inr e5)))
          · rw [if_neg e1, if_neg e2, if_neg e3, if_neg e4, if_neg e5] at hk
            exact absurd rfl hk
theorem kd_ok {x : Int32} (hk : ¬ zkt x = 0) : (nI 97 ≤ x ∧ x ≤ nI 122) ∧ zkb x = zkt x ∧ ¬ zkb x = -1000000 ∧ ∃ j, 1 ≤ j ∧ j ≤ 5 ∧ zkt x = nI j := by
  rcases kd_five hk with rfl | rfl | rfl | rfl | rfl
  · exact ⟨by decide, by decide, by decide, 3, by decide, by decide, by decide⟩
  · exact ⟨by decide, by decide, by decide, 4, by decide, by decide, by decide⟩
  · exact ⟨by decide, by decide, by decide, 2, by decide, by decide, by decide⟩
  · exact ⟨by decide, by decide, by decide, 1, by decide, by decide, by decide⟩
  · exact ⟨by decide, by decide, by decide, 5, by decide, by decide, by decide⟩
theorem kd_no {x : Int32} (hk : zkt x = 0) : zkb x = -1000000 := by
  have n1 : ¬ x = nI 98 := fun e => by rw [e] at hk; exact absurd hk (by decide)
  have n2 : ¬ x = nI 100 := fun e => by rw [e] at hk; exact absurd hk (by decide)
  have n3 : ¬ x = nI 108 := fun e => by rw [e] at hk; exact absurd hk (by decide)
  have n4 : ¬ x = nI 112 := fun e => by rw [e] at hk; exact absurd hk (by decide)
  have n5 : ¬ x = nI 115 := fun e => by rw [e] at hk; exact absurd hk (by decide)
  unfold zkb
  rw [if_neg n4, if_neg n3, if_neg n1, if_neg n2, if_neg n5]
theorem zq_z0 : ∀ q, q < 6 → ((0 : Int32) >>> (nI q &&& 31)) &&& nI 1 = nI 0 := by decide +kernel
/-- one more paper -/
theorem zRl.add (h : zRl S F n) (h5 : n < 6) (hd : S 0 6 = 0) {k : Nat} (hk : 1 ≤ k ∧ k ≤ 5) {a b c : Int32} (ha : zN 9 a) (hb : zN 9 b) (hc : zN 9 c) : zRl (zsu (zsu (zsu (zsu (zsu S 1 n (nI k)) 2 n a) 3 n b) 4 n c) 0 0 (nI (n + 1))) (upd (upd (upd (upd (upd (upd F (6 + 5 * n) (nI k)) (6 + 5 * n + 1) a) (6 + 5 * n + 2) b) (6 + 5 * n + 3) c) (6 + 5 * n + 4) (nI 0)) 0 (nI (n + 1))) (n + 1) := by
  obtain ⟨h6, hn, h0, hp, hc1, hd1, hr, -, hq⟩ := h
  have s0 : ∀ j, 0 < j → zsu (zsu (zsu (zsu (zsu S 1 n (nI k)) 2 n a) 3 n b) 4 n c) 0 0 (nI (n + 1)) 0 j = S 0 j := fun j hj => by
    rw [zs_ne (by omega), zs_ne (by omega), zs_ne (by omega), zs_ne (by omega), zs_ne (by omega)]
  have sq : ∀ i q, 0 < i → q < n → zsu (zsu (zsu (zsu (zsu S 1 n (nI k)) 2 n a) 3 n b) 4 n c) 0 0 (nI (n + 1)) i q = S i q := fun i q hi hq => by
    rw [zs_ne (by omega), zs_ne (by omega), zs_ne (by omega), zs_ne (by omega), zs_ne (by omega)]
  have hz : ∀ q, q < 6 → hidC (zsu (zsu (zsu (zsu (zsu S 1 n (nI k)) 2 n a) 3 n b) 4 n c) 0 0 (nI (n + 1))) q = nI 0 := fun q hq => by
    unfold hidC
    rw [s0 6 (by omega), hd]
    exact zq_z0 q hq
  have hz2 : ∀ q, q < 6 → hidC S q = nI 0 := fun q hq => by
    unfold hidC
    rw [hd]
    exact zq_z0 q hq
  refine ⟨by omega, zs_eq, fun j hj => ?_, fun q hq2 => ?_, by rw [s0 1 (by omega)]; exact hc1, by rw [s0 2 (by omega)]; exact hd1, by rw [s0 3 (by omega)]; exact hr, ⟨0, Nat.two_pow_pos _, by rw [s0 6 (by omega)]; exact hd⟩, fun q hq2 => ?_⟩
  · by_cases e : j = 0
    · subst e
      rw [zu_eq, zs_eq]
    · rw [s0 j (by omega), zu_ne e, zu_ne (by omega), zu_ne (by omega), zu_ne (by omega), zu_ne (by omega), zu_ne (by omega)]
      exact h0 j hj
  · rw [hz q (by omega)]
    by_cases e : q = n
    · subst e
      refine ⟨?_, ?_, ?_, ?_, ?_⟩
      · rw [zu_ne (by omega), zu_ne (by omega), zu_ne (by omega), zu_ne (by omega), zu_ne (by omega), zu_eq, zs_ne (by omega), zs_ne (by omega), zs_ne (by omega), zs_ne (by omega), zs_eq]
      · rw [zu_ne (by omega), zu_ne (by omega), zu_ne (by omega), zu_ne (by omega), zu_eq, zs_ne (by omega), zs_ne (by omega), zs_ne (by omega), zs_eq]
      · rw [zu_ne (by omega), zu_ne (by omega), zu_ne (by omega), zu_eq, zs_ne (by omega), zs_ne (by omega), zs_eq]
      · rw [zu_ne (by omega), zu_ne (by omega), zu_eq, zs_ne (by omega), zs_eq]
      · rw [zu_ne (by omega), zu_eq]
    · obtain ⟨g1, g2, g3, g4, g5⟩ := hp q (by omega)
      have fq : ∀ i, i < 5 → upd (upd (upd (upd (upd (upd F (6 + 5 * n) (nI k)) (6 + 5 * n + 1) a) (6 + 5 * n + 2) b) (6 + 5 * n + 3) c) (6 + 5 * n + 4) (nI 0)) 0 (nI (n + 1)) (6 + 5 * q + i) = F (6 + 5 * q + i) := fun i hi => by
        rw [zu_ne (by omega), zu_ne (by omega), zu_ne (by omega), zu_ne (by omega), zu_ne (by omega), zu_ne (by omega)]
      refine ⟨?_, ?_, ?_, ?_, ?_⟩
      · rw [sq 1 q (by omega) (by omega)]; exact (fq 0 (by omega)).trans g1
      · rw [sq 2 q (by omega) (by omega)]; exact (fq 1 (by omega)).trans g2
      · rw [sq 3 q (by omega) (by omega)]; exact (fq 2 (by omega)).trans g3
      · rw [sq 4 q (by omega) (by omega)]; exact (fq 3 (by omega)).trans g4
      · exact (fq 4 (by omega)).trans (g5.trans (hz2 q (by omega)))
  · by_cases e : q = n
    · subst e
      refine ⟨⟨k, hk.1, hk.2, ?_⟩, ?_, ?_, ?_⟩
      · rw [zs_ne (by omega), zs_ne (by omega), zs_ne (by omega), zs_ne (by omega), zs_eq]
      · rw [zs_ne (by omega), zs_ne (by omega), zs_ne (by omega), zs_eq]; exact ha
      · rw [zs_ne (by omega), zs_ne (by omega), zs_eq]; exact hb
      · rw [zs_ne (by omega), zs_eq]; exact hc
    · rw [sq 1 q (by omega) (by omega), sq 2 q (by omega) (by omega), sq 3 q (by omega) (by omega), sq 4 q (by omega) (by omega)]
      exact hq q (by omega)
theorem zN_of {x : Int32} (h : nI 0 ≤ x) (h2 : x ≤ nI 9) : zN 9 x := zpl_N ⟨h, h2⟩
theorem zq_10 {x : Int32} (h : nI 1 ≤ x) : nI 0 ≤ x := Int32.le_trans (by decide) h
theorem zif_2 (p : Prop) [Decidable p] (a b : zF) (c : zY) : (if p then (a, c) else (b, c)).2 = c := by
  split <;> rfl
theorem zif_1 {p : Prop} [Decidable p] (h : p) (a b : zF) (c : zY) : (if p then (a, c) else (b, c)).1 = a := by
  rw [if_pos h]
theorem zRp_2 : (zRp B L n F y).2 = zrE B L n y := by
  unfold zRp
  exact zif_2 _ _ _ _
theorem rd_paper (h : zAt B L a y) (hr : zRl S F n) (hd : zDr S) (hk : ¬ zkt (zby B L a) = 0) : (∃ (S' : zS) (b : Nat) (nu' : Int32), zrP B L n (S, a, nu, f, fa) = (true, (S', b, nu', f, fa)) ∧ zAt B L b (zRp B L n F y).2 ∧ zRl S' (zRp B L n F y).1 (n + 1) ∧ zDr S' ∧ a < b ∧ n < 6) ∨ (∃ (S' : zS) (k : Nat) (nu' w : Int32), zrP B L n (S, a, nu, f, fa) = (false, (S', k, nu', w, nI k)) ∧ zFd w k (zRp B L n F y).2 ∧ zDr S') := by
  obtain ⟨kl, kb, -, j, j1, j5, ej⟩ := kd_ok hk
  obtain ⟨t, -⟩ := zTk_lt kl
  have h2 := h
  obtain ⟨y1, y2, y3, y4, y5⟩ := h2
  rw [t] at y1 y3 y4
  have eE : zrE B L n y = zSg B L (nI 59) (zNu B L (nI 1) (nI 9) (zSg B L (nI 44) (zNu B L (nI 0) (nI 9) (zSg B L (nI 44) (zNu B L (nI 0) (nI 9) (zMu B L true (zr1 n y))).2)).2)).2 := rfl
  have eP : zrP B L n (S, a, nu, f, fa) = if n < 6 then zthen (zrN B L (nI 0) (nI 9) (S, a + 1, nu, f, fa)) (fun v1 => zthen (zrB B L (nI 44) (zsu (zsu v1.1 1 n (nI j)) 2 n v1.2.2.1, v1.2)) (fun v2 => zthen (zrN B L (nI 0) (nI 9) v2) (fun v3 => zthen (zrB B L (nI 44) (zsu v3.1 3 n v3.2.2.1, v3.2)) (fun v4 => zthen (zrN B L (nI 1) (nI 9) v4) (fun v5 => zrB B L (nI 59) (zsu (zsu v5.1 4 n v5.2.2.1) 0 0 (zsu v5.1 4 n v5.2.2.1 0 0 + nI 1), v5.2)))))) else (false, (S, a, nu, nI 3, nI a)) := by
    rw [← ej]
    exact if_neg hk
  rw [eP]
  by_cases n6 : n < 6
  · rw [if_pos n6]
    have er : zr1 n y = y := if_neg (by omega)
    rw [er, zMu_t y5] at eE
    have hA : zAt B L (a + 1) (zNxT B L y) := by
      have := zNxT_at (B := B) (L := L) y5
      rw [y1] at this
      exact this
    rcases rd_num (S := S) (nu := nu) (f := f) (fa := fa) (lo := nI 0) (hi := nI 9) hA with ⟨b1, v1, e1, f1, h1, r1, s1, l1⟩ | ⟨w, e1, h1⟩
    · rw [e1, zthen_T]
      dsimp only
      rcases rd_sign (S := zsu (zsu S 1 n (nI j)) 2 n v1) (nu := v1) (f := f) (fa := fa) (c := nI 44) (Or.inl rfl) h1 with ⟨e2, h2⟩ | ⟨e2, h2⟩
      · rw [e2, zthen_T]
        rcases rd_num (S := zsu (zsu S 1 n (nI j)) 2 n v1) (nu := v1) (f := f) (fa := fa) (lo := nI 0) (hi := nI 9) h2 with ⟨b3, v3, e3, f3, h3, r3, s3, l3⟩ | ⟨w, e3, h3⟩
        · rw [e3, zthen_T]
          dsimp only
          rcases rd_sign (S := zsu (zsu (zsu S 1 n (nI j)) 2 n v1) 3 n v3) (nu := v3) (f := f) (fa := fa) (c := nI 44) (Or.inl rfl) h3 with ⟨e4, h4⟩ | ⟨e4, h4⟩
          · rw [e4, zthen_T]
            rcases rd_num (S := zsu (zsu (zsu S 1 n (nI j)) 2 n v1) 3 n v3) (nu := v3) (f := f) (fa := fa) (lo := nI 1) (hi := nI 9) h4 with ⟨b5, v5, e5, f5, h5, r5, s5, l5⟩ | ⟨w, e5, h5⟩
            · rw [e5, zthen_T]
              dsimp only
              have e00 : zsu (zsu (zsu (zsu S 1 n (nI j)) 2 n v1) 3 n v3) 4 n v5 0 0 + nI 1 = nI (n + 1) := by
                rw [zs_ne (by omega), zs_ne (by omega), zs_ne (by omega), zs_ne (by omega), hr.2.1, nI_add]
              rw [e00]
              have dS : zDr (zsu (zsu (zsu (zsu (zsu S 1 n (nI j)) 2 n v1) 3 n v3) 4 n v5) 0 0 (nI (n + 1))) := ((((hd.u (by omega)).u (by omega)).u (by omega)).u (by omega)).u (by omega)
              rcases rd_sign (S := zsu (zsu (zsu (zsu (zsu S 1 n (nI j)) 2 n v1) 3 n v3) 4 n v5) 0 0 (nI (n + 1))) (nu := v5) (f := f) (fa := fa) (c := nI 59) (Or.inr rfl) h5 with ⟨e6, h6⟩ | ⟨e6, h6⟩
              · refine Or.inl ⟨_, _, _, e6, by rw [zRp_2, eE]; exact h6, ?_, dS, by omega, n6⟩
                have eF : (zRp B L n F y).1 = zrF B L n F y := by
                  unfold zRp
                  exact zif_1 (by rw [eE]; exact h6.2.2.2.2) _ _ _
                have ea : (zrA B L n y).1 = v1 := by
                  show (zNu B L (nI 0) (nI 9) (zMu B L true (zr1 n y))).1 = v1
                  rw [er, zMu_t y5]
                  exact f1
                have eb : (zrBb B L n y).1 = v3 := by
                  show (zNu B L (nI 0) (nI 9) (zSg B L (nI 44) (zNu B L (nI 0) (nI 9) (zMu B L true (zr1 n y))).2)).1 = v3
                  rw [er, zMu_t y5]
                  exact f3
                have ec : (zrC B L n y).1 = v5 := by
                  show (zNu B L (nI 1) (nI 9) (zSg B L (nI 44) (zNu B L (nI 0) (nI 9) (zSg B L (nI 44) (zNu B L (nI 0) (nI 9) (zMu B L true (zr1 n y))).2)).2)).1 = v5
                  rw [er, zMu_t y5]
                  exact f5
                rw [eF]
                unfold zrF
                rw [ea, eb, ec, y4, kb, ej]
                exact hr.add n6 (hd 6 (by omega) (by omega)) ⟨j1, j5⟩ (zN_of r1 s1) (zN_of r3 s3) (zN_of (zq_10 r5) s5)
              · refine Or.inr ⟨_, _, _, _, e6, ?_, dS⟩
                rw [zRp_2, eE]
                exact h6
            · rw [e5, zthen_F]
              refine Or.inr ⟨_, _, _, _, rfl, ?_, ((hd.u (by omega)).u (by omega)).u (by omega)⟩
              rw [zRp_2, eE, zSg_st h5.ne]
              exact h5
          · rw [e4, zthen_F]
            refine Or.inr ⟨_, _, _, _, rfl, ?_, ((hd.u (by omega)).u (by omega)).u (by omega)⟩
            rw [zRp_2, eE, zNu_st h4.ne, zSg_st h4.ne]
            exact h4
        · rw [e3, zthen_F]
          refine Or.inr ⟨_, _, _, _, rfl, ?_, (hd.u (by omega)).u (by omega)⟩
          rw [zRp_2, eE, zSg_st h3.ne, zNu_st h3.ne, zSg_st h3.ne]
          exact h3
      · rw [e2, zthen_F]
        refine Or.inr ⟨_, _, _, _, rfl, ?_, (hd.u (by omega)).u (by omega)⟩
        rw [zRp_2, eE, zNu_st h2.ne, zSg_st h2.ne, zNu_st h2.ne, zSg_st h2.ne]
        exact h2
    · rw [e1, zthen_F]
      refine Or.inr ⟨_, _, _, _, rfl, ?_, hd⟩
      rw [zRp_2, eE, zSg_st h1.ne, zNu_st h1.ne, zSg_st h1.ne, zNu_st h1.ne, zSg_st h1.ne]
      exact h1
  · have n6e : n = 6 := by have := hr.1; omega
    have er : zr1 n y = zBd (nI 3) y := if_pos n6e
    have z := zBd_at (k := nI 3) y5 (by decide)
    rw [if_neg n6]
    refine Or.inr ⟨_, _, _, _, rfl, ?_, hd⟩
    rw [zRp_2, eE, er, zMu_st z.ne, zNu_st z.ne, zSg_st z.ne, zNu_st z.ne, zSg_st z.ne, zNu_st z.ne, zSg_st z.ne, ← y2]
    exact z
theorem zRL_stop (h : ¬ (y.2.2.2.2.1 = 0 ∧ y.2.2.1 = nI 2 ∧ ¬ zkb y.2.2.2.1 = -1000000)) : ∀ k, zRL B L k n F y = (F, y)
  | 0 => rfl
  | k + 1 => if_neg h
theorem zTk_end (h : ¬ a < L) : zTk B L a = (nI 1, -1000000, a) := if_neg h
theorem zTk_ne (h : a < L) : ¬ (zTk B L a).1 = nI 1 := by
  unfold zTk
  rw [if_pos h]
  split
  · exact (show ¬ (nI 2 : Int32) = nI 1 by decide)
  · split
    · dsimp only
      split
      · decide
      · decide
    · split
      · exact (show ¬ (nI 4 : Int32) = nI 1 by decide)
      · exact (show ¬ (nI 0 : Int32) = nI 1 by decide)
/-- papers, one behind the other: class and reference -/
theorem rd_loop : ∀ (g k n a : Nat) (y : zY) (S : zS) (F : zF) (nu : Int32), k + n = 7 → 1 ≤ n → n ≤ 6 → L ≤ a + g → zAt B L a y → zRl S F n → zDr S →
    (∃ (S' : zS) (b : Nat) (nu' : Int32) (n' : Nat), zrR B L g n (S, a, nu, f, fa) = (true, (S', b, nu', f, fa)) ∧ zRl S' (zRL B L k n F y).1 n' ∧ 0 < n' ∧ zDr S' ∧ (zFa (zRL B L k n F y).2).2.2.2.2.1 = 0) ∨ (∃ (S' : zS) (j : Nat) (nu' w : Int32), zrR B L g n (S, a, nu, f, fa) = (false, (S', j, nu', w, nI j)) ∧ zFd w j (zFa (zRL B L k n F y).2) ∧ zDr S')
  | g, k, n, a, y, S, F, nu, hk, n1, n6, hg, h, hr, hd => by
    have h2 := h
    obtain ⟨y1, y2, y3, y4, y5⟩ := h2
    by_cases al : a < L
    · match g with
      | 0 => omega
      | g + 1 =>
        have eR : zrR B L (g + 1) n (S, a, nu, f, fa) = if (zrP B L n (S, a, nu, f, fa)).1 then zrR B L g (n + 1) (zrP B L n (S, a, nu, f, fa)).2 else (false, (zrP B L n (S, a, nu, f, fa)).2) := if_pos al
        rw [eR]
        by_cases kz : zkt (zby B L a) = 0
        · have eP : zrP B L n (S, a, nu, f, fa) = (false, (S, a, nu, nI 1, nI a)) := if_pos kz
          have no : ¬ (y.2.2.2.2.1 = 0 ∧ y.2.2.1 = nI 2 ∧ ¬ zkb y.2.2.2.1 = -1000000) := fun ⟨_, q1, q2⟩ => by
            rw [y3] at q1
            rw [y4, zTk_2 q1] at q2
            exact q2 (kd_no kz)
          rw [eP, zRL_stop no k]
          refine Or.inr ⟨_, _, _, _, rfl, ?_, hd⟩
          have eF : zFa y = zBd (nI 1) y := if_pos ⟨y5, by rw [y3]; exact zTk_ne al⟩
          show zFd (nI 1) a (zFa y)
          rw [eF, ← y2]
          exact zBd_at y5 (by decide)
        · obtain ⟨kl, kb, kn, -⟩ := kd_ok kz
          have t := (zTk_lt kl).1
          match k, hk with
          | 0, hk => omega
          | k + 1, hk =>
            have eL : zRL B L (k + 1) n F y = zRL B L k (n + 1) (zRp B L n F y).1 (zRp B L n F y).2 := if_pos ⟨y5, by rw [y3, t], by rw [y4, t]; exact kn⟩
            rw [eL]
            rcases rd_paper (nu := nu) (f := f) (fa := fa) h hr hd kz with ⟨S', b, nu', eP, hb, hr', hd', lt, n5⟩ | ⟨S', j, nu', w, eP, hb, hd'⟩
            · rw [eP, if_pos rfl]
              exact rd_loop g k (n + 1) b _ S' _ nu' (by omega) (by omega) (by omega) (by omega) hb hr' hd'
            · rw [eP, if_neg (show ¬ (false = true) by decide), zRL_stop (fun q => hb.ne q.1), zFa_st hb.ne]
              exact Or.inr ⟨_, _, _, _, rfl, hb, hd'⟩
    · have t := zTk_end (B := B) al
      have eR : zrR B L g n (S, a, nu, f, fa) = (true, (S, a, nu, f, fa)) := by
        match g with
        | 0 => rfl
        | g + 1 => exact if_neg al
      have no : ¬ (y.2.2.2.2.1 = 0 ∧ y.2.2.1 = nI 2 ∧ ¬ zkb y.2.2.2.1 = -1000000) := fun ⟨_, q1, _⟩ => by
        rw [y3, t] at q1
        exact absurd q1 (show ¬ (nI 1 : Int32) = nI 2 by decide)
      have eF : zFa y = y := if_neg (fun q => q.2 (by rw [y3, t]))
      rw [eR, zRL_stop no k]
      refine Or.inl ⟨_, _, _, n, rfl, hr, by omega, hd, ?_⟩
      show (zFa y).2.2.2.2.1 = 0
      rw [eF]
      exact y5
/-- a square is read: class and reference -/
theorem rd_all (h : zAt B L 0 y) (hd : zDr S) (h0 : S 0 0 = nI 0) (hF : ∀ k, k < 6 → F k = nI 0) (h90 : L ≤ 90) :
    (∃ (S' : zS) (b : Nat) (nu' : Int32) (n' : Nat), zrd B L (S, 0, nu, f, fa) = (true, (S', b, nu', f, fa)) ∧ zRl S' (zqR B L F y).1 n' ∧ 0 < n' ∧ zDr S' ∧ (zFa (zqR B L F y).2).2.2.2.2.1 = 0) ∨ (∃ (S' : zS) (j : Nat) (nu' w : Int32), zrd B L (S, 0, nu, f, fa) = (false, (S', j, nu', w, nI j)) ∧ zFd w j (zFa (zqR B L F y).2) ∧ zDr S') := by
  have eQ : zqR B L F y = zRL B L 7 0 (zqF B L F y) (zqG B L y) := rfl
  rw [eQ]
  unfold zrd
  rcases rd_law (nu := nu) (f := f) (fa := fa) h hd with ⟨a, nu1, c1, d1, e1, h1, ea, eb, ⟨c0, c9⟩, ⟨d0, d2⟩⟩ | ⟨S1, k, nu1, w, e1, h1, hd1⟩
  · rw [e1, if_pos rfl]
    dsimp only
    have hd1 : zDr (zsu (zsu S 0 1 c1) 0 2 d1) := (hd.u (by omega)).u (by omega)
    obtain ⟨jd, hjd, ejd⟩ := nI_of2 (M := nI 2) (n := 2) (x := d1) (by decide) (Int32.not_lt.mpr d0) d2
    have hr0 : zRl (zsu (zsu S 0 1 c1) 0 2 d1) (zqF B L F y) 0 := by
      unfold zqF
      rw [ea, eb]
      refine ⟨by omega, ?_, fun k hk => ?_, fun p hp => absurd hp (by omega), ?_, ?_, ?_, ⟨0, by decide, hd1 6 (by omega) (by omega)⟩, fun p hp => absurd hp (by omega)⟩
      · rw [zs_ne (by omega), zs_ne (by omega)]; exact h0
      · by_cases k2 : k = 2
        · subst k2; rw [zu_eq, zs_eq]
        · by_cases k1 : k = 1
          · subst k1; rw [zu_ne (by omega), zu_eq, zs_ne (by omega), zs_eq]
          · rw [zu_ne k2, zu_ne k1, zs_ne (by omega), zs_ne (by omega), hF k hk]
            by_cases k0 : k = 0
            · subst k0; exact h0.symm
            · exact (hd k (by omega) (by omega)).symm
      · rw [zs_ne (by omega), zs_eq]; exact zN_of c0 c9
      · rw [zs_eq]; exact ⟨jd, hjd, ejd⟩
      · exact ⟨0, by omega, hd1 3 (by omega) (by omega)⟩
    have h1' := h1
    obtain ⟨y1, y2, y3, y4, y5⟩ := h1'
    by_cases kz : zkt (zby B L a) = 0
    · have eP : zrP B L 0 (zsu (zsu S 0 1 c1) 0 2 d1, a, nu1, f, fa) = (false, (zsu (zsu S 0 1 c1) 0 2 d1, a, nu1, nI 1, nI a)) := if_pos kz
      have no : ¬ ((zqE B L y).2.2.2.2.1 = 0 ∧ (zqE B L y).2.2.1 = nI 2 ∧ ¬ zkb (zqE B L y).2.2.2.1 = -1000000) := fun ⟨_, q1, q2⟩ => by
        rw [y3] at q1
        rw [y4, zTk_2 q1] at q2
        exact q2 (kd_no kz)
      have eG : zqG B L y = zBd (nI 1) (zqE B L y) := if_neg no
      have z := zBd_at (k := nI 1) y5 (by decide)
      rw [eP, if_neg (show ¬ (false = true) by decide), eG, zRL_stop (fun q => z.ne q.1), zFa_st z.ne]
      refine Or.inr ⟨_, _, _, _, rfl, ?_, hd1⟩
      rw [← y2]
      exact z
    · obtain ⟨kl, kb, kn, -⟩ := kd_ok kz
      have t := (zTk_lt kl).1
      have so : (zqE B L y).2.2.2.2.1 = 0 ∧ (zqE B L y).2.2.1 = nI 2 ∧ ¬ zkb (zqE B L y).2.2.2.1 = -1000000 := ⟨y5, by rw [y3, t], by rw [y4, t]; exact kn⟩
      have eG : zqG B L y = zqE B L y := if_pos so
      have eL : zRL B L 7 0 (zqF B L F y) (zqE B L y) = zRL B L 6 1 (zRp B L 0 (zqF B L F y) (zqE B L y)).1 (zRp B L 0 (zqF B L F y) (zqE B L y)).2 := if_pos so
      rw [eG, eL]
      rcases rd_paper (nu := nu1) (f := f) (fa := fa) h1 hr0 hd1 kz with ⟨S', b, nu', eP, hb, hr', hd', lt, n5⟩ | ⟨S', j, nu', w, eP, hb, hd'⟩
      · rw [eP, if_pos rfl]
        exact rd_loop 90 6 1 b _ S' _ nu' rfl (by omega) (by omega) (by omega) hb hr' hd'
      · rw [eP, if_neg (show ¬ (false = true) by decide), zRL_stop (fun q => hb.ne q.1), zFa_st hb.ne]
        exact Or.inr ⟨_, _, _, _, rfl, hb, hd'⟩
  · rw [e1, if_neg (show ¬ (false = true) by decide)]
    have eG : zqG B L y = zqE B L y := by
      unfold zqG
      rw [if_neg (fun q => h1.ne q.1), zBd_st h1.ne]
    rw [eG, zRL_stop (fun q => h1.ne q.1), zFa_st h1.ne]
    exact Or.inr ⟨_, _, _, _, rfl, h1, hd1⟩
end ZRg
