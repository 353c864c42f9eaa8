section ZRe
variable {S T F : zS} {f g : zF} {n m p : Nat} {x v : Int32}
/-- the ways of one set, a factor a paper; 0 where a hidden one is in it -/
def zTn (h s c : Nat) : Nat → Nat
  | 0 => 1
  | i + 1 => zTn h s c i * (if h / 2 ^ i % 2 = 0 then (if s / 2 ^ i % 2 = 1 then c else 10 - c) else (if s / 2 ^ i % 2 = 1 then 0 else 1))
def zsN (f : Nat → Nat) : Nat → Nat
  | 0 => 0
  | k + 1 => zsN f k + f k
def zKK (h : Nat) : Nat → Nat
  | 0 => 1
  | i + 1 => zKK h i * (if h / 2 ^ i % 2 = 0 then 10 else 1)
def zc1 (i : Nat) : Nat → Nat
  | 0 => 0
  | q + 1 => zc1 i q + i / 2 ^ q % 2
def zc0 (h i : Nat) : Nat → Nat
  | 0 => 0
  | q + 1 => zc0 h i q + (if h / 2 ^ q % 2 = 0 then 1 - i / 2 ^ q % 2 else 0)
theorem zsN_add {f : Nat → Nat} {a : Nat} : ∀ b, zsN f (a + b) = zsN f a + zsN (fun k => f (a + k)) b
  | 0 => rfl
  | b + 1 => by
    show zsN f (a + b) + f (a + b) = zsN f a + (zsN (fun k => f (a + k)) b + f (a + b))
    rw [zsN_add b, Nat.add_assoc]
theorem zsN_mul {f : Nat → Nat} {c : Nat} : ∀ k, zsN (fun s => f s * c) k = zsN f k * c
  | 0 => (Nat.zero_mul c).symm
  | k + 1 => by
    show zsN (fun s => f s * c) k + f k * c = (zsN f k + f k) * c
    rw [zsN_mul k, Nat.add_mul]
theorem zsN_cong {f g : Nat → Nat} : ∀ k, (∀ s, s < k → f s = g s) → zsN f k = zsN g k
  | 0, _ => rfl
  | k + 1, h => by
    show zsN f k + f k = zsN g k + g k
    rw [zsN_cong k (fun s hs => h s (by omega)), h k (by omega)]
theorem zTn_cong {h s t c : Nat} : ∀ i, (∀ q, q < i → s / 2 ^ q % 2 = t / 2 ^ q % 2) → zTn h s c i = zTn h t c i
  | 0, _ => rfl
  | i + 1, e => by
    unfold zTn
    rw [zTn_cong i (fun q hq => e q (by omega)), e i (by omega)]
theorem zTn_sum {h c : Nat} (hc : c ≤ 10) : ∀ n, n ≤ 6 → zsN (fun s => zTn h s c n) (2 ^ n) = zKK h n
  | 0, _ => rfl
  | n + 1, h6 => by
    have ih := zTn_sum (h := h) hc n (by omega)
    have p2 : 2 ^ n ≤ 64 := (p2n (show n ≤ 6 by omega)).2
    have e1 : zsN (fun s => zTn h s c (n + 1)) (2 ^ n) = zKK h n * (if h / 2 ^ n % 2 = 0 then 10 - c else 1) := by
      rw [← ih, ← zsN_mul]
      refine zsN_cong _ (fun s hs => ?_)
      have b := (zq_bit n (by omega) s (by omega) hs).2.2
      show zTn h s c n * _ = zTn h s c n * _
      rw [b]
      rfl
    have e2 : zsN (fun s => zTn h (2 ^ n + s) c (n + 1)) (2 ^ n) = zKK h n * (if h / 2 ^ n % 2 = 0 then c else 0) := by
      rw [← ih, ← zsN_mul]
      refine zsN_cong _ (fun s hs => ?_)
      obtain ⟨b1, b2, -⟩ := zq_bit n (by omega) s (by omega) hs
      show zTn h (2 ^ n + s) c n * _ = zTn h s c n * _
      rw [Nat.add_comm (2 ^ n) s, b2, zTn_cong n b1]
      rfl
    rw [Nat.pow_succ, Nat.mul_two, zsN_add, e1, e2, ← Nat.mul_add]
    show _ = zKK h n * _
    split
    · rw [Nat.sub_add_cancel hc]
    · rfl
theorem zKK_le {h : Nat} : ∀ n, zKK h n ≤ 10 ^ n ∧ 0 < zKK h n
  | 0 => ⟨Nat.le_refl _, Nat.one_pos⟩
  | n + 1 => by
    obtain ⟨a, b⟩ := zKK_le (h := h) n
    unfold zKK
    rw [Nat.pow_succ]
    split
    · exact ⟨Nat.mul_le_mul_right _ a, by omega⟩
    · exact ⟨by omega, by omega⟩
theorem zTn_0 {h s c : Nat} : ∀ n, (∃ q, q < n ∧ h / 2 ^ q % 2 = 1 ∧ s / 2 ^ q % 2 = 1) → zTn h s c n = 0
  | 0, ⟨q, hq, _⟩ => absurd hq (by omega)
  | n + 1, ⟨q, hq, b1, b2⟩ => by
    unfold zTn
    by_cases e : q = n
    · subst e
      rw [b1, b2, if_neg (by decide), if_pos rfl, Nat.mul_zero]
    · rw [zTn_0 n ⟨q, by omega, b1, b2⟩, Nat.zero_mul]
theorem zTn_pow {h s c : Nat} : ∀ n, (∀ q, q < n → ¬ (h / 2 ^ q % 2 = 1 ∧ s / 2 ^ q % 2 = 1)) → zTn h s c n = c ^ zc1 s n * (10 - c) ^ zc0 h s n
  | 0, _ => rfl
  | n + 1, d => by
    have ih := zTn_pow (h := h) (s := s) (c := c) n (fun q hq => d q (by omega))
    have dn := d n (by omega)
    unfold zTn zc1 zc0
    rw [ih]
    rcases Nat.mod_two_eq_zero_or_one (h / 2 ^ n) with e1 | e1 <;> rcases Nat.mod_two_eq_zero_or_one (s / 2 ^ n) with e2 | e2
    · rw [e1, e2, if_pos rfl, if_neg (by decide), if_pos rfl, Nat.add_zero, Nat.sub_zero, Nat.pow_succ, Nat.mul_assoc]
    · rw [e1, e2, if_pos rfl, if_pos rfl, if_pos rfl, Nat.sub_self, Nat.add_zero (zc0 h s n), Nat.pow_succ, Nat.mul_right_comm]
    · rw [e1, e2, if_neg (by decide), if_neg (by decide), if_neg (by decide), Nat.mul_one, Nat.add_zero, Nat.add_zero]
    · exact absurd ⟨e1, e2⟩ dn
theorem zq_c1 : ∀ n, n < 7 → ∀ i, i < 64 → i < 2 ^ n → zbN (nI i) = zc1 i n := by decide +kernel
theorem zq_c0 : ∀ n, n < 7 → ∀ h, h < 64 → h < 2 ^ n → ∀ i, i < 64 → i < 2 ^ n → zbN ((nI (2 ^ n - 1) &&& (nI h ^^^ (-1))) &&& (nI i ^^^ (-1))) = zc0 h i n := by decide +kernel
theorem zq_ok : ∀ n, n < 7 → ∀ h, h < 64 → h < 2 ^ n → ∀ i, i < 64 → i < 2 ^ n → decide (nI i &&& ((nI (2 ^ n - 1) &&& (nI h ^^^ (-1))) ^^^ (-1)) = 0) = decide (nI i &&& nI h = 0) := by decide +kernel
theorem zq_dj : ∀ n, n < 7 → ∀ h, h < 64 → h < 2 ^ n → ∀ i, i < 64 → i < 2 ^ n → decide (nI i &&& nI h = 0) = decide (∀ q, q < n → ¬ (h / 2 ^ q % 2 = 1 ∧ i / 2 ^ q % 2 = 1)) := by decide +kernel
theorem zq_kk : ∀ n, n < 7 → ∀ h, h < 64 → h < 2 ^ n → 10 ^ zbN (nI (2 ^ n - 1) &&& (nI h ^^^ (-1))) = zKK h n := by decide +kernel
theorem zq_b0 : ∀ h, h < 64 → ∀ p, p < 6 → (((nI h >>> (nI p &&& 31)) &&& nI 1 = 0 ↔ h / 2 ^ p % 2 = 0) ∧ (zhas7 (nI h) p = true ↔ h / 2 ^ p % 2 = 1)) := by decide +kernel
theorem zq_or2 : ∀ h, h < 64 → ∀ s, s < 64 → ∀ q, q < 6 → (((nI h ||| nI s) >>> (nI q &&& 31)) &&& nI 1 = if (nI h >>> (nI q &&& 31)) &&& nI 1 = 0 then (nI s >>> (nI q &&& 31)) &&& nI 1 else (nI h >>> (nI q &&& 31)) &&& nI 1) := by decide +kernel
theorem zq_or3 : ∀ h, h < 64 → ∀ s, s < 64 → nI h ||| nI s = nI (h ||| s) := by decide +kernel
theorem zpw_n {c : Nat} (hc : c < 2 ^ 31) : ∀ k, zpw (nI c) k = lN (c ^ k)
  | 0 => rfl
  | k + 1 => by
    unfold zpw
    rw [zpw_n hc k, nI_l hc, lN_mul, Nat.pow_succ]
theorem zwyM_n (h : zRl F g n) {b s c : Nat} (hb : b < 2 ^ n) (eb : F 0 6 = nI b) (hs : s < 2 ^ n) (hc : c ≤ 10) (d : ∀ q, q < n → ¬ (b / 2 ^ q % 2 = 1 ∧ s / 2 ^ q % 2 = 1)) : ∀ i, i ≤ n → zwyM g (nI s) (nI c) i = lN (zTn b s c i)
  | 0, _ => rfl
  | i + 1, hi => by
    have h6 := h.1
    have p2 := (p2n h6).2
    have ih := zwyM_n h hb eb hs hc d i (by omega)
    have eg : g (6 + 5 * i + 4) = (nI b >>> (nI i &&& 31)) &&& nI 1 := by
      rw [(h.2.2.2.1 i (by omega)).2.2.2.2]
      unfold hidC
      rw [eb]
    have b0 := (zq_b0 b (by omega) i (by omega)).1
    have s1 := (zq_b0 s (by omega) i (by omega)).2
    have l10 : (nI 10).toInt64 - (nI c).toInt64 = lN (10 - c) := by rw [nI_l (by omega), nI_l (by omega), lN_sub hc]
    unfold zwyM zTn
    rw [eg, ih]
    by_cases q : b / 2 ^ i % 2 = 0
    · rw [if_pos q, if_pos (b0.mpr q)]
      by_cases z : s / 2 ^ i % 2 = 1
      · rw [if_pos z, if_pos (s1.mpr z), nI_l (by omega), lN_mul]
      · rw [if_neg z, if_neg (mt s1.mp z), l10, lN_mul]
    · have z : ¬ s / 2 ^ i % 2 = 1 := fun z => d i (by omega) ⟨by omega, z⟩
      rw [if_neg q, if_neg (mt b0.mp q), if_neg z, Nat.mul_one]
theorem zrw_ne {s : Int32} {k : Nat} : ∀ i, (∀ q, q < i → k ≠ 6 + 5 * q + 4) → zrwM g f s i k = f k
  | 0, _ => rfl
  | i + 1, h => by
    unfold zrwM
    split
    · rw [zu_ne (h i (by omega))]
      exact zrw_ne i (fun q hq => h q (by omega))
    · exact zrw_ne i (fun q hq => h q (by omega))
theorem zrw_eq {s : Int32} : ∀ i q, q < i → zrwM g f s i (6 + 5 * q + 4) = if g (6 + 5 * q + 4) = 0 then (s >>> (nI q &&& 31)) &&& nI 1 else f (6 + 5 * q + 4)
  | 0, q, h => absurd h (by omega)
  | i + 1, q, h => by
    unfold zrwM
    by_cases e : q = i
    · subst e
      by_cases z : g (6 + 5 * q + 4) = 0
      · rw [if_pos z, if_pos z, zu_eq]
      · rw [if_neg z, if_neg z]
        exact zrw_ne q (fun r _ => by omega)
    · have ih := zrw_eq (s := s) i q (by omega)
      by_cases z : g (6 + 5 * i + 4) = 0
      · rw [if_pos z, zu_ne (by omega)]
        exact ih
      · rw [if_neg z]
        exact ih
/-- some are rained off -/
theorem zRl.rained (h : zRl F g n) {s : Nat} (hs : s < 2 ^ n) : zRl (zsu (takeC S F) 0 6 (F 0 6 ||| nI s)) (zrwM g (zly g f) (nI s) n) n := by
  obtain ⟨b, hb, eb⟩ := h.2.2.2.2.2.2.2.1
  have h6 := h.1
  have p2 := (p2n h6).2
  have e4 : ∀ q, q < n → g (6 + 5 * q + 4) = (nI b >>> (nI q &&& 31)) &&& nI 1 := fun q hq => by
    rw [(h.2.2.2.1 q hq).2.2.2.2]
    unfold hidC
    rw [eb]
  have o1 := zq_or3 b (by omega) s (by omega)
  have o2 : b ||| s < 2 ^ n := Nat.or_lt_two_pow hb hs
  obtain ⟨-, hn, h0, hp, hc, hd, hr, -, hq⟩ := h.take (S := S) (f := f)
  refine ⟨h6, by rw [zs_ne (by omega)]; exact hn, fun k hk => by rw [zrw_ne n (fun q _ => by omega), zs_ne (by omega)]; exact h0 k hk, fun q hq2 => ?_, by rw [zs_ne (by omega)]; exact hc, by rw [zs_ne (by omega)]; exact hd, by rw [zs_ne (by omega)]; exact hr, ⟨b ||| s, o2, by rw [zs_eq, eb]; exact o1⟩, fun q hq2 => by rw [zs_ne (by omega), zs_ne (by omega), zs_ne (by omega), zs_ne (by omega)]; exact hq q hq2⟩
  obtain ⟨g1, g2, g3, g4, g5⟩ := hp q hq2
  refine ⟨by rw [zrw_ne n (fun q _ => by omega), zs_ne (by omega)]; exact g1, by rw [zrw_ne n (fun q _ => by omega), zs_ne (by omega)]; exact g2, by rw [zrw_ne n (fun q _ => by omega), zs_ne (by omega)]; exact g3, by rw [zrw_ne n (fun q _ => by omega), zs_ne (by omega)]; exact g4, ?_⟩
  rw [zrw_eq n q hq2, zly_at (by omega), e4 q hq2]
  unfold hidC
  rw [zs_eq, eb]
  exact (zq_or2 b (by omega) s (by omega) q (by omega)).symm
theorem zckL_s {k i : Nat} {c : Int32} {a : Int64} : zckL F n p m c (k + 1) i a S = if ¬ nI i &&& (zsh F n ^^^ (-1)) = 0 then zckL F n p m c k (i + 1) a S else if ¬ (nI 0).toInt64 < zcs F n c i then zckL F n p m c k (i + 1) a S else if zkn2 S F n (nI i) m 4 p ≤ 0 then zckL F n p m c k (i + 1) a (zkn2 S F n (nI i) m) else zckL F n p m c k (i + 1) (a + zcs F n c i) (zkn2 S F n (nI i) m) := rfl
theorem zrnM_s {k s : Nat} {c : Int32} {a b : Int64} : zrnM g n p m c (k + 1) s a b f = if nI s &&& zhdn g n = 0 then zrnM g n p m c k (s + 1) (a + (if zrT g f n m s (6 + 5 * p + 3) ≤ 0 then (nI 0).toInt64 else zwyM g (nI s) c n)) (b + zwyM g (nI s) c n) (zrT g f n m s) else zrnM g n p m c k (s + 1) a b f := rfl
theorem zRl.rn (h : zRl F g n) (hp : p < n) {b c : Nat} (hc : c ≤ 10) (hb : b < 2 ^ n) (eb : F 0 6 = nI b) : ∀ (k i A : Nat) (S : zS) (f : zF), i + k = 2 ^ n → A ≤ zsN (fun s => zTn b s c n) i →
    ∃ X, X ≤ zsN (fun s => zTn b s c n) (2 ^ n) ∧ (zckL F n p m (nI c) k i (lN A) S).1 = lN X ∧ (zrnM g n p m (nI c) k i (lN A) (lN (zsN (fun s => zTn b s c n) i)) f).1 = lN X ∧ (zrnM g n p m (nI c) k i (lN A) (lN (zsN (fun s => zTn b s c n) i)) f).2.1 = lN (zsN (fun s => zTn b s c n) (2 ^ n))
  | 0, i, A, S, f, hi, hA => by
    obtain rfl : i = 2 ^ n := by omega
    exact ⟨A, hA, rfl, rfl, rfl⟩
  | k + 1, i, A, S, f, hi, hA => by
    have h6 := h.1
    have p2 := (p2n h6).2
    have hi2 : i < 2 ^ n := by omega
    have q1 : (nI i &&& (zsh F n ^^^ (-1)) = 0) ↔ nI i &&& nI b = 0 := by
      unfold zsh
      rw [eb]
      exact decide_eq_decide.mp (zq_ok n (by omega) b (by omega) hb i (by omega) hi2)
    have q2 := decide_eq_decide.mp (zq_dj n (by omega) b (by omega) hb i (by omega) hi2)
    have sN : zsN (fun s => zTn b s c n) (i + 1) = zsN (fun s => zTn b s c n) i + zTn b i c n := rfl
    have lB : lN (zsN (fun s => zTn b s c n) i) + lN (zTn b i c n) = lN (zsN (fun s => zTn b s c n) (i + 1)) := by rw [lN_add, sN]
    rw [zckL_s, zrnM_s, h.hdn, eb]
    by_cases z : nI i &&& nI b = 0
    · have d := q2.mp z
      have ew := zwyM_n h hb eb hi2 hc d n (Nat.le_refl _)
      have ec : zcs F n (nI c) i = lN (zTn b i c n) := by
        unfold zcs zsh
        rw [eb, zq_c1 n (by omega) i (by omega) hi2, zq_c0 n (by omega) b (by omega) hb i (by omega) hi2, pk_sub hc, zpw_n (by omega), zpw_n (by omega), lN_mul, zTn_pow n d]
      have r : zRl (zkn2 S F n (nI i) m) (zrT g f n m i) n := (h.rained (S := S) (f := f) hi2).noons m
      have w31 : zTn b i c n < 2 ^ 31 := by
        have le : ∀ k, k ≤ n → zTn b i c k ≤ 10 ^ k := fun k => by
          induction k with
          | zero => intro _; exact Nat.le_refl _
          | succ k ih =>
            intro hk
            have := ih (by omega)
            unfold zTn
            rw [Nat.pow_succ]
            refine Nat.mul_le_mul this ?_
            split
            · split <;> omega
            · split <;> omega
        have l6 := le n (Nat.le_refl _)
        have : 10 ^ n ≤ 10 ^ 6 := Nat.pow_le_pow_right (by decide) h6
        have : (10 : Nat) ^ 6 < 2 ^ 31 := by decide
        omega
      rw [if_neg (fun y => y (q1.mpr z)), if_pos z, r.lg hp, ec, ew, lB]
      by_cases w : zTn b i c n = 0
      · rw [if_pos (by rw [w]; decide)]
        have e0 : (if zkn2 S F n (nI i) m 4 p ≤ 0 then (nI 0).toInt64 else lN (zTn b i c n)) = lN 0 := by
          rw [w]
          split <;> rfl
        rw [e0, lN_add, Nat.add_zero]
        exact zRl.rn h hp hc hb eb k (i + 1) A _ _ (by omega) (by rw [sN]; omega)
      · have wl : (nI 0).toInt64 < lN (zTn b i c n) := (lN_lt (a := 0) (by decide) w31).mpr (by omega)
        rw [if_neg (fun y => y wl)]
        by_cases l : zkn2 S F n (nI i) m 4 p ≤ 0
        · rw [if_pos l, if_pos l, show (nI 0).toInt64 = lN 0 from rfl, lN_add, Nat.add_zero]
          exact zRl.rn h hp hc hb eb k (i + 1) A _ _ (by omega) (by rw [sN]; omega)
        · rw [if_neg l, if_neg l, lN_add]
          exact zRl.rn h hp hc hb eb k (i + 1) _ _ _ (by omega) (by rw [sN]; omega)
    · have e0 : zTn b i c n = 0 := zTn_0 n (by
        refine Classical.byContradiction (fun y => z (q2.mpr (fun q hq hh => y ⟨q, hq, hh⟩)))
        )
      rw [if_pos (fun y => z (q1.mp y)), if_neg z]
      have e1 : zsN (fun s => zTn b s c n) i = zsN (fun s => zTn b s c n) (i + 1) := by rw [sN, e0]; rfl
      rw [e1]
      exact zRl.rn h hp hc hb eb k (i + 1) A _ _ (by omega) (by rw [← e1]; exact hA)
theorem zgcd_n : ∀ (k f a b : Nat), 2 * k + 1 ≤ f → b < 2 ^ k → a < 2 ^ 31 → b < 2 ^ 31 → zgcdC f (lN a) (lN b) = lN (Nat.gcd a b)
  | k, 0, a, b, hf, hb, ha, h31 => absurd hf (by omega)
  | 0, f + 1, a, b, hf, hb, ha, h31 => by
    obtain rfl : b = 0 := by simpa using hb
    rw [Nat.gcd_zero_right]
    rfl
  | k + 1, 1, a, b, hf, hb, ha, h31 => absurd hf (by omega)
  | k + 1, f + 2, a, b, hf, hb, ha, h31 => by
    show (if lN b = lN 0 then lN a else zgcdC (f + 1) (lN b) (lN a - lN a / lN b * lN b)) = _
    by_cases b0 : b = 0
    · subst b0
      rw [if_pos rfl, Nat.gcd_zero_right]
    · have hlt := Nat.mod_lt a (show 0 < b by omega)
      rw [if_neg (fun y => b0 ((lN_eq (b := 0) h31 (by decide)).mp y)), pk_lRem (by omega) (by omega) (by omega)]
      show (if lN (a % b) = lN 0 then lN b else zgcdC f (lN (a % b)) (lN b - lN b / lN (a % b) * lN (a % b))) = _
      have eg : Nat.gcd a b = Nat.gcd b (a % b) := by rw [Nat.gcd_comm a b, Nat.gcd_rec b a, Nat.gcd_comm]
      by_cases r0 : a % b = 0
      · rw [r0, if_pos rfl, eg, r0, Nat.gcd_zero_right]
      · have hlt2 := Nat.mod_lt b (show 0 < a % b by omega)
        have eg2 : Nat.gcd b (a % b) = Nat.gcd (a % b) (b % (a % b)) := by rw [Nat.gcd_comm b (a % b), Nat.gcd_rec (a % b) b, Nat.gcd_comm]
        have half : b % (a % b) < 2 ^ k := by
          rw [Nat.pow_succ] at hb
          by_cases q : a % b < 2 ^ k
          · omega
          · have e : b % (a % b) = b - a % b := by
              rw [Nat.mod_eq_sub_mod (by omega), Nat.mod_eq_of_lt (by omega)]
            omega
        rw [if_neg (fun y => r0 ((lN_eq (b := 0) (by omega) (by decide)).mp y)), pk_lRem (by omega) (by omega) (by omega), eg, eg2]
        exact zgcd_n k f _ _ (by omega) half (by omega) (by omega)
/-- rain: class and reference -/
theorem zRl.rain (h : zRl F g n) (hp : p < n) {c : Int32} (hc : nI 0 ≤ c ∧ c ≤ nI 10) : ∃ X Y, X < 2 ^ 31 ∧ Y < 2 ^ 31 ∧ 0 < Nat.gcd X Y ∧ (zckL F n p m c (2 ^ n) 0 (nI 0).toInt64 S).1 = lN X ∧ zpw (nI 10) (zbN (zsh F n)) = lN Y ∧ (zrnM g n p m c (2 ^ n) 0 (nI 0).toInt64 (nI 0).toInt64 f).1 = lN X ∧ (zrnM g n p m c (2 ^ n) 0 (nI 0).toInt64 (nI 0).toInt64 f).2.1 = lN Y ∧ zgcdC 200 (lN X) (lN Y) = lN (Nat.gcd X Y) := by
  obtain ⟨c, hc2, rfl⟩ := nI_of2 (M := nI 10) (n := 10) (x := c) (by decide) (Int32.not_lt.mpr hc.1) hc.2
  obtain ⟨b, hb, eb⟩ := h.2.2.2.2.2.2.2.1
  have h6 := h.1
  have p2 := (p2n h6).2
  obtain ⟨X, hX, e1, e2, e3⟩ := h.rn (m := m) hp hc2 hb eb (2 ^ n) 0 0 S f (by omega) (Nat.le_refl _)
  have sm := zTn_sum (h := b) hc2 n h6
  rw [sm] at hX e3
  obtain ⟨k1, k2⟩ := zKK_le (h := b) n
  have k3 : 10 ^ n ≤ 10 ^ 6 := Nat.pow_le_pow_right (by decide) h6
  have k4 : (10 : Nat) ^ 6 < 2 ^ 31 := by decide
  refine ⟨X, zKK b n, by omega, by omega, Nat.gcd_pos_of_pos_right _ k2, e1, ?_, e2, e3, ?_⟩
  · rw [zpw_n (by decide), ← zq_kk n (by omega) b (by omega) hb]
    unfold zsh
    rw [eb]
  · exact zgcd_n 31 200 _ _ (by decide) (by omega) (by omega) (by omega)
end ZRe
