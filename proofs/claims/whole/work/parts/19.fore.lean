section ZF2
theorem zup_at {α : Type} {f : Nat → α} {a : Nat} {v : α} (h : f a = v) : va_up f a v = f := by rw [← h, zup_same]
theorem takeC_0 {S F : zS} {k : Nat} (h : k < 7) : takeC S F 0 k = F 0 k := by simp [takeC, h]
variable {E : zE} {Q : Nat → Nat → Nat → Int32} {Z : zS} {S : zS} {n : Nat}
abbrev zNml (S : zS) (n : Nat) : Int32 := zbits (fun p => decide (S 4 p = 0)) n
theorem cn_mem (Q : Nat → Nat → Nat → Int32) (S Z : zS) : ((va_up (va_up Q 4 S) 1 (Q 1), Z) : zMem) = (va_up Q 4 S, Z) := by rw [zup_at (va_up_ne _ _ (by decide))]
theorem cn_allBits : zCT E 0 zm_X4_allBits [.ref (zad E (zsq 1))] (va_up Q 4 S, Z) (some (.int (allC (Q 1)))) (va_up Q 4 S, Z) := by
  have f := c_X4_allBits (E := E) (Q := va_up Q 4 S) (Z := Z) (S := Q 1) (j := 1) (by decide)
  rwa [cn_mem] at f
theorem cn_namelessBits (hn : Q 1 0 0 = nI n) (h6 : n ≤ 6) : zCT E 0 zm_X4_namelessBits [.ref (zad E (zsq 1))] (va_up Q 4 S, Z) (some (.int (zNml (Q 1) n))) (va_up Q 4 S, Z) := by
  have f := c_X4_namelessBits (E := E) (Q := va_up Q 4 S) (Z := Z) (S := Q 1) (j := 1) (by decide) hn h6
  rwa [cn_mem] at f
theorem cn_allLetters (hn : Q 1 0 0 = nI n) (h6 : n ≤ 6) : zCT E 0 zm_X4_allLetters [.ref (zad E (zsq 1))] (va_up Q 4 S, Z) (some (.int (zsum (Q 1 4) n))) (va_up Q 4 S, Z) := by
  have f := c_X4_allLetters (E := E) (Q := va_up Q 4 S) (Z := Z) (S := Q 1) (j := 1) (by decide) hn h6
  rwa [cn_mem] at f
set_option maxHeartbeats 4000000 in
set_option maxRecDepth 100000 in
theorem c_X2_behind (hn : Q 1 0 0 = nI n) (h6 : n ≤ 6) {m : Nat} (hm : m < 2 ^ 30) : zCT E 5 zm_X2_behind [.ref (zad E 162), .int (nI m)] (va_up Q 4 S, Z) (some (.ref (zad E (zsq 4)))) (va_up Q 4 (noonsC (takeC S (Q 1)) n m), Z) := by
  refine zCT.of (by decide +kernel) (Nat.le_of_ble_eq_true rfl) ?_
  refine zi_aload0 (n := 1) dX2_behind_0 rfl ?_
  refine zg_X2_1 (n := 4) dX2_behind_1 rfl zl_X2_12 ?_
  refine zi_aload0 (n := 5) dX2_behind_4 rfl ?_
  refine zg_X2_0 (n := 8) dX2_behind_5 rfl zl_X2_18 ?_
  refine zi_V1v (mj := zm_X4_take) (n := 11) dX2_behind_8 rfl zl_X2_21 zy_X4_take (zrc_sq _ _ (by omega)) (by decide) (Nat.le_of_ble_eq_true rfl) (c_X4_take (by decide) (by decide) (by decide)) ?_
  refine zi_aload0 (n := 12) dX2_behind_11 rfl ?_
  refine zg_X2_1 (n := 15) dX2_behind_12 rfl zl_X2_12 ?_
  refine zi_iload1 (n := 16) dX2_behind_15 rfl ?_
  refine zi_V1v (mj := zm_X4_passNoons) (n := 19) dX2_behind_16 rfl zl_X2_25 zy_X4_passNoons (zrc_sq _ _ (by omega)) (by decide) (Nat.le_of_ble_eq_true rfl) (c_X4_passNoons (by decide) ((takeC_0 (by decide)).trans hn) h6 hm) ?_
  refine zi_aload0 (n := 20) dX2_behind_19 rfl ?_
  refine zg_X2_1 (n := 23) dX2_behind_20 rfl zl_X2_12 ?_
  exact zi_aret dX2_behind_23 rfl (by rfl) (by rfl)
def zfbL (n : Nat) (x : Int32) : Nat → Nat → zS → Int32 × zS
  | 0, _, S => (-1000000, S)
  | f + 1, i, S => if noonC S n 0 7 = x then (nI i, noonC S n) else zfbL n x f (i + 1) (noonC S n)
def zfnL (n : Nat) (w : Int32) : Nat → Nat → zS → Int32 × zS
  | 0, _, S => (-1000000, S)
  | f + 1, i, S => if zNml S n &&& w = w then (nI i, S) else zfnL n w f (i + 1) (noonC S n)
set_option maxHeartbeats 4000000 in
set_option maxRecDepth 100000 in
theorem l_X2_firstBitten (h6 : n ≤ 6) {x : Int32} {r : Int32 × zS} : ∀ f i (S : zS), i + f = 61 → S 0 0 = nI n → zfbL n x f i S = r → zG E zm_X2_firstBitten 4 (some (.int r.1)) (va_up Q 4 r.2, Z) 13 [some (.ref (zad E 162)), some (.int x), some (.int (nI i))] [] (va_up Q 4 S, Z) := by
  intro f
  induction f with
  | zero =>
    intro i S hi hn hr
    refine zi_iload2 (n := 14) dX2_firstBitten_13 rfl ?_
    refine zi_bipush (n := 16) (nI 60) dX2_firstBitten_14 rfl (by decide) ?_
    refine zi_icgt (n := 19) (tgt := 45) dX2_firstBitten_16 rfl (by decide) (fun h16 => ?_) (fun h16 => ?_)
    · refine zi_ldc (n := 47) dX2_firstBitten_45 rfl zl_X2_36 ?_
      exact zi_iret dX2_firstBitten_47 rfl (by rw [← hr]; rfl) (by rw [← hr]; rfl)
    · exact absurd (nI_lt (a := 60) (by omega) (by omega)) h16
  | succ f ih =>
    intro i S hi hn hr
    refine zi_iload2 (n := 14) dX2_firstBitten_13 rfl ?_
    refine zi_bipush (n := 16) (nI 60) dX2_firstBitten_14 rfl (by decide) ?_
    refine zi_icgt (n := 19) (tgt := 45) dX2_firstBitten_16 rfl (by decide) (fun h16 => ?_) (fun h16 => ?_)
    · exact absurd ((nI_ltI (a := 60) (by omega) (by omega)).mp h16) (by omega)
    · refine zi_aload0 (n := 20) dX2_firstBitten_19 rfl ?_
      refine zg_X2_1 (n := 23) dX2_firstBitten_20 rfl zl_X2_12 ?_
      refine zi_V0v (mj := zm_X4_passNoon) (n := 26) dX2_firstBitten_23 rfl zl_X2_29 zy_X4_passNoon (zrc_sq _ _ (by omega)) (by decide) (Nat.le_of_ble_eq_true rfl) (c_X4_passNoon (by decide) hn h6) ?_
      refine zi_aload0 (n := 27) dX2_firstBitten_26 rfl ?_
      refine zg_X2_1 (n := 30) dX2_firstBitten_27 rfl zl_X2_12 ?_
      refine zgN_X4_7 (n := 33) dX2_firstBitten_30 rfl zl_X2_32 (by omega) (zfs _ _ _ _ _ _) ?_
      refine zi_iload1 (n := 34) dX2_firstBitten_33 rfl ?_
      refine zi_icne (n := 37) (tgt := 39) dX2_firstBitten_34 rfl (by decide) (fun h34 => ?_) (fun h34 => ?_)
      · refine zi_iinc2 (n := 42) (nI (i + 1)) dX2_firstBitten_39 rfl (by decide) rfl (zi1 _) ?_
        refine zi_goto (tgt := 13) dX2_firstBitten_42 (by decide) ?_
        exact ih (i + 1) _ (by omega) (noonC_0.trans hn) (by rw [← hr, zfbL, if_neg h34])
      · refine zi_iload2 (n := 38) dX2_firstBitten_37 rfl ?_
        exact zi_iret dX2_firstBitten_38 rfl (by rw [← hr, zfbL, if_pos h34]) (by rw [← hr, zfbL, if_pos h34])
set_option maxHeartbeats 4000000 in
set_option maxRecDepth 100000 in
theorem c_X2_firstBitten (hn : Q 1 0 0 = nI n) (h6 : n ≤ 6) {x : Int32} : zCT E 4 zm_X2_firstBitten [.ref (zad E 162), .int x] (va_up Q 4 S, Z) (some (.int (zfbL n x 60 1 (takeC S (Q 1))).1)) (va_up Q 4 (zfbL n x 60 1 (takeC S (Q 1))).2, Z) := by
  refine zCT.of (by decide +kernel) (Nat.le_of_ble_eq_true rfl) ?_
  refine zi_aload0 (n := 1) dX2_firstBitten_0 rfl ?_
  refine zg_X2_1 (n := 4) dX2_firstBitten_1 rfl zl_X2_12 ?_
  refine zi_aload0 (n := 5) dX2_firstBitten_4 rfl ?_
  refine zg_X2_0 (n := 8) dX2_firstBitten_5 rfl zl_X2_18 ?_
  refine zi_V1v (mj := zm_X4_take) (n := 11) dX2_firstBitten_8 rfl zl_X2_21 zy_X4_take (zrc_sq _ _ (by omega)) (by decide) (Nat.le_of_ble_eq_true rfl) (c_X4_take (by decide) (by decide) (by decide)) ?_
  refine zi_iconst (n := 12) (nI 1) dX2_firstBitten_11 rfl (by decide) ?_
  refine zi_istore2 (n := 13) dX2_firstBitten_12 rfl (by decide) rfl ?_
  exact l_X2_firstBitten h6 60 1 _ rfl ((takeC_0 (by decide)).trans hn) rfl
set_option maxHeartbeats 4000000 in
set_option maxRecDepth 100000 in
theorem l_X2_firstNameless (h6 : n ≤ 6) {w : Int32} {r : Int32 × zS} : ∀ f i (S : zS), i + f = 61 → S 0 0 = nI n → zfnL n w f i S = r → zG E zm_X2_firstNameless 4 (some (.int r.1)) (va_up Q 4 r.2, Z) 13 [some (.ref (zad E 162)), some (.int w), some (.int (nI i))] [] (va_up Q 4 S, Z) := by
  intro f
  induction f with
  | zero =>
    intro i S hi hn hr
    refine zi_iload2 (n := 14) dX2_firstNameless_13 rfl ?_
    refine zi_bipush (n := 16) (nI 60) dX2_firstNameless_14 rfl (by decide) ?_
    refine zi_icgt (n := 19) (tgt := 47) dX2_firstNameless_16 rfl (by decide) (fun h16 => ?_) (fun h16 => ?_)
    · refine zi_ldc (n := 49) dX2_firstNameless_47 rfl zl_X2_36 ?_
      exact zi_iret dX2_firstNameless_49 rfl (by rw [← hr]; rfl) (by rw [← hr]; rfl)
    · exact absurd (nI_lt (a := 60) (by omega) (by omega)) h16
  | succ f ih =>
    intro i S hi hn hr
    refine zi_iload2 (n := 14) dX2_firstNameless_13 rfl ?_
    refine zi_bipush (n := 16) (nI 60) dX2_firstNameless_14 rfl (by decide) ?_
    refine zi_icgt (n := 19) (tgt := 47) dX2_firstNameless_16 rfl (by decide) (fun h16 => ?_) (fun h16 => ?_)
    · exact absurd ((nI_ltI (a := 60) (by omega) (by omega)).mp h16) (by omega)
    · refine zi_aload0 (n := 20) dX2_firstNameless_19 rfl ?_
      refine zg_X2_1 (n := 23) dX2_firstNameless_20 rfl zl_X2_12 ?_
      refine zi_V0s (mj := zm_X4_namelessBits) (n := 26) dX2_firstNameless_23 rfl zl_X2_37 zy_X4_namelessBits (zrc_sq _ _ (by omega)) (by decide) (Nat.le_of_ble_eq_true rfl) (c_X4_namelessBits (by decide) hn h6) ?_
      refine zi_iload1 (n := 27) dX2_firstNameless_26 rfl ?_
      refine zi_iand (n := 28) dX2_firstNameless_27 rfl ?_
      refine zi_iload1 (n := 29) dX2_firstNameless_28 rfl ?_
      refine zi_icne (n := 32) (tgt := 34) dX2_firstNameless_29 rfl (by decide) (fun h29 => ?_) (fun h29 => ?_)
      · refine zi_aload0 (n := 35) dX2_firstNameless_34 rfl ?_
        refine zg_X2_1 (n := 38) dX2_firstNameless_35 rfl zl_X2_12 ?_
        refine zi_V0v (mj := zm_X4_passNoon) (n := 41) dX2_firstNameless_38 rfl zl_X2_29 zy_X4_passNoon (zrc_sq _ _ (by omega)) (by decide) (Nat.le_of_ble_eq_true rfl) (c_X4_passNoon (by decide) hn h6) ?_
        refine zi_iinc2 (n := 44) (nI (i + 1)) dX2_firstNameless_41 rfl (by decide) rfl (zi1 _) ?_
        refine zi_goto (tgt := 13) dX2_firstNameless_44 (by decide) ?_
        exact ih (i + 1) _ (by omega) (noonC_0.trans hn) (by rw [← hr, zfnL, if_neg h29])
      · refine zi_iload2 (n := 33) dX2_firstNameless_32 rfl ?_
        exact zi_iret dX2_firstNameless_33 rfl (by rw [← hr, zfnL, if_pos h29]) (by rw [← hr, zfnL, if_pos h29])
set_option maxHeartbeats 4000000 in
set_option maxRecDepth 100000 in
theorem c_X2_firstNameless (hn : Q 1 0 0 = nI n) (h6 : n ≤ 6) {w : Int32} : zCT E 4 zm_X2_firstNameless [.ref (zad E 162), .int w] (va_up Q 4 S, Z) (some (.int (zfnL n w 61 0 (takeC S (Q 1))).1)) (va_up Q 4 (zfnL n w 61 0 (takeC S (Q 1))).2, Z) := by
  refine zCT.of (by decide +kernel) (Nat.le_of_ble_eq_true rfl) ?_
  refine zi_aload0 (n := 1) dX2_firstNameless_0 rfl ?_
  refine zg_X2_1 (n := 4) dX2_firstNameless_1 rfl zl_X2_12 ?_
  refine zi_aload0 (n := 5) dX2_firstNameless_4 rfl ?_
  refine zg_X2_0 (n := 8) dX2_firstNameless_5 rfl zl_X2_18 ?_
  refine zi_V1v (mj := zm_X4_take) (n := 11) dX2_firstNameless_8 rfl zl_X2_21 zy_X4_take (zrc_sq _ _ (by omega)) (by decide) (Nat.le_of_ble_eq_true rfl) (c_X4_take (by decide) (by decide) (by decide)) ?_
  refine zi_iconst (n := 12) (nI 0) dX2_firstNameless_11 rfl (by decide) ?_
  refine zi_istore2 (n := 13) dX2_firstNameless_12 rfl (by decide) rfl ?_
  exact l_X2_firstNameless h6 61 0 _ rfl ((takeC_0 (by decide)).trans hn) rfl
def zlf (S F : zS) (n p : Nat) (pl : Int32) (m : Nat) : zS := noonsC (zsu (takeC S F) 2 p pl) n m
theorem zlf_n {S F : zS} {n p m : Nat} {pl : Int32} (hn : F 0 0 = nI n) : zsu (takeC S F) 2 p pl 0 0 = nI n := by simp [zsu_at, takeC_0, hn]
set_option maxHeartbeats 4000000 in
set_option maxRecDepth 100000 in
theorem c_X2_lettersFrom (hn : Q 1 0 0 = nI n) (h6 : n ≤ 6) {p m : Nat} (hp : p < 6) {pl : Int32} (hm : m < 2 ^ 30) : zCT E 5 zm_X2_lettersFrom [.ref (zad E 162), .int (nI p), .int pl, .int (nI m)] (va_up Q 4 S, Z) (some (.int (zlf S (Q 1) n p pl m 4 p))) (va_up Q 4 (zlf S (Q 1) n p pl m), Z) := by
  refine zCT.of (by decide +kernel) (Nat.le_of_ble_eq_true rfl) ?_
  refine zi_aload0 (n := 1) dX2_lettersFrom_0 rfl ?_
  refine zg_X2_1 (n := 4) dX2_lettersFrom_1 rfl zl_X2_12 ?_
  refine zi_aload0 (n := 5) dX2_lettersFrom_4 rfl ?_
  refine zg_X2_0 (n := 8) dX2_lettersFrom_5 rfl zl_X2_18 ?_
  refine zi_V1v (mj := zm_X4_take) (n := 11) dX2_lettersFrom_8 rfl zl_X2_21 zy_X4_take (zrc_sq _ _ (by omega)) (by decide) (Nat.le_of_ble_eq_true rfl) (c_X4_take (by decide) (by decide) (by decide)) ?_
  refine zi_aload0 (n := 12) dX2_lettersFrom_11 rfl ?_
  refine zg_X2_1 (n := 15) dX2_lettersFrom_12 rfl zl_X2_12 ?_
  refine zgN_X4_10 (n := 18) dX2_lettersFrom_15 rfl zl_X2_45 (by omega) ?_
  refine zi_iload1 (n := 19) dX2_lettersFrom_18 rfl ?_
  refine zi_iload2 (n := 20) dX2_lettersFrom_19 rfl ?_
  refine zi_qast (n := 21) dX2_lettersFrom_20 rfl (by omega) (by decide) rfl (by omega) (zfp _ _ _ _ _ _ _) ?_
  refine zi_aload0 (n := 22) dX2_lettersFrom_21 rfl ?_
  refine zg_X2_1 (n := 25) dX2_lettersFrom_22 rfl zl_X2_12 ?_
  refine zi_iload3 (n := 26) dX2_lettersFrom_25 rfl ?_
  refine zi_V1v (mj := zm_X4_passNoons) (n := 29) dX2_lettersFrom_26 rfl zl_X2_25 zy_X4_passNoons (zrc_sq _ _ (by omega)) (by decide) (Nat.le_of_ble_eq_true rfl) (c_X4_passNoons (by decide) (zlf_n (m := m) hn) h6 hm) ?_
  refine zi_aload0 (n := 30) dX2_lettersFrom_29 rfl ?_
  refine zg_X2_1 (n := 33) dX2_lettersFrom_30 rfl zl_X2_12 ?_
  refine zgN_X4_12 (n := 36) dX2_lettersFrom_33 rfl zl_X2_49 (by omega) ?_
  refine zi_iload1 (n := 37) dX2_lettersFrom_36 rfl ?_
  refine zi_qald (n := 38) dX2_lettersFrom_37 rfl (by omega) (by decide) rfl (by omega) (zfs _ _ _ _ _ _) ?_
  exact zi_iret dX2_lettersFrom_38 rfl (by rfl) (by rfl)
def zbpL (F : zS) (n p m : Nat) : Nat → Nat → Int32 → Int32 → zS → Int32 × zS
  | 0, _, b, _, S => (b, S)
  | f + 1, i, b, mo, S => if zlf S F n p (nI i) m 4 p ≤ mo then zbpL F n p m f (i + 1) b mo (zlf S F n p (nI i) m) else zbpL F n p m f (i + 1) (nI i) (zlf S F n p (nI i) m 4 p) (zlf S F n p (nI i) m)
set_option maxHeartbeats 4000000 in
set_option maxRecDepth 100000 in
theorem l_X2_bestPlace (hn : Q 1 0 0 = nI n) (h6 : n ≤ 6) {p m : Nat} (hp : p < 6) (hm : m < 2 ^ 30) {r : Int32 × zS} : ∀ f i (bb mo : Int32) (S : zS) (x6 : Option Value), i + f = 10 → zbpL (Q 1) n p m f i bb mo S = r → zG E zm_X2_bestPlace 6 (some (.int r.1)) (va_up Q 4 r.2, Z) 8 [some (.ref (zad E 162)), some (.int (nI p)), some (.int (nI m)), some (.int bb), some (.int mo), some (.int (nI i)), x6] [] (va_up Q 4 S, Z) := by
  intro f
  induction f with
  | zero =>
    intro i bb mo S x6 hi hr
    refine zi_iload5 (n := 10) dX2_bestPlace_8 rfl ?_
    refine zi_bipush (n := 12) (nI 10) dX2_bestPlace_10 rfl (by decide) ?_
    refine zi_icge (n := 15) (tgt := 45) dX2_bestPlace_12 rfl (by decide) (fun h12 => ?_) (fun h12 => ?_)
    · refine zi_iload3 (n := 46) dX2_bestPlace_45 rfl ?_
      exact zi_iret dX2_bestPlace_46 rfl (by rw [← hr]; rfl) (by rw [← hr]; rfl)
    · exact absurd (nI_le (a := 10) (by omega) (by omega)) h12
  | succ f ih =>
    intro i bb mo S x6 hi hr
    refine zi_iload5 (n := 10) dX2_bestPlace_8 rfl ?_
    refine zi_bipush (n := 12) (nI 10) dX2_bestPlace_10 rfl (by decide) ?_
    refine zi_icge (n := 15) (tgt := 45) dX2_bestPlace_12 rfl (by decide) (fun h12 => ?_) (fun h12 => ?_)
    · exact absurd ((nI_leI (a := 10) (by omega) (by omega)).mp h12) (by omega)
    · refine zi_aload0 (n := 16) dX2_bestPlace_15 rfl ?_
      refine zi_iload1 (n := 17) dX2_bestPlace_16 rfl ?_
      refine zi_iload5 (n := 19) dX2_bestPlace_17 rfl ?_
      refine zi_iload2 (n := 20) dX2_bestPlace_19 rfl ?_
      refine zi_V3s (mj := zm_X2_lettersFrom) (n := 23) dX2_bestPlace_20 rfl zl_X2_41 zy_X2_lettersFrom (zrc_X2 _ _) (by decide) (Nat.le_of_ble_eq_true rfl) (c_X2_lettersFrom hn h6 hp hm) ?_
      refine zi_istore6 (n := 25) dX2_bestPlace_23 rfl (by decide) rfl ?_
      refine zi_iload6 (n := 27) dX2_bestPlace_25 rfl ?_
      refine zi_iload4 (n := 29) dX2_bestPlace_27 rfl ?_
      refine zi_icle (n := 32) (tgt := 39) dX2_bestPlace_29 rfl (by decide) (fun h29 => ?_) (fun h29 => ?_)
      · refine zi_iinc5 (n := 42) (nI (i + 1)) dX2_bestPlace_39 rfl (by decide) rfl (zi1 _) ?_
        refine zi_goto (tgt := 8) dX2_bestPlace_42 (by decide) ?_
        exact ih (i + 1) _ _ _ _ (by omega) (by rw [← hr, zbpL]; simp only [h29, if_true, if_false])
      · refine zi_iload6 (n := 34) dX2_bestPlace_32 rfl ?_
        refine zi_istore4 (n := 36) dX2_bestPlace_34 rfl (by decide) rfl ?_
        refine zi_iload5 (n := 38) dX2_bestPlace_36 rfl ?_
        refine zi_istore3 (n := 39) dX2_bestPlace_38 rfl (by decide) rfl ?_
        refine zi_iinc5 (n := 42) (nI (i + 1)) dX2_bestPlace_39 rfl (by decide) rfl (zi1 _) ?_
        refine zi_goto (tgt := 8) dX2_bestPlace_42 (by decide) ?_
        exact ih (i + 1) _ _ _ _ (by omega) (by rw [← hr, zbpL]; simp only [h29, if_true, if_false])
set_option maxHeartbeats 4000000 in
set_option maxRecDepth 100000 in
theorem c_X2_bestPlace (hn : Q 1 0 0 = nI n) (h6 : n ≤ 6) {p m : Nat} (hp : p < 6) (hm : m < 2 ^ 30) : zCT E 6 zm_X2_bestPlace [.ref (zad E 162), .int (nI p), .int (nI m)] (va_up Q 4 S, Z) (some (.int (zbpL (Q 1) n p m 10 0 (nI 0) (-1) S).1)) (va_up Q 4 (zbpL (Q 1) n p m 10 0 (nI 0) (-1) S).2, Z) := by
  refine zCT.of (by decide +kernel) (Nat.le_of_ble_eq_true rfl) ?_
  refine zi_iconst (n := 1) (nI 0) dX2_bestPlace_0 rfl (by decide) ?_
  refine zi_istore3 (n := 2) dX2_bestPlace_1 rfl (by decide) rfl ?_
  refine zi_iconst (n := 3) (-1) dX2_bestPlace_2 rfl (by decide) ?_
  refine zi_istore4 (n := 5) dX2_bestPlace_3 rfl (by decide) rfl ?_
  refine zi_iconst (n := 6) (nI 0) dX2_bestPlace_5 rfl (by decide) ?_
  refine zi_istore5 (n := 8) dX2_bestPlace_6 rfl (by decide) rfl ?_
  exact l_X2_bestPlace hn h6 hp hm 10 0 _ _ _ _ rfl rfl
def zdc (S F : zS) (n p : Nat) (v : Int32) (m : Nat) : zS := noonsC (zsu (takeC S F) 4 p v) n m
theorem zdc_n {S F : zS} {n p : Nat} {v : Int32} (hn : F 0 0 = nI n) : zsu (takeC S F) 4 p v 0 0 = nI n := by simp [zsu_at, takeC_0, hn]
def zdcL (F : zS) (n p o m : Nat) : Nat → Nat → zS → Int32 × zS
  | 0, _, S => (-1000000, S)
  | f + 1, i, S => if zdc S F n p (nI i) m 4 o = F 4 o then (nI i, zdc S F n p (nI i) m) else zdcL F n p o m f (i + 1) (zdc S F n p (nI i) m)
set_option maxHeartbeats 4000000 in
set_option maxRecDepth 100000 in
theorem l_X2_leastDecoy (hn : Q 1 0 0 = nI n) (h6 : n ≤ 6) {p o m : Nat} (hp : p < 6) (ho : o < 6) (hm : m < 2 ^ 30) {r : Int32 × zS} : ∀ f i (S : zS), i + f = 10 → zdcL (Q 1) n p o m f i S = r → zG E zm_X2_leastDecoy 5 (some (.int r.1)) (va_up Q 4 r.2, Z) 3 [some (.ref (zad E 162)), some (.int (nI p)), some (.int (nI o)), some (.int (nI m)), some (.int (nI i))] [] (va_up Q 4 S, Z) := by
  intro f
  induction f with
  | zero =>
    intro i S hi hr
    refine zi_iload4 (n := 5) dX2_leastDecoy_3 rfl ?_
    refine zi_bipush (n := 7) (nI 9) dX2_leastDecoy_5 rfl (by decide) ?_
    refine zi_icgt (n := 10) (tgt := 70) dX2_leastDecoy_7 rfl (by decide) (fun h7 => ?_) (fun h7 => ?_)
    · refine zi_ldc (n := 72) dX2_leastDecoy_70 rfl zl_X2_36 ?_
      exact zi_iret dX2_leastDecoy_72 rfl (by rw [← hr]; rfl) (by rw [← hr]; rfl)
    · exact absurd (nI_lt (a := 9) (by omega) (by omega)) h7
  | succ f ih =>
    intro i S hi hr
    refine zi_iload4 (n := 5) dX2_leastDecoy_3 rfl ?_
    refine zi_bipush (n := 7) (nI 9) dX2_leastDecoy_5 rfl (by decide) ?_
    refine zi_icgt (n := 10) (tgt := 70) dX2_leastDecoy_7 rfl (by decide) (fun h7 => ?_) (fun h7 => ?_)
    · exact absurd ((nI_ltI (a := 9) (by omega) (by omega)).mp h7) (by omega)
    · refine zi_aload0 (n := 11) dX2_leastDecoy_10 rfl ?_
      refine zg_X2_1 (n := 14) dX2_leastDecoy_11 rfl zl_X2_12 ?_
      refine zi_aload0 (n := 15) dX2_leastDecoy_14 rfl ?_
      refine zg_X2_0 (n := 18) dX2_leastDecoy_15 rfl zl_X2_18 ?_
      refine zi_V1v (mj := zm_X4_take) (n := 21) dX2_leastDecoy_18 rfl zl_X2_21 zy_X4_take (zrc_sq _ _ (by omega)) (by decide) (Nat.le_of_ble_eq_true rfl) (c_X4_take (by decide) (by decide) (by decide)) ?_
      refine zi_aload0 (n := 22) dX2_leastDecoy_21 rfl ?_
      refine zg_X2_1 (n := 25) dX2_leastDecoy_22 rfl zl_X2_12 ?_
      refine zgN_X4_12 (n := 28) dX2_leastDecoy_25 rfl zl_X2_49 (by omega) ?_
      refine zi_iload1 (n := 29) dX2_leastDecoy_28 rfl ?_
      refine zi_iload4 (n := 31) dX2_leastDecoy_29 rfl ?_
      refine zi_qast (n := 32) dX2_leastDecoy_31 rfl (by omega) (by decide) rfl (by omega) (zfp _ _ _ _ _ _ _) ?_
      refine zi_aload0 (n := 33) dX2_leastDecoy_32 rfl ?_
      refine zg_X2_1 (n := 36) dX2_leastDecoy_33 rfl zl_X2_12 ?_
      refine zi_iload3 (n := 37) dX2_leastDecoy_36 rfl ?_
      refine zi_V1v (mj := zm_X4_passNoons) (n := 40) dX2_leastDecoy_37 rfl zl_X2_25 zy_X4_passNoons (zrc_sq _ _ (by omega)) (by decide) (Nat.le_of_ble_eq_true rfl) (c_X4_passNoons (by decide) (zdc_n hn) h6 hm) ?_
      refine zi_aload0 (n := 41) dX2_leastDecoy_40 rfl ?_
      refine zg_X2_1 (n := 44) dX2_leastDecoy_41 rfl zl_X2_12 ?_
      refine zgN_X4_12 (n := 47) dX2_leastDecoy_44 rfl zl_X2_49 (by omega) ?_
      refine zi_iload2 (n := 48) dX2_leastDecoy_47 rfl ?_
      refine zi_qald (n := 49) dX2_leastDecoy_48 rfl (by omega) (by decide) rfl (by omega) (zfs _ _ _ _ _ _) ?_
      refine zi_aload0 (n := 50) dX2_leastDecoy_49 rfl ?_
      refine zg_X2_0 (n := 53) dX2_leastDecoy_50 rfl zl_X2_18 ?_
      refine zgN_X4_12 (n := 56) dX2_leastDecoy_53 rfl zl_X2_49 (by omega) ?_
      refine zi_iload2 (n := 57) dX2_leastDecoy_56 rfl ?_
      refine zi_qald (n := 58) dX2_leastDecoy_57 rfl (by omega) (by decide) rfl (by omega) (zfo _ (by decide) _ _ _ _) ?_
      refine zi_icne (n := 61) (tgt := 64) dX2_leastDecoy_58 rfl (by decide) (fun h58 => ?_) (fun h58 => ?_)
      · refine zi_iinc4 (n := 67) (nI (i + 1)) dX2_leastDecoy_64 rfl (by decide) rfl (zi1 _) ?_
        refine zi_goto (tgt := 3) dX2_leastDecoy_67 (by decide) ?_
        exact ih (i + 1) _ (by omega) (by rw [← hr, zdcL]; exact (if_neg h58).symm)
      · refine zi_iload4 (n := 63) dX2_leastDecoy_61 rfl ?_
        exact zi_iret dX2_leastDecoy_63 rfl (by rw [← hr, zdcL]; exact congrArg (fun z : Int32 × zS => some (Value.int z.1)) (if_pos h58)) (by rw [← hr, zdcL]; exact congrArg (fun z : Int32 × zS => ((va_up Q 4 z.2, Z) : zMem)) (if_pos h58))
set_option maxHeartbeats 4000000 in
set_option maxRecDepth 100000 in
theorem c_X2_leastDecoy (hn : Q 1 0 0 = nI n) (h6 : n ≤ 6) {p o m : Nat} (hp : p < 6) (ho : o < 6) (hm : m < 2 ^ 30) : zCT E 5 zm_X2_leastDecoy [.ref (zad E 162), .int (nI p), .int (nI o), .int (nI m)] (va_up Q 4 S, Z) (some (.int (zdcL (Q 1) n p o m 9 1 S).1)) (va_up Q 4 (zdcL (Q 1) n p o m 9 1 S).2, Z) := by
  refine zCT.of (by decide +kernel) (Nat.le_of_ble_eq_true rfl) ?_
  refine zi_iconst (n := 1) (nI 1) dX2_leastDecoy_0 rfl (by decide) ?_
  refine zi_istore4 (n := 3) dX2_leastDecoy_1 rfl (by decide) rfl ?_
  exact l_X2_leastDecoy hn h6 hp ho hm 9 1 _ rfl rfl
end ZF2
