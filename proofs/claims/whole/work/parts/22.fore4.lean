section ZF5
variable {E : zE} {Q : Nat → Nat → Nat → Int32} {Z : zS} {S : zS} {n : Nat} {M : zMem}
/-- who is shown: a set of n bits -/
def zsh (F : zS) (n : Nat) : Int32 := nI (2 ^ n - 1) &&& (F 0 6 ^^^ (-1))
def zbN (x : Int32) : Nat := (zbc x).toNatClampNeg
theorem zbc_nI : ∀ k : Nat, k < 64 → zbc (nI k) = nI (zbN (nI k)) ∧ zbN (nI k) ≤ 6 := by decide +kernel
theorem zsh_k {F : zS} {n : Nat} (h6 : n ≤ 6) (x : Int32) : ∃ k, k < 64 ∧ zsh F n &&& x = nI k := by
  have hp := p2n h6
  obtain ⟨k, hk, e⟩ := pk_andE ((F 0 6 ^^^ (-1)) &&& x) (m := nI (2 ^ n - 1)) n (by rw [pk_tn (by omega)])
  refine ⟨k, by omega, ?_⟩
  rw [← e, zsh, Int32.and_assoc, Int32.and_comm]
theorem zsh_k0 {F : zS} {n : Nat} (h6 : n ≤ 6) : ∃ k, k < 64 ∧ zsh F n = nI k := by
  have hp := p2n h6
  obtain ⟨k, hk, e⟩ := pk_andE (F 0 6 ^^^ (-1)) (m := nI (2 ^ n - 1)) n (by rw [pk_tn (by omega)])
  refine ⟨k, by omega, ?_⟩
  rw [← e, zsh, Int32.and_comm]
theorem zbc_sh {F : zS} {n : Nat} (h6 : n ≤ 6) (x : Int32) : zbc (zsh F n &&& x) = nI (zbN (zsh F n &&& x)) ∧ zbN (zsh F n &&& x) ≤ 6 := by
  obtain ⟨k, hk, e⟩ := zsh_k (F := F) h6 x
  rw [e]; exact zbc_nI k hk
theorem zbc_sh0 {F : zS} {n : Nat} (h6 : n ≤ 6) : zbc (zsh F n) = nI (zbN (zsh F n)) ∧ zbN (zsh F n) ≤ 6 := by
  obtain ⟨k, hk, e⟩ := zsh_k0 (F := F) h6
  rw [e]; exact zbc_nI k hk
def zcs (F : zS) (n : Nat) (c : Int32) (i : Nat) : Int64 := zpw c (zbN (nI i)) * zpw (nI 10 - c) (zbN (zsh F n &&& (nI i ^^^ (-1))))
def zckL (F : zS) (n p m : Nat) (c : Int32) : Nat → Nat → Int64 → zS → Int64 × zS
  | 0, _, a, S => (a, S)
  | f + 1, i, a, S => if ¬ nI i &&& (zsh F n ^^^ (-1)) = 0 then zckL F n p m c f (i + 1) a S else if ¬ (nI 0).toInt64 < zcs F n c i then zckL F n p m c f (i + 1) a S else if zkn2 S F n (nI i) m 4 p ≤ 0 then zckL F n p m c f (i + 1) a (zkn2 S F n (nI i) m) else zckL F n p m c f (i + 1) (a + zcs F n c i) (zkn2 S F n (nI i) m)
set_option maxHeartbeats 4000000 in
set_option maxRecDepth 100000 in
theorem l_X2_casesKept (hn : Q 1 0 0 = nI n) (h6 : n ≤ 6) {p m : Nat} (hp : p < 6) (hm : m < 2 ^ 30) {c : Int32} {r : Int64 × zS} : ∀ f i (aa : Int64) (S : zS) (x8 x9 : Option Value), i + f = 2 ^ n → zckL (Q 1) n p m c f i aa S = r → zG E zm_X2_casesKept 6 (some (.long r.1)) (va_up Q 4 r.2, Z) 25 [some (.ref (zad E 162)), some (.int (nI p)), some (.int (nI m)), some (.int c), some (.int (zsh (Q 1) n)), some (.long aa), none, some (.int (nI i)), x8, x9] [] (va_up Q 4 S, Z) := by
  have hp2 := p2n h6
  intro f
  induction f with
  | zero =>
    intro i aa S x8 x9 hi hr
    refine zi_iload7 (n := 27) dX2_casesKept_25 rfl ?_
    refine zi_aload0 (n := 28) dX2_casesKept_27 rfl ?_
    refine zg_X2_0 (n := 31) dX2_casesKept_28 rfl zl_X2_18 ?_
    refine zi_V0s (mj := zm_X4_allBits) (n := 34) dX2_casesKept_31 rfl zl_X2_52 zy_X4_allBits (zrc_sq _ _ (by omega)) (by decide) (Nat.le_of_ble_eq_true rfl) cn_allBits ?_
    rw [allC_nI hn h6]
    refine zi_icgt (n := 37) (tgt := 107) dX2_casesKept_34 rfl (by decide) (fun h34 => ?_) (fun h34 => ?_)
    · refine zi_lload5 (n := 109) dX2_casesKept_107 rfl ?_
      exact zi_lret dX2_casesKept_109 rfl (by rw [← hr]; rfl) (by rw [← hr]; rfl)
    · exact absurd (nI_lt (by omega) (by omega)) h34
  | succ f ih =>
    intro i aa S x8 x9 hi hr
    have b1 := zbc_nI i (by omega)
    have b2 := zbc_sh (F := Q 1) h6 (nI i ^^^ (-1))
    refine zi_iload7 (n := 27) dX2_casesKept_25 rfl ?_
    refine zi_aload0 (n := 28) dX2_casesKept_27 rfl ?_
    refine zg_X2_0 (n := 31) dX2_casesKept_28 rfl zl_X2_18 ?_
    refine zi_V0s (mj := zm_X4_allBits) (n := 34) dX2_casesKept_31 rfl zl_X2_52 zy_X4_allBits (zrc_sq _ _ (by omega)) (by decide) (Nat.le_of_ble_eq_true rfl) cn_allBits ?_
    rw [allC_nI hn h6]
    refine zi_icgt (n := 37) (tgt := 107) dX2_casesKept_34 rfl (by decide) (fun h34 => ?_) (fun h34 => ?_)
    · exact absurd ((nI_ltI (by omega) (by omega)).mp h34) (by omega)
    · refine zi_iload7 (n := 39) dX2_casesKept_37 rfl ?_
      refine zi_iload4 (n := 41) dX2_casesKept_39 rfl ?_
      refine zi_iconst (n := 42) (-1) dX2_casesKept_41 rfl (by decide) ?_
      refine zi_ixor (n := 43) dX2_casesKept_42 rfl ?_
      refine zi_iand (n := 44) dX2_casesKept_43 rfl ?_
      refine zi_ifne (n := 47) (tgt := 101) dX2_casesKept_44 rfl (by decide) (fun h44 => ?_) (fun h44 => ?_)
      · refine zi_iinc7 (n := 104) (nI (i + 1)) dX2_casesKept_101 rfl (by decide) rfl (zi1 _) ?_
        refine zi_goto (tgt := 25) dX2_casesKept_104 (by decide) ?_
        exact ih (i + 1) _ _ _ _ (by omega) (by rw [← hr, zckL]; first | (rw [if_pos h44]; done) | (rw [if_neg (Classical.not_not.mpr h44), if_pos h80]; done) | (rw [if_neg (Classical.not_not.mpr h44), if_neg (Classical.not_not.mpr h80), if_pos (Classical.not_not.mp h91)]; done) | (rw [if_neg (Classical.not_not.mpr h44), if_neg (Classical.not_not.mpr h80), if_neg h91]; done))
      · refine zi_iload3 (n := 48) dX2_casesKept_47 rfl ?_
        refine zi_iload7 (n := 50) dX2_casesKept_48 rfl ?_
        refine zi_S1s (mj := zm_J6_bitCount_0f7a4) (n := 53) dX2_casesKept_50 rfl zl_X2_55 zy_J6_bitCount_0f7a4 (by decide) (Nat.le_of_ble_eq_true rfl) (c_J6_bitCount_0f7a4) ?_
        rw [b1.1]
        refine zi_S2s (mj := zm_X2_power) (n := 56) dX2_casesKept_53 rfl zl_X2_122 zy_X2_power (by decide) (Nat.le_of_ble_eq_true rfl) (c_X2_power b1.2) ?_
        refine zi_bipush (n := 58) (nI 10) dX2_casesKept_56 rfl (by decide) ?_
        refine zi_iload3 (n := 59) dX2_casesKept_58 rfl ?_
        refine zi_isub (n := 60) dX2_casesKept_59 rfl ?_
        refine zi_iload4 (n := 62) dX2_casesKept_60 rfl ?_
        refine zi_iload7 (n := 64) dX2_casesKept_62 rfl ?_
        refine zi_iconst (n := 65) (-1) dX2_casesKept_64 rfl (by decide) ?_
        refine zi_ixor (n := 66) dX2_casesKept_65 rfl ?_
        refine zi_iand (n := 67) dX2_casesKept_66 rfl ?_
        refine zi_S1s (mj := zm_J6_bitCount_0f7a4) (n := 70) dX2_casesKept_67 rfl zl_X2_55 zy_J6_bitCount_0f7a4 (by decide) (Nat.le_of_ble_eq_true rfl) (c_J6_bitCount_0f7a4) ?_
        rw [b2.1]
        refine zi_S2s (mj := zm_X2_power) (n := 73) dX2_casesKept_70 rfl zl_X2_122 zy_X2_power (by decide) (Nat.le_of_ble_eq_true rfl) (c_X2_power b2.2) ?_
        refine zi_lmul (n := 74) dX2_casesKept_73 rfl ?_
        change zG _ _ _ _ _ 74 _ [.long (zcs (Q 1) n c i)] _
        refine zi_lstore8 (n := 76) dX2_casesKept_74 rfl (by decide) rfl ?_
        refine zi_lload8 (n := 78) dX2_casesKept_76 rfl ?_
        refine zi_lconst (n := 79) ((nI 0).toInt64) dX2_casesKept_78 rfl (by decide) ?_
        refine zi_lcmp (n := 80) dX2_casesKept_79 rfl ?_
        refine zi_ifle_l (n := 83) (tgt := 101) dX2_casesKept_80 rfl (by decide) (fun h80 => ?_) (fun h80 => ?_)
        · refine zi_iinc7 (n := 104) (nI (i + 1)) dX2_casesKept_101 rfl (by decide) rfl (zi1 _) ?_
          refine zi_goto (tgt := 25) dX2_casesKept_104 (by decide) ?_
          exact ih (i + 1) _ _ _ _ (by omega) (by rw [← hr, zckL]; first | (rw [if_pos h44]; done) | (rw [if_neg (Classical.not_not.mpr h44), if_pos h80]; done) | (rw [if_neg (Classical.not_not.mpr h44), if_neg (Classical.not_not.mpr h80), if_pos (Classical.not_not.mp h91)]; done) | (rw [if_neg (Classical.not_not.mpr h44), if_neg (Classical.not_not.mpr h80), if_neg h91]; done))
        · refine zi_aload0 (n := 84) dX2_casesKept_83 rfl ?_
          refine zi_iload1 (n := 85) dX2_casesKept_84 rfl ?_
          refine zi_iload2 (n := 86) dX2_casesKept_85 rfl ?_
          refine zi_iload7 (n := 88) dX2_casesKept_86 rfl ?_
          refine zi_V3s (mj := zm_X2_keepsName) (n := 91) dX2_casesKept_88 rfl zl_X2_126 zy_X2_keepsName (zrc_X2 _ _) (by decide) (Nat.le_of_ble_eq_true rfl) (c_X2_keepsName hn h6 hp hm) ?_
          refine zi_ifeq_b (n := 94) (tgt := 101) dX2_casesKept_91 rfl (by decide) (fun h91 => ?_) (fun h91 => ?_)
          · refine zi_iinc7 (n := 104) (nI (i + 1)) dX2_casesKept_101 rfl (by decide) rfl (zi1 _) ?_
            refine zi_goto (tgt := 25) dX2_casesKept_104 (by decide) ?_
            exact ih (i + 1) _ _ _ _ (by omega) (by rw [← hr, zckL]; first | (rw [if_pos h44]; done) | (rw [if_neg (Classical.not_not.mpr h44), if_pos h80]; done) | (rw [if_neg (Classical.not_not.mpr h44), if_neg (Classical.not_not.mpr h80), if_pos (Classical.not_not.mp h91)]; done) | (rw [if_neg (Classical.not_not.mpr h44), if_neg (Classical.not_not.mpr h80), if_neg h91]; done))
          · refine zi_lload5 (n := 96) dX2_casesKept_94 rfl ?_
            refine zi_lload8 (n := 98) dX2_casesKept_96 rfl ?_
            refine zi_ladd (n := 99) dX2_casesKept_98 rfl ?_
            refine zi_lstore5 (n := 101) dX2_casesKept_99 rfl (by decide) rfl ?_
            refine zi_iinc7 (n := 104) (nI (i + 1)) dX2_casesKept_101 rfl (by decide) rfl (zi1 _) ?_
            refine zi_goto (tgt := 25) dX2_casesKept_104 (by decide) ?_
            exact ih (i + 1) _ _ _ _ (by omega) (by rw [← hr, zckL]; first | (rw [if_pos h44]; done) | (rw [if_neg (Classical.not_not.mpr h44), if_pos h80]; done) | (rw [if_neg (Classical.not_not.mpr h44), if_neg (Classical.not_not.mpr h80), if_pos (Classical.not_not.mp h91)]; done) | (rw [if_neg (Classical.not_not.mpr h44), if_neg (Classical.not_not.mpr h80), if_neg h91]; done))
set_option maxHeartbeats 4000000 in
set_option maxRecDepth 100000 in
theorem c_X2_casesKept (hn : Q 1 0 0 = nI n) (h6 : n ≤ 6) {p m : Nat} (hp : p < 6) (hm : m < 2 ^ 30) {c : Int32} : zCT E 6 zm_X2_casesKept [.ref (zad E 162), .int (nI p), .int (nI m), .int c] (va_up Q 4 S, Z) (some (.long (zckL (Q 1) n p m c (2 ^ n) 0 (nI 0).toInt64 S).1)) (va_up Q 4 (zckL (Q 1) n p m c (2 ^ n) 0 (nI 0).toInt64 S).2, Z) := by
  refine zCT.of (by decide +kernel) (Nat.le_of_ble_eq_true rfl) ?_
  refine zi_aload0 (n := 1) dX2_casesKept_0 rfl ?_
  refine zg_X2_0 (n := 4) dX2_casesKept_1 rfl zl_X2_18 ?_
  refine zi_V0s (mj := zm_X4_allBits) (n := 7) dX2_casesKept_4 rfl zl_X2_52 zy_X4_allBits (zrc_sq _ _ (by omega)) (by decide) (Nat.le_of_ble_eq_true rfl) cn_allBits ?_
  rw [allC_nI hn h6]
  refine zi_aload0 (n := 8) dX2_casesKept_7 rfl ?_
  refine zg_X2_0 (n := 11) dX2_casesKept_8 rfl zl_X2_18 ?_
  refine zgN_X4_6 (n := 14) dX2_casesKept_11 rfl zl_X2_65 (by omega) (zfo _ (by decide) _ _ _ _) ?_
  refine zi_iconst (n := 15) (-1) dX2_casesKept_14 rfl (by decide) ?_
  refine zi_ixor (n := 16) dX2_casesKept_15 rfl ?_
  refine zi_iand (n := 17) dX2_casesKept_16 rfl ?_
  change zG _ _ _ _ _ 17 _ [.int (zsh (Q 1) n)] _
  refine zi_istore4 (n := 19) dX2_casesKept_17 rfl (by decide) rfl ?_
  refine zi_lconst (n := 20) ((nI 0).toInt64) dX2_casesKept_19 rfl (by decide) ?_
  refine zi_lstore5 (n := 22) dX2_casesKept_20 rfl (by decide) rfl ?_
  refine zi_iconst (n := 23) (nI 0) dX2_casesKept_22 rfl (by decide) ?_
  refine zi_istore7 (n := 25) dX2_casesKept_23 rfl (by decide) rfl ?_
  exact l_X2_casesKept hn h6 hp hm (2 ^ n) 0 _ _ _ _ (by omega) rfl
set_option maxHeartbeats 4000000 in
set_option maxRecDepth 100000 in
theorem c_X2_casesOfRain (hn : Q 1 0 0 = nI n) (h6 : n ≤ 6) : zCT E 1 zm_X2_casesOfRain [.ref (zad E 162)] (va_up Q 4 S, Z) (some (.long (zpw (nI 10) (zbN (zsh (Q 1) n))))) (va_up Q 4 S, Z) := by
  refine zCT.of (by decide +kernel) (Nat.le_of_ble_eq_true rfl) ?_
  have b2 := zbc_sh0 (F := Q 1) h6
  refine zi_bipush (n := 2) (nI 10) dX2_casesOfRain_0 rfl (by decide) ?_
  refine zi_aload0 (n := 3) dX2_casesOfRain_2 rfl ?_
  refine zg_X2_0 (n := 6) dX2_casesOfRain_3 rfl zl_X2_18 ?_
  refine zi_V0s (mj := zm_X4_allBits) (n := 9) dX2_casesOfRain_6 rfl zl_X2_52 zy_X4_allBits (zrc_sq _ _ (by omega)) (by decide) (Nat.le_of_ble_eq_true rfl) cn_allBits ?_
  rw [allC_nI hn h6]
  refine zi_aload0 (n := 10) dX2_casesOfRain_9 rfl ?_
  refine zg_X2_0 (n := 13) dX2_casesOfRain_10 rfl zl_X2_18 ?_
  refine zgN_X4_6 (n := 16) dX2_casesOfRain_13 rfl zl_X2_65 (by omega) (zfo _ (by decide) _ _ _ _) ?_
  refine zi_iconst (n := 17) (-1) dX2_casesOfRain_16 rfl (by decide) ?_
  refine zi_ixor (n := 18) dX2_casesOfRain_17 rfl ?_
  refine zi_iand (n := 19) dX2_casesOfRain_18 rfl ?_
  refine zi_S1s (mj := zm_J6_bitCount_0f7a4) (n := 22) dX2_casesOfRain_19 rfl zl_X2_55 zy_J6_bitCount_0f7a4 (by decide) (Nat.le_of_ble_eq_true rfl) (c_J6_bitCount_0f7a4) ?_
  change zG _ _ _ _ _ 22 _ [.int (zbc (zsh (Q 1) n)), _] _
  rw [b2.1]
  refine zi_S2s (mj := zm_X2_power) (n := 25) dX2_casesOfRain_22 rfl zl_X2_122 zy_X2_power (by decide) (Nat.le_of_ble_eq_true rfl) (c_X2_power b2.2) ?_
  exact zi_lret dX2_casesOfRain_25 rfl (by rfl) (by rfl)
def zdraw (S : zS) (n X : Nat) : zS := if S 4 (X % n) = 0 then zsu S 4 (X % n) (nI (X % 9) + nI 1) else if X % 3 = 0 then zsu S 2 (X % n) (nI (X / 8 % 10)) else S
theorem zdraw_0 {S : zS} {n X : Nat} : zdraw S n X 0 0 = S 0 0 := by
  unfold zdraw
  split
  · simp [zsu_at]
  · split
    · simp [zsu_at]
    · rfl
def zbdL (n : Nat) : Nat → Nat → zS → zS
  | 0, _, S => S
  | f + 1, X, S => zbdL n f (X * 16807 % 2147483647) (noonC (zdraw S n (X * 16807 % 2147483647)) n)
set_option maxHeartbeats 4000000 in
set_option maxRecDepth 100000 in
theorem c_X2_draw (hn : S 0 0 = nI n) (h6 : n ≤ 6) (h1 : 0 < n) {X : Nat} (hX : X < 2 ^ 31) : zCT E 1 zm_X2_draw [.ref (zad E 162), .long (lN X)] (va_up Q 4 S, Z) none (va_up Q 4 (zdraw S n X), Z) := by
  refine zCT.of (by decide +kernel) (Nat.le_of_ble_eq_true rfl) ?_
  have hxn : X % n < n := Nat.mod_lt _ h1
  refine zi_aload0 (n := 1) dX2_draw_0 rfl ?_
  refine zg_X2_1 (n := 4) dX2_draw_1 rfl zl_X2_12 ?_
  refine zgN_X4_0 (n := 7) dX2_draw_4 rfl zl_X2_68 (by omega) ((zfs _ _ _ _ _ _).trans hn) ?_
  refine zi_ifne (n := 10) (tgt := 11) dX2_draw_7 rfl (by decide) (fun h7 => ?_) (fun h7 => ?_)
  · refine zi_lload1 (n := 12) dX2_draw_11 rfl ?_
    refine zi_aload0 (n := 13) dX2_draw_12 rfl ?_
    refine zg_X2_1 (n := 16) dX2_draw_13 rfl zl_X2_12 ?_
    refine zgN_X4_0 (n := 19) dX2_draw_16 rfl zl_X2_68 (by omega) ((zfs _ _ _ _ _ _).trans hn) ?_
    refine zi_i2l (n := 20) dX2_draw_19 rfl ?_
    rw [nI_l (by omega)]
    refine zi_lrem (n := 21) dX2_draw_20 rfl (by rw [show (0 : Int64) = lN 0 from rfl, lN_eq (by omega) (by omega)]; omega) ?_
    rw [pk_lRem (by omega) h1 (by omega)]
    refine zi_l2i (n := 22) dX2_draw_21 rfl ?_
    rw [lN_i]
    refine zi_istore3 (n := 23) dX2_draw_22 rfl (by decide) rfl ?_
    refine zi_aload0 (n := 24) dX2_draw_23 rfl ?_
    refine zg_X2_1 (n := 27) dX2_draw_24 rfl zl_X2_12 ?_
    refine zi_iload3 (n := 28) dX2_draw_27 rfl ?_
    refine zi_V1s (mj := zm_X4_has) (n := 31) dX2_draw_28 rfl zl_X2_103 zy_X4_has (zrc_sq _ _ (by omega)) (by decide) (Nat.le_of_ble_eq_true rfl) (c_X4_has (by decide)) ?_
    refine zi_ifne_b (n := 34) (tgt := 35) dX2_draw_31 rfl (by decide) (fun h31 => ?_) (fun h31 => ?_)
    · refine zi_aload0 (n := 36) dX2_draw_35 rfl ?_
      refine zg_X2_1 (n := 39) dX2_draw_36 rfl zl_X2_12 ?_
      refine zgN_X4_12 (n := 42) dX2_draw_39 rfl zl_X2_49 (by omega) ?_
      refine zi_iload3 (n := 43) dX2_draw_42 rfl ?_
      refine zi_qald (n := 44) dX2_draw_43 rfl (by omega) (by decide) rfl (by omega) (zfs _ _ _ _ _ _) ?_
      refine zi_ifne (n := 47) (tgt := 67) dX2_draw_44 rfl (by decide) (fun h44 => ?_) (fun h44 => ?_)
      · refine zi_lload1 (n := 68) dX2_draw_67 rfl ?_
        refine zi_ldc2 (n := 71) dX2_draw_68 rfl zl_X2_140 ?_
        rw [show (3 : Int64) = lN 3 from rfl]
        refine zi_lrem (n := 72) dX2_draw_71 rfl (by decide) ?_
        rw [pk_lRem (by omega) (by omega) (by omega)]
        refine zi_lconst (n := 73) ((nI 0).toInt64) dX2_draw_72 rfl (by decide) ?_
        refine zi_lcmp (n := 74) dX2_draw_73 rfl ?_
        refine zi_ifne_l (n := 77) (tgt := 96) dX2_draw_74 rfl (by decide) (fun h74 => ?_) (fun h74 => ?_)
        · have e74 : ¬ X % 3 = 0 := fun zz => h74 (by rw [zz]; rfl)
          exact zi_vret dX2_draw_96 rfl (by rfl) (by first | (simp only [zdraw, h7, h31, h44, h74, if_true]; done) | (simp only [zdraw, h44, e74, if_true, if_false]; done))
        · have e74 : X % 3 = 0 := by have := (lN_eq (a := X % 3) (b := 0) (by omega) (by omega)).mp h74; omega
          refine zi_aload0 (n := 78) dX2_draw_77 rfl ?_
          refine zg_X2_1 (n := 81) dX2_draw_78 rfl zl_X2_12 ?_
          refine zgN_X4_10 (n := 84) dX2_draw_81 rfl zl_X2_45 (by omega) ?_
          refine zi_iload3 (n := 85) dX2_draw_84 rfl ?_
          refine zi_lload1 (n := 86) dX2_draw_85 rfl ?_
          refine zi_ldc2 (n := 89) dX2_draw_86 rfl zl_X2_142 ?_
          rw [show (8 : Int64) = lN 8 from rfl]
          refine zi_ldiv (n := 90) dX2_draw_89 rfl (by decide) ?_
          rw [pk_lDiv (by omega) (by omega) (by omega)]
          refine zi_ldc2 (n := 93) dX2_draw_90 rfl zl_X2_144 ?_
          rw [show (10 : Int64) = lN 10 from rfl]
          refine zi_lrem (n := 94) dX2_draw_93 rfl (by decide) ?_
          rw [pk_lRem (by omega) (by omega) (by omega)]
          refine zi_l2i (n := 95) dX2_draw_94 rfl ?_
          rw [lN_i]
          refine zi_qast (n := 96) dX2_draw_95 rfl (by omega) (by decide) rfl (by omega) (zfp _ _ _ _ _ _ _) ?_
          exact zi_vret dX2_draw_96 rfl (by rfl) (by first | (simp only [zdraw, h7, h31, h44, h74, if_true]; done) | (simp only [zdraw, h44, e74, if_true, if_false]; done))
      · refine zi_aload0 (n := 48) dX2_draw_47 rfl ?_
        refine zg_X2_1 (n := 51) dX2_draw_48 rfl zl_X2_12 ?_
        refine zgN_X4_12 (n := 54) dX2_draw_51 rfl zl_X2_49 (by omega) ?_
        refine zi_iload3 (n := 55) dX2_draw_54 rfl ?_
        refine zi_lload1 (n := 56) dX2_draw_55 rfl ?_
        refine zi_ldc2 (n := 59) dX2_draw_56 rfl zl_X2_138 ?_
        rw [show (9 : Int64) = lN 9 from rfl]
        refine zi_lrem (n := 60) dX2_draw_59 rfl (by decide) ?_
        rw [pk_lRem (by omega) (by omega) (by omega)]
        refine zi_l2i (n := 61) dX2_draw_60 rfl ?_
        rw [lN_i]
        refine zi_iconst (n := 62) (nI 1) dX2_draw_61 rfl (by decide) ?_
        refine zi_iadd (n := 63) dX2_draw_62 rfl ?_
        refine zi_qast (n := 64) dX2_draw_63 rfl (by omega) (by decide) rfl (by omega) (zfp _ _ _ _ _ _ _) ?_
        refine zi_goto (tgt := 96) dX2_draw_64 (by decide) ?_
        exact zi_vret dX2_draw_96 rfl (by rfl) (by first | (simp only [zdraw, h7, h31, h44, if_true]; done) | (simp only [zdraw, h44, e74, if_true, if_false]; done))
    · exact absurd ⟨nI_pos (by omega), by rw [hn]; exact nI_ge hxn (by omega)⟩ h31
  · exact absurd h7 (nI_ne0 h1 (by omega))
set_option maxHeartbeats 4000000 in
set_option maxRecDepth 100000 in
theorem l_X2_behindDraws (h6 : n ≤ 6) (h1 : 0 < n) {m : Nat} (hm : m < 2 ^ 30) {R : zS} {x2 : Int32} : ∀ f i X (S : zS), i + f = m → X < 2147483647 → S 0 0 = nI n → zbdL n f X S = R → zG E zm_X2_behindDraws 4 (some (.ref (zad E (zsq 4)))) (va_up Q 4 R, Z) 17 [some (.ref (zad E 162)), some (.int (nI m)), some (.int x2), some (.long (lN X)), none, some (.int (nI i))] [] (va_up Q 4 S, Z) := by
  intro f
  induction f with
  | zero =>
    intro i X S hi hX hn hr
    refine zi_iload5 (n := 19) dX2_behindDraws_17 rfl ?_
    refine zi_iload1 (n := 20) dX2_behindDraws_19 rfl ?_
    refine zi_icge (n := 23) (tgt := 51) dX2_behindDraws_20 rfl (by decide) (fun h20 => ?_) (fun h20 => ?_)
    · refine zi_aload0 (n := 52) dX2_behindDraws_51 rfl ?_
      refine zg_X2_1 (n := 55) dX2_behindDraws_52 rfl zl_X2_12 ?_
      exact zi_aret dX2_behindDraws_55 rfl (by rfl) (by rw [← hr]; rfl)
    · exact absurd (nI_le (by omega) (by omega)) h20
  | succ f ih =>
    intro i X S hi hX hn hr
    have hX2 : X * 16807 % 2147483647 < 2147483647 := Nat.mod_lt _ (by omega)
    refine zi_iload5 (n := 19) dX2_behindDraws_17 rfl ?_
    refine zi_iload1 (n := 20) dX2_behindDraws_19 rfl ?_
    refine zi_icge (n := 23) (tgt := 51) dX2_behindDraws_20 rfl (by decide) (fun h20 => ?_) (fun h20 => ?_)
    · exact absurd ((nI_leI (by omega) (by omega)).mp h20) (by omega)
    · refine zi_lload3 (n := 24) dX2_behindDraws_23 rfl ?_
      refine zi_ldc2 (n := 27) dX2_behindDraws_24 rfl zl_X2_130 ?_
      rw [show (16807 : Int64) = lN 16807 from rfl]
      refine zi_lmul (n := 28) dX2_behindDraws_27 rfl ?_
      rw [lN_mul]
      refine zi_ldc2 (n := 31) dX2_behindDraws_28 rfl zl_X2_132 ?_
      rw [show (2147483647 : Int64) = lN 2147483647 from rfl]
      refine zi_lrem (n := 32) dX2_behindDraws_31 rfl (by decide) ?_
      rw [pk_lRem (by omega) (by omega) (by omega)]
      refine zi_lstore3 (n := 33) dX2_behindDraws_32 rfl (by decide) rfl ?_
      refine zi_aload0 (n := 34) dX2_behindDraws_33 rfl ?_
      refine zi_lload3 (n := 35) dX2_behindDraws_34 rfl ?_
      refine zi_V1v (mj := zm_X2_draw) (n := 38) dX2_behindDraws_35 rfl zl_X2_134 zy_X2_draw (zrc_X2 _ _) (by decide) (Nat.le_of_ble_eq_true rfl) (c_X2_draw hn h6 h1 (by omega)) ?_
      refine zi_aload0 (n := 39) dX2_behindDraws_38 rfl ?_
      refine zg_X2_1 (n := 42) dX2_behindDraws_39 rfl zl_X2_12 ?_
      refine zi_V0v (mj := zm_X4_passNoon) (n := 45) dX2_behindDraws_42 rfl zl_X2_29 zy_X4_passNoon (zrc_sq _ _ (by omega)) (by decide) (Nat.le_of_ble_eq_true rfl) (c_X4_passNoon (by decide) (zdraw_0.trans hn) h6) ?_
      refine zi_iinc5 (n := 48) (nI (i + 1)) dX2_behindDraws_45 rfl (by decide) rfl (zi1 _) ?_
      refine zi_goto (tgt := 17) dX2_behindDraws_48 (by decide) ?_
      exact ih (i + 1) _ _ (by omega) hX2 (noonC_0.trans (zdraw_0.trans hn)) hr
set_option maxHeartbeats 4000000 in
set_option maxRecDepth 100000 in
theorem c_X2_behindDraws (hn : Q 1 0 0 = nI n) (h6 : n ≤ 6) (h1 : 0 < n) {m X : Nat} (hm : m < 2 ^ 30) (hX : X < 2147483647) : zCT E 4 zm_X2_behindDraws [.ref (zad E 162), .int (nI m), .int (nI X)] (va_up Q 4 S, Z) (some (.ref (zad E (zsq 4)))) (va_up Q 4 (zbdL n m X (takeC S (Q 1))), Z) := by
  refine zCT.of (by decide +kernel) (Nat.le_of_ble_eq_true rfl) ?_
  refine zi_aload0 (n := 1) dX2_behindDraws_0 rfl ?_
  refine zg_X2_1 (n := 4) dX2_behindDraws_1 rfl zl_X2_12 ?_
  refine zi_aload0 (n := 5) dX2_behindDraws_4 rfl ?_
  refine zg_X2_0 (n := 8) dX2_behindDraws_5 rfl zl_X2_18 ?_
  refine zi_V1v (mj := zm_X4_take) (n := 11) dX2_behindDraws_8 rfl zl_X2_21 zy_X4_take (zrc_sq _ _ (by omega)) (by decide) (Nat.le_of_ble_eq_true rfl) (c_X4_take (by decide) (by decide) (by decide)) ?_
  refine zi_iload2 (n := 12) dX2_behindDraws_11 rfl ?_
  refine zi_i2l (n := 13) dX2_behindDraws_12 rfl ?_
  rw [nI_l (by omega)]
  refine zi_lstore3 (n := 14) dX2_behindDraws_13 rfl (by decide) rfl ?_
  refine zi_iconst (n := 15) (nI 0) dX2_behindDraws_14 rfl (by decide) ?_
  refine zi_istore5 (n := 17) dX2_behindDraws_15 rfl (by decide) rfl ?_
  exact l_X2_behindDraws h6 h1 hm m 0 X _ (by omega) hX ((takeC_0 (by decide)).trans hn) rfl
end ZF5
