section ZF3
variable {E : zE} {Q : Nat → Nat → Nat → Int32} {Z : zS} {S : zS} {n : Nat}
/-- whether all are saved, from paper p on -/
def zsvA (T F : zS) : Nat → Nat → Bool
  | 0, _ => true
  | k + 1, p => if (¬ hidC T p = 0 ∨ T 1 p = nI 5) ∨ T 4 p = F 4 p then zsvA T F k (p + 1) else false
def zsv (S F : zS) (n : Nat) (h : Int32) (m : Nat) : zS := noonsC (zsu (takeC S F) 0 6 h) n m
theorem zsv_n {S F : zS} {n : Nat} {h : Int32} (hn : F 0 0 = nI n) : zsu (takeC S F) 0 6 h 0 0 = nI n := by simp [zsu_at, takeC_0, hn]
theorem zsv_0 {S F : zS} {n m : Nat} {h : Int32} (hn : F 0 0 = nI n) : zsv S F n h m 0 0 = nI n := (noonsC_0 m).trans (zsv_n hn)
set_option maxHeartbeats 4000000 in
set_option maxRecDepth 100000 in
theorem l_X2_savesAll (hn : S 0 0 = nI n) (h6 : n ≤ 6) {r : Bool} {x1 : Option Value} {y2 : Int32} : ∀ k p (x4 : Option Value), p + k = n → zsvA S (Q 1) k p = r → zG E zm_X2_savesAll 5 (some (.int (zb (r = true)))) (va_up Q 4 S, Z) 29 [some (.ref (zad E 162)), x1, some (.int y2), some (.int (nI p)), x4] [] (va_up Q 4 S, Z) := by
  intro k
  induction k with
  | zero =>
    intro p x4 hi hr
    refine zi_iload3 (n := 30) dX2_savesAll_29 rfl ?_
    refine zi_aload0 (n := 31) dX2_savesAll_30 rfl ?_
    refine zg_X2_1 (n := 34) dX2_savesAll_31 rfl zl_X2_12 ?_
    refine zgN_X4_0 (n := 37) dX2_savesAll_34 rfl zl_X2_68 (by omega) ((zfs _ _ _ _ _ _).trans hn) ?_
    refine zi_icge (n := 40) (tgt := 105) dX2_savesAll_37 rfl (by decide) (fun h37 => ?_) (fun h37 => ?_)
    · refine zi_iconst (n := 106) (nI 1) dX2_savesAll_105 rfl (by decide) ?_
      exact zi_zretT dX2_savesAll_106 rfl (by rw [← hr]; rfl) rfl (by rfl)
    · exact absurd (nI_le (by omega) (by omega)) h37
  | succ k ih =>
    intro p x4 hi hr
    refine zi_iload3 (n := 30) dX2_savesAll_29 rfl ?_
    refine zi_aload0 (n := 31) dX2_savesAll_30 rfl ?_
    refine zg_X2_1 (n := 34) dX2_savesAll_31 rfl zl_X2_12 ?_
    refine zgN_X4_0 (n := 37) dX2_savesAll_34 rfl zl_X2_68 (by omega) ((zfs _ _ _ _ _ _).trans hn) ?_
    refine zi_icge (n := 40) (tgt := 105) dX2_savesAll_37 rfl (by decide) (fun h37 => ?_) (fun h37 => ?_)
    · exact absurd ((nI_leI (by omega) (by omega)).mp h37) (by omega)
    · refine zi_aload0 (n := 41) dX2_savesAll_40 rfl ?_
      refine zg_X2_1 (n := 44) dX2_savesAll_41 rfl zl_X2_12 ?_
      refine zi_iload3 (n := 45) dX2_savesAll_44 rfl ?_
      refine zi_V1s (mj := zm_X4_isHidden) (n := 48) dX2_savesAll_45 rfl zl_X2_71 zy_X4_isHidden (zrc_sq _ _ (by omega)) (by decide) (Nat.le_of_ble_eq_true rfl) (c_X4_isHidden (by decide)) ?_
      refine zi_ifne_b (n := 51) (tgt := 64) dX2_savesAll_48 rfl (by decide) (fun h48 => ?_) (fun h48 => ?_)
      · refine zi_iconst (n := 65) (nI 1) dX2_savesAll_64 rfl (by decide) ?_
        refine zi_goto (tgt := 69) dX2_savesAll_65 (by decide) ?_
        refine zi_istore4 (n := 71) dX2_savesAll_69 rfl (by decide) rfl ?_
        refine zi_iload4 (n := 73) dX2_savesAll_71 rfl ?_
        refine zi_ifne (n := 76) (tgt := 99) dX2_savesAll_73 rfl (by decide) (fun h73 => ?_) (fun h73 => absurd h73 (by decide))
        refine zi_iinc3 (n := 102) (nI (p + 1)) dX2_savesAll_99 rfl (by decide) rfl (zi1 _) ?_
        refine zi_goto (tgt := 29) dX2_savesAll_102 (by decide) ?_
        exact ih (p + 1) _ (by omega) (by rw [← hr, zsvA, if_pos (by simp [h37, h48])])
      · refine zi_aload0 (n := 52) dX2_savesAll_51 rfl ?_
        refine zg_X2_1 (n := 55) dX2_savesAll_52 rfl zl_X2_12 ?_
        refine zgN_X4_9 (n := 58) dX2_savesAll_55 rfl zl_X2_75 (by omega) ?_
        refine zi_iload3 (n := 59) dX2_savesAll_58 rfl ?_
        refine zi_qald (n := 60) dX2_savesAll_59 rfl (by omega) (by decide) rfl (by omega) (zfs _ _ _ _ _ _) ?_
        refine zi_iconst (n := 61) (nI 5) dX2_savesAll_60 rfl (by decide) ?_
        refine zi_icne (n := 64) (tgt := 68) dX2_savesAll_61 rfl (by decide) (fun h61 => ?_) (fun h61 => ?_)
        · refine zi_iconst (n := 69) (nI 0) dX2_savesAll_68 rfl (by decide) ?_
          refine zi_istore4 (n := 71) dX2_savesAll_69 rfl (by decide) rfl ?_
          refine zi_iload4 (n := 73) dX2_savesAll_71 rfl ?_
          refine zi_ifne (n := 76) (tgt := 99) dX2_savesAll_73 rfl (by decide) (fun h73 => absurd rfl h73) (fun h73 => ?_)
          refine zi_aload0 (n := 77) dX2_savesAll_76 rfl ?_
          refine zg_X2_1 (n := 80) dX2_savesAll_77 rfl zl_X2_12 ?_
          refine zgN_X4_12 (n := 83) dX2_savesAll_80 rfl zl_X2_49 (by omega) ?_
          refine zi_iload3 (n := 84) dX2_savesAll_83 rfl ?_
          refine zi_qald (n := 85) dX2_savesAll_84 rfl (by omega) (by decide) rfl (by omega) (zfs _ _ _ _ _ _) ?_
          refine zi_aload0 (n := 86) dX2_savesAll_85 rfl ?_
          refine zg_X2_0 (n := 89) dX2_savesAll_86 rfl zl_X2_18 ?_
          refine zgN_X4_12 (n := 92) dX2_savesAll_89 rfl zl_X2_49 (by omega) ?_
          refine zi_iload3 (n := 93) dX2_savesAll_92 rfl ?_
          refine zi_qald (n := 94) dX2_savesAll_93 rfl (by omega) (by decide) rfl (by omega) (zfo _ (by decide) _ _ _ _) ?_
          refine zi_iceq (n := 97) (tgt := 99) dX2_savesAll_94 rfl (by decide) (fun h94 => ?_) (fun h94 => ?_)
          · refine zi_iinc3 (n := 102) (nI (p + 1)) dX2_savesAll_99 rfl (by decide) rfl (zi1 _) ?_
            refine zi_goto (tgt := 29) dX2_savesAll_102 (by decide) ?_
            exact ih (p + 1) _ (by omega) (by rw [← hr, zsvA, if_pos (by simp [h94])])
          · refine zi_iconst (n := 98) (nI 0) dX2_savesAll_97 rfl (by decide) ?_
            exact zi_zretF dX2_savesAll_98 rfl (by rw [← hr, zsvA, if_neg (by simp [h48, h61, h94])]; decide) rfl (by rfl)
        · refine zi_iconst (n := 65) (nI 1) dX2_savesAll_64 rfl (by decide) ?_
          refine zi_goto (tgt := 69) dX2_savesAll_65 (by decide) ?_
          refine zi_istore4 (n := 71) dX2_savesAll_69 rfl (by decide) rfl ?_
          refine zi_iload4 (n := 73) dX2_savesAll_71 rfl ?_
          refine zi_ifne (n := 76) (tgt := 99) dX2_savesAll_73 rfl (by decide) (fun h73 => ?_) (fun h73 => absurd h73 (by decide))
          refine zi_iinc3 (n := 102) (nI (p + 1)) dX2_savesAll_99 rfl (by decide) rfl (zi1 _) ?_
          refine zi_goto (tgt := 29) dX2_savesAll_102 (by decide) ?_
          exact ih (p + 1) _ (by omega) (by rw [← hr, zsvA, if_pos (by simp [h37, h48, h61])])
set_option maxHeartbeats 4000000 in
set_option maxRecDepth 100000 in
theorem c_X2_savesAll (hn : Q 1 0 0 = nI n) (h6 : n ≤ 6) {m : Nat} {h : Int32} (hm : m < 2 ^ 30) : zCT E 5 zm_X2_savesAll [.ref (zad E 162), .int h, .int (nI m)] (va_up Q 4 S, Z) (some (.int (zb (zsvA (zsv S (Q 1) n h m) (Q 1) n 0 = true)))) (va_up Q 4 (zsv S (Q 1) n h m), Z) := by
  refine zCT.of (by decide +kernel) (Nat.le_of_ble_eq_true rfl) ?_
  refine zi_aload0 (n := 1) dX2_savesAll_0 rfl ?_
  refine zg_X2_1 (n := 4) dX2_savesAll_1 rfl zl_X2_12 ?_
  refine zi_aload0 (n := 5) dX2_savesAll_4 rfl ?_
  refine zg_X2_0 (n := 8) dX2_savesAll_5 rfl zl_X2_18 ?_
  refine zi_V1v (mj := zm_X4_take) (n := 11) dX2_savesAll_8 rfl zl_X2_21 zy_X4_take (zrc_sq _ _ (by omega)) (by decide) (Nat.le_of_ble_eq_true rfl) (c_X4_take (by decide) (by decide) (by decide)) ?_
  refine zi_aload0 (n := 12) dX2_savesAll_11 rfl ?_
  refine zg_X2_1 (n := 15) dX2_savesAll_12 rfl zl_X2_12 ?_
  refine zi_iload1 (n := 16) dX2_savesAll_15 rfl ?_
  refine zpN_X4_6 (n := 19) dX2_savesAll_16 rfl zl_X2_65 (by omega) (zfp _ _ _ _ _ _ _) ?_
  refine zi_aload0 (n := 20) dX2_savesAll_19 rfl ?_
  refine zg_X2_1 (n := 23) dX2_savesAll_20 rfl zl_X2_12 ?_
  refine zi_iload2 (n := 24) dX2_savesAll_23 rfl ?_
  refine zi_V1v (mj := zm_X4_passNoons) (n := 27) dX2_savesAll_24 rfl zl_X2_25 zy_X4_passNoons (zrc_sq _ _ (by omega)) (by decide) (Nat.le_of_ble_eq_true rfl) (c_X4_passNoons (by decide) (zsv_n hn) h6 hm) ?_
  refine zi_iconst (n := 28) (nI 0) dX2_savesAll_27 rfl (by decide) ?_
  refine zi_istore3 (n := 29) dX2_savesAll_28 rfl (by decide) rfl ?_
  exact l_X2_savesAll (zsv_0 hn) h6 n 0 _ (by omega) rfl
theorem allC_nI {S : zS} {n : Nat} (hn : S 0 0 = nI n) (h6 : n ≤ 6) : allC S = nI (2 ^ n - 1) := by
  unfold allC
  rw [hn]
  rcases (show n = 0 ∨ n = 1 ∨ n = 2 ∨ n = 3 ∨ n = 4 ∨ n = 5 ∨ n = 6 by omega) with rfl | rfl | rfl | rfl | rfl | rfl | rfl <;> decide
theorem p2n {n : Nat} (h6 : n ≤ 6) : 1 ≤ 2 ^ n ∧ 2 ^ n ≤ 64 := by
  rcases (show n = 0 ∨ n = 1 ∨ n = 2 ∨ n = 3 ∨ n = 4 ∨ n = 5 ∨ n = 6 by omega) with rfl | rfl | rfl | rfl | rfl | rfl | rfl <;> decide
def zfhL (F : zS) (n m : Nat) : Nat → Nat → Int32 → zS → Int32 × zS
  | 0, _, b, S => (b, S)
  | f + 1, i, b, S => if zbc b ≤ zbc (nI i) then zfhL F n m f (i + 1) b S else if zsvA (zsv S F n (nI i) m) F n 0 then zfhL F n m f (i + 1) (nI i) (zsv S F n (nI i) m) else zfhL F n m f (i + 1) b (zsv S F n (nI i) m)
set_option maxHeartbeats 4000000 in
set_option maxRecDepth 100000 in
theorem l_X2_fewestHidden (hn : Q 1 0 0 = nI n) (h6 : n ≤ 6) {m : Nat} (hm : m < 2 ^ 30) {r : Int32 × zS} : ∀ f i (bb : Int32) (S : zS), i + f = 2 ^ n - 1 → zfhL (Q 1) n m f i bb S = r → zG E zm_X2_fewestHidden 6 (some (.int r.1)) (va_up Q 4 r.2, Z) 10 [some (.ref (zad E 162)), some (.int (nI m)), some (.int bb), some (.int (nI i))] [] (va_up Q 4 S, Z) := by
  have hp2 := p2n h6
  intro f
  induction f with
  | zero =>
    intro i bb S hi hr
    refine zi_iload3 (n := 11) dX2_fewestHidden_10 rfl ?_
    refine zi_aload0 (n := 12) dX2_fewestHidden_11 rfl ?_
    refine zg_X2_0 (n := 15) dX2_fewestHidden_12 rfl zl_X2_18 ?_
    refine zi_V0s (mj := zm_X4_allBits) (n := 18) dX2_fewestHidden_15 rfl zl_X2_52 zy_X4_allBits (zrc_sq _ _ (by omega)) (by decide) (Nat.le_of_ble_eq_true rfl) cn_allBits ?_
    rw [allC_nI hn h6]
    refine zi_icge (n := 21) (tgt := 49) dX2_fewestHidden_18 rfl (by decide) (fun h18 => ?_) (fun h18 => ?_)
    · refine zi_iload2 (n := 50) dX2_fewestHidden_49 rfl ?_
      exact zi_iret dX2_fewestHidden_50 rfl (by rw [← hr]; rfl) (by rw [← hr]; rfl)
    · exact absurd (nI_le (by omega) (by omega)) h18
  | succ f ih =>
    intro i bb S hi hr
    refine zi_iload3 (n := 11) dX2_fewestHidden_10 rfl ?_
    refine zi_aload0 (n := 12) dX2_fewestHidden_11 rfl ?_
    refine zg_X2_0 (n := 15) dX2_fewestHidden_12 rfl zl_X2_18 ?_
    refine zi_V0s (mj := zm_X4_allBits) (n := 18) dX2_fewestHidden_15 rfl zl_X2_52 zy_X4_allBits (zrc_sq _ _ (by omega)) (by decide) (Nat.le_of_ble_eq_true rfl) cn_allBits ?_
    rw [allC_nI hn h6]
    refine zi_icge (n := 21) (tgt := 49) dX2_fewestHidden_18 rfl (by decide) (fun h18 => ?_) (fun h18 => ?_)
    · exact absurd ((nI_leI (by omega) (by omega)).mp h18) (by omega)
    · refine zi_iload3 (n := 22) dX2_fewestHidden_21 rfl ?_
      refine zi_S1s (mj := zm_J6_bitCount_0f7a4) (n := 25) dX2_fewestHidden_22 rfl zl_X2_55 zy_J6_bitCount_0f7a4 (by decide) (Nat.le_of_ble_eq_true rfl) (c_J6_bitCount_0f7a4) ?_
      refine zi_iload2 (n := 26) dX2_fewestHidden_25 rfl ?_
      refine zi_S1s (mj := zm_J6_bitCount_0f7a4) (n := 29) dX2_fewestHidden_26 rfl zl_X2_55 zy_J6_bitCount_0f7a4 (by decide) (Nat.le_of_ble_eq_true rfl) (c_J6_bitCount_0f7a4) ?_
      refine zi_icge (n := 32) (tgt := 43) dX2_fewestHidden_29 rfl (by decide) (fun h29 => ?_) (fun h29 => ?_)
      · refine zi_iinc3 (n := 46) (nI (i + 1)) dX2_fewestHidden_43 rfl (by decide) rfl (zi1 _) ?_
        refine zi_goto (tgt := 10) dX2_fewestHidden_46 (by decide) ?_
        exact ih (i + 1) _ _ (by omega) (by rw [← hr, zfhL]; simp only [h18, h29, if_true, if_false, Bool.false_eq_true])
      · refine zi_aload0 (n := 33) dX2_fewestHidden_32 rfl ?_
        refine zi_iload3 (n := 34) dX2_fewestHidden_33 rfl ?_
        refine zi_iload1 (n := 35) dX2_fewestHidden_34 rfl ?_
        refine zi_V2s (mj := zm_X2_savesAll) (n := 38) dX2_fewestHidden_35 rfl zl_X2_61 zy_X2_savesAll (zrc_X2 _ _) (by decide) (Nat.le_of_ble_eq_true rfl) (c_X2_savesAll hn h6 hm) ?_
        refine zi_ifeq_b (n := 41) (tgt := 43) dX2_fewestHidden_38 rfl (by decide) (fun h38 => ?_) (fun h38 => ?_)
        · refine zi_iinc3 (n := 46) (nI (i + 1)) dX2_fewestHidden_43 rfl (by decide) rfl (zi1 _) ?_
          refine zi_goto (tgt := 10) dX2_fewestHidden_46 (by decide) ?_
          exact ih (i + 1) _ _ (by omega) (by rw [← hr, zfhL]; simp only [h18, h29, h38, if_true, if_false, Bool.false_eq_true])
        · refine zi_iload3 (n := 42) dX2_fewestHidden_41 rfl ?_
          refine zi_istore2 (n := 43) dX2_fewestHidden_42 rfl (by decide) rfl ?_
          refine zi_iinc3 (n := 46) (nI (i + 1)) dX2_fewestHidden_43 rfl (by decide) rfl (zi1 _) ?_
          refine zi_goto (tgt := 10) dX2_fewestHidden_46 (by decide) ?_
          exact ih (i + 1) _ _ (by omega) (by rw [← hr, zfhL]; simp only [h18, h29, h38, if_true, if_false, Bool.false_eq_true])
set_option maxHeartbeats 4000000 in
set_option maxRecDepth 100000 in
theorem c_X2_fewestHidden (hn : Q 1 0 0 = nI n) (h6 : n ≤ 6) {m : Nat} (hm : m < 2 ^ 30) : zCT E 6 zm_X2_fewestHidden [.ref (zad E 162), .int (nI m)] (va_up Q 4 S, Z) (some (.int (zfhL (Q 1) n m (2 ^ n - 1) 0 (nI (2 ^ n - 1)) S).1)) (va_up Q 4 (zfhL (Q 1) n m (2 ^ n - 1) 0 (nI (2 ^ n - 1)) S).2, Z) := by
  refine zCT.of (by decide +kernel) (Nat.le_of_ble_eq_true rfl) ?_
  refine zi_aload0 (n := 1) dX2_fewestHidden_0 rfl ?_
  refine zg_X2_0 (n := 4) dX2_fewestHidden_1 rfl zl_X2_18 ?_
  refine zi_V0s (mj := zm_X4_allBits) (n := 7) dX2_fewestHidden_4 rfl zl_X2_52 zy_X4_allBits (zrc_sq _ _ (by omega)) (by decide) (Nat.le_of_ble_eq_true rfl) cn_allBits ?_
  rw [allC_nI hn h6]
  refine zi_istore2 (n := 8) dX2_fewestHidden_7 rfl (by decide) rfl ?_
  refine zi_iconst (n := 9) (nI 0) dX2_fewestHidden_8 rfl (by decide) ?_
  refine zi_istore3 (n := 10) dX2_fewestHidden_9 rfl (by decide) rfl ?_
  exact l_X2_fewestHidden hn h6 hm (2 ^ n - 1) 0 _ _ (by omega) rfl
def zss (F : zS) (s : Int32) : Nat → Int32
  | 0 => nI 0
  | p + 1 => if (s >>> (nI p &&& 31)) &&& nI 1 = 0 then zss F s p else zss F s p + F 4 p
def zis (F : zS) (n : Nat) (s v : Int32) : Bool := decide (s &&& zNml F n = 0) && decide (zss F s n = v)
set_option maxHeartbeats 4000000 in
set_option maxRecDepth 100000 in
theorem l_X2_isSetOf (hn : Q 1 0 0 = nI n) (h6 : n ≤ 6) {s v : Int32} (h9 : s &&& zNml (Q 1) n = 0) : ∀ k p, n - p < k → p ≤ n → zG E zm_X2_isSetOf 1 (some (.int (zb (zis (Q 1) n s v = true)))) (va_up Q 4 S, Z) 19 [some (.ref (zad E 162)), some (.int s), some (.int v), some (.int (zss (Q 1) s p)), some (.int (nI p))] [] (va_up Q 4 S, Z) := by
  intro k
  induction k with
  | zero => intro p h; omega
  | succ k ih =>
    intro p h1 h2
    refine zi_iload4 (n := 21) dX2_isSetOf_19 rfl ?_
    refine zi_aload0 (n := 22) dX2_isSetOf_21 rfl ?_
    refine zg_X2_0 (n := 25) dX2_isSetOf_22 rfl zl_X2_18 ?_
    refine zgN_X4_0 (n := 28) dX2_isSetOf_25 rfl zl_X2_68 (by omega) ((zfo _ (by decide) _ _ _ _).trans hn) ?_
    refine zi_icge (n := 31) (tgt := 59) dX2_isSetOf_28 rfl (by decide) (fun h28 => ?_) (fun h28 => ?_)
    · have e : p = n := by have := (nI_leI (by omega) (by omega)).mp h28; omega
      subst e
      refine zi_iload3 (n := 60) dX2_isSetOf_59 rfl ?_
      refine zi_iload2 (n := 61) dX2_isSetOf_60 rfl ?_
      refine zi_icne (n := 64) (tgt := 68) dX2_isSetOf_61 rfl (by decide) (fun h61 => ?_) (fun h61 => ?_)
      · refine zi_iconst (n := 69) (nI 0) dX2_isSetOf_68 rfl (by decide) ?_
        exact zi_zretF dX2_isSetOf_69 rfl (by simp [zis, h9, h28, h61]) rfl (by rfl)
      · refine zi_iconst (n := 65) (nI 1) dX2_isSetOf_64 rfl (by decide) ?_
        refine zi_goto (tgt := 69) dX2_isSetOf_65 (by decide) ?_
        exact zi_zretT dX2_isSetOf_69 rfl (by simp [zis, h9, h28, h61]) rfl (by rfl)
    · have e : p < n := by have := mt (nI_leI (by omega) (by omega)).mpr h28; omega
      refine zi_iload1 (n := 32) dX2_isSetOf_31 rfl ?_
      refine zi_iload4 (n := 34) dX2_isSetOf_32 rfl ?_
      refine zi_ishr (n := 35) dX2_isSetOf_34 rfl ?_
      refine zi_iconst (n := 36) (nI 1) dX2_isSetOf_35 rfl (by decide) ?_
      refine zi_iand (n := 37) dX2_isSetOf_36 rfl ?_
      refine zi_ifeq (n := 40) (tgt := 53) dX2_isSetOf_37 rfl (by decide) (fun h37 => ?_) (fun h37 => ?_)
      · refine zi_iinc4 (n := 56) (nI (p + 1)) dX2_isSetOf_53 rfl (by decide) rfl (zi1 _) ?_
        refine zi_goto (tgt := 19) dX2_isSetOf_56 (by decide) ?_
        have f := ih (p + 1) (by omega) (by omega)
        simp only [zss, h37, if_true, if_false] at f
        exact f
      · refine zi_iload3 (n := 41) dX2_isSetOf_40 rfl ?_
        refine zi_aload0 (n := 42) dX2_isSetOf_41 rfl ?_
        refine zg_X2_0 (n := 45) dX2_isSetOf_42 rfl zl_X2_18 ?_
        refine zgN_X4_12 (n := 48) dX2_isSetOf_45 rfl zl_X2_49 (by omega) ?_
        refine zi_iload4 (n := 50) dX2_isSetOf_48 rfl ?_
        refine zi_qald (n := 51) dX2_isSetOf_50 rfl (by omega) (by decide) rfl (by omega) (zfo _ (by decide) _ _ _ _) ?_
        refine zi_iadd (n := 52) dX2_isSetOf_51 rfl ?_
        refine zi_istore3 (n := 53) dX2_isSetOf_52 rfl (by decide) rfl ?_
        refine zi_iinc4 (n := 56) (nI (p + 1)) dX2_isSetOf_53 rfl (by decide) rfl (zi1 _) ?_
        refine zi_goto (tgt := 19) dX2_isSetOf_56 (by decide) ?_
        have f := ih (p + 1) (by omega) (by omega)
        simp only [zss, h37, if_true, if_false] at f
        exact f
set_option maxHeartbeats 4000000 in
set_option maxRecDepth 100000 in
theorem c_X2_isSetOf (hn : Q 1 0 0 = nI n) (h6 : n ≤ 6) {s v : Int32} : zCT E 1 zm_X2_isSetOf [.ref (zad E 162), .int s, .int v] (va_up Q 4 S, Z) (some (.int (zb (zis (Q 1) n s v = true)))) (va_up Q 4 S, Z) := by
  refine zCT.of (by decide +kernel) (Nat.le_of_ble_eq_true rfl) ?_
  refine zi_iload1 (n := 1) dX2_isSetOf_0 rfl ?_
  refine zi_aload0 (n := 2) dX2_isSetOf_1 rfl ?_
  refine zg_X2_0 (n := 5) dX2_isSetOf_2 rfl zl_X2_18 ?_
  refine zi_V0s (mj := zm_X4_namelessBits) (n := 8) dX2_isSetOf_5 rfl zl_X2_37 zy_X4_namelessBits (zrc_sq _ _ (by omega)) (by decide) (Nat.le_of_ble_eq_true rfl) (cn_namelessBits hn h6) ?_
  refine zi_iand (n := 9) dX2_isSetOf_8 rfl ?_
  refine zi_ifeq (n := 12) (tgt := 14) dX2_isSetOf_9 rfl (by decide) (fun h9 => ?_) (fun h9 => ?_)
  · refine zi_iconst (n := 15) (nI 0) dX2_isSetOf_14 rfl (by decide) ?_
    refine zi_istore3 (n := 16) dX2_isSetOf_15 rfl (by decide) rfl ?_
    refine zi_iconst (n := 17) (nI 0) dX2_isSetOf_16 rfl (by decide) ?_
    refine zi_istore4 (n := 19) dX2_isSetOf_17 rfl (by decide) rfl ?_
    exact l_X2_isSetOf hn h6 h9 (n + 1) 0 (by omega) (by omega)
  · refine zi_iconst (n := 13) (nI 0) dX2_isSetOf_12 rfl (by decide) ?_
    exact zi_zretF dX2_isSetOf_13 rfl (by simp [zis, h9]) rfl (by rfl)
def zhm (F : zS) (n : Nat) (v : Int32) : Nat → Int32
  | 0 => nI 0
  | i + 1 => if zis F n (nI i) v then zhm F n v i + Int32.ofInt 1 else zhm F n v i
def zia (F : zS) (n : Nat) (v : Int32) : Nat → Int32
  | 0 => nI (2 ^ n - 1)
  | i + 1 => if zis F n (nI i) v then zia F n v i &&& nI i else zia F n v i
def zif (F : zS) (n : Nat) (v : Int32) : Nat → Int32
  | 0 => nI 0
  | i + 1 => if zis F n (nI i) v then nI 1 else zif F n v i
def zin (F : zS) (n : Nat) (v : Int32) : Nat → Int32
  | 0 => nI 0
  | i + 1 => if zis F n (nI i) v then zin F n v i ||| nI i else zin F n v i
set_option maxHeartbeats 4000000 in
set_option maxRecDepth 100000 in
theorem l_X2_howManySets (hn : Q 1 0 0 = nI n) (h6 : n ≤ 6) {v : Int32} : ∀ k i, 2 ^ n - i < k → i ≤ 2 ^ n → zG E zm_X2_howManySets 2 (some (.int (zhm (Q 1) n v (2 ^ n)))) (va_up Q 4 S, Z) 4 [some (.ref (zad E 162)), some (.int v), some (.int (zhm (Q 1) n v i)), some (.int (nI i))] [] (va_up Q 4 S, Z) := by
  have hp2 := p2n h6
  intro k
  induction k with
  | zero => intro i h; omega
  | succ k ih =>
    intro i h1 h2
    refine zi_iload3 (n := 5) dX2_howManySets_4 rfl ?_
    refine zi_aload0 (n := 6) dX2_howManySets_5 rfl ?_
    refine zg_X2_0 (n := 9) dX2_howManySets_6 rfl zl_X2_18 ?_
    refine zi_V0s (mj := zm_X4_allBits) (n := 12) dX2_howManySets_9 rfl zl_X2_52 zy_X4_allBits (zrc_sq _ _ (by omega)) (by decide) (Nat.le_of_ble_eq_true rfl) cn_allBits ?_
    rw [allC_nI hn h6]
    refine zi_icgt (n := 15) (tgt := 33) dX2_howManySets_12 rfl (by decide) (fun h12 => ?_) (fun h12 => ?_)
    · have e : i = 2 ^ n := by have := (nI_ltI (by omega) (by omega)).mp h12; omega
      subst e
      refine zi_iload2 (n := 34) dX2_howManySets_33 rfl ?_
      exact zi_iret dX2_howManySets_34 rfl (by rfl) (by rfl)
    · have e : i < 2 ^ n := by have := mt (nI_ltI (by omega) (by omega)).mpr h12; omega
      refine zi_aload0 (n := 16) dX2_howManySets_15 rfl ?_
      refine zi_iload3 (n := 17) dX2_howManySets_16 rfl ?_
      refine zi_iload1 (n := 18) dX2_howManySets_17 rfl ?_
      refine zi_V2s (mj := zm_X2_isSetOf) (n := 21) dX2_howManySets_18 rfl zl_X2_78 zy_X2_isSetOf (zrc_X2 _ _) (by decide) (Nat.le_of_ble_eq_true rfl) (c_X2_isSetOf hn h6) ?_
      refine zi_ifeq_b (n := 24) (tgt := 27) dX2_howManySets_21 rfl (by decide) (fun h21 => ?_) (fun h21 => ?_)
      · refine zi_iinc3 (n := 30) (nI (i + 1)) dX2_howManySets_27 rfl (by decide) rfl (zi1 _) ?_
        refine zi_goto (tgt := 4) dX2_howManySets_30 (by decide) ?_
        have f := ih (i + 1) (by omega) (by omega)
        simp only [zhm, h21, if_true, if_false, Bool.false_eq_true] at f
        exact f
      · refine zi_iinc2 (n := 27) _ dX2_howManySets_24 rfl (by decide) rfl rfl ?_
        refine zi_iinc3 (n := 30) (nI (i + 1)) dX2_howManySets_27 rfl (by decide) rfl (zi1 _) ?_
        refine zi_goto (tgt := 4) dX2_howManySets_30 (by decide) ?_
        have f := ih (i + 1) (by omega) (by omega)
        simp only [zhm, h21, if_true, if_false, Bool.false_eq_true] at f
        exact f
set_option maxHeartbeats 4000000 in
set_option maxRecDepth 100000 in
theorem l_X2_inAnySet (hn : Q 1 0 0 = nI n) (h6 : n ≤ 6) {v : Int32} : ∀ k i, 2 ^ n - i < k → i ≤ 2 ^ n → zG E zm_X2_inAnySet 2 (some (.int (zin (Q 1) n v (2 ^ n)))) (va_up Q 4 S, Z) 4 [some (.ref (zad E 162)), some (.int v), some (.int (zin (Q 1) n v i)), some (.int (nI i))] [] (va_up Q 4 S, Z) := by
  have hp2 := p2n h6
  intro k
  induction k with
  | zero => intro i h; omega
  | succ k ih =>
    intro i h1 h2
    refine zi_iload3 (n := 5) dX2_inAnySet_4 rfl ?_
    refine zi_aload0 (n := 6) dX2_inAnySet_5 rfl ?_
    refine zg_X2_0 (n := 9) dX2_inAnySet_6 rfl zl_X2_18 ?_
    refine zi_V0s (mj := zm_X4_allBits) (n := 12) dX2_inAnySet_9 rfl zl_X2_52 zy_X4_allBits (zrc_sq _ _ (by omega)) (by decide) (Nat.le_of_ble_eq_true rfl) cn_allBits ?_
    rw [allC_nI hn h6]
    refine zi_icgt (n := 15) (tgt := 34) dX2_inAnySet_12 rfl (by decide) (fun h12 => ?_) (fun h12 => ?_)
    · have e : i = 2 ^ n := by have := (nI_ltI (by omega) (by omega)).mp h12; omega
      subst e
      refine zi_iload2 (n := 35) dX2_inAnySet_34 rfl ?_
      exact zi_iret dX2_inAnySet_35 rfl (by rfl) (by rfl)
    · have e : i < 2 ^ n := by have := mt (nI_ltI (by omega) (by omega)).mpr h12; omega
      refine zi_aload0 (n := 16) dX2_inAnySet_15 rfl ?_
      refine zi_iload3 (n := 17) dX2_inAnySet_16 rfl ?_
      refine zi_iload1 (n := 18) dX2_inAnySet_17 rfl ?_
      refine zi_V2s (mj := zm_X2_isSetOf) (n := 21) dX2_inAnySet_18 rfl zl_X2_78 zy_X2_isSetOf (zrc_X2 _ _) (by decide) (Nat.le_of_ble_eq_true rfl) (c_X2_isSetOf hn h6) ?_
      refine zi_ifeq_b (n := 24) (tgt := 28) dX2_inAnySet_21 rfl (by decide) (fun h21 => ?_) (fun h21 => ?_)
      · refine zi_iinc3 (n := 31) (nI (i + 1)) dX2_inAnySet_28 rfl (by decide) rfl (zi1 _) ?_
        refine zi_goto (tgt := 4) dX2_inAnySet_31 (by decide) ?_
        have f := ih (i + 1) (by omega) (by omega)
        simp only [zin, h21, if_true, if_false, Bool.false_eq_true] at f
        exact f
      · refine zi_iload2 (n := 25) dX2_inAnySet_24 rfl ?_
        refine zi_iload3 (n := 26) dX2_inAnySet_25 rfl ?_
        refine zi_ior (n := 27) dX2_inAnySet_26 rfl ?_
        refine zi_istore2 (n := 28) dX2_inAnySet_27 rfl (by decide) rfl ?_
        refine zi_iinc3 (n := 31) (nI (i + 1)) dX2_inAnySet_28 rfl (by decide) rfl (zi1 _) ?_
        refine zi_goto (tgt := 4) dX2_inAnySet_31 (by decide) ?_
        have f := ih (i + 1) (by omega) (by omega)
        simp only [zin, h21, if_true, if_false, Bool.false_eq_true] at f
        exact f
set_option maxHeartbeats 4000000 in
set_option maxRecDepth 100000 in
theorem l_X2_inAllSets (hn : Q 1 0 0 = nI n) (h6 : n ≤ 6) {v : Int32} : ∀ k i, 2 ^ n - i < k → i ≤ 2 ^ n → zG E zm_X2_inAllSets 2 (some (.int (if zif (Q 1) n v (2 ^ n) = 0 then nI 0 else zia (Q 1) n v (2 ^ n)))) (va_up Q 4 S, Z) 13 [some (.ref (zad E 162)), some (.int v), some (.int (zia (Q 1) n v i)), some (.int (zif (Q 1) n v i)), some (.int (nI i))] [] (va_up Q 4 S, Z) := by
  have hp2 := p2n h6
  intro k
  induction k with
  | zero => intro i h; omega
  | succ k ih =>
    intro i h1 h2
    refine zi_iload4 (n := 15) dX2_inAllSets_13 rfl ?_
    refine zi_aload0 (n := 16) dX2_inAllSets_15 rfl ?_
    refine zg_X2_0 (n := 19) dX2_inAllSets_16 rfl zl_X2_18 ?_
    refine zi_V0s (mj := zm_X4_allBits) (n := 22) dX2_inAllSets_19 rfl zl_X2_52 zy_X4_allBits (zrc_sq _ _ (by omega)) (by decide) (Nat.le_of_ble_eq_true rfl) cn_allBits ?_
    rw [allC_nI hn h6]
    refine zi_icgt (n := 25) (tgt := 48) dX2_inAllSets_22 rfl (by decide) (fun h22 => ?_) (fun h22 => ?_)
    · have e : i = 2 ^ n := by have := (nI_ltI (by omega) (by omega)).mp h22; omega
      subst e
      refine zi_iload3 (n := 49) dX2_inAllSets_48 rfl ?_
      refine zi_ifeq (n := 52) (tgt := 56) dX2_inAllSets_49 rfl (by decide) (fun h49 => ?_) (fun h49 => ?_)
      · refine zi_iconst (n := 57) (nI 0) dX2_inAllSets_56 rfl (by decide) ?_
        exact zi_iret dX2_inAllSets_57 rfl (by simp only [h22, h49, if_true, if_false]) (by rfl)
      · refine zi_iload2 (n := 53) dX2_inAllSets_52 rfl ?_
        refine zi_goto (tgt := 57) dX2_inAllSets_53 (by decide) ?_
        exact zi_iret dX2_inAllSets_57 rfl (by simp only [h22, h49, if_true, if_false]) (by rfl)
    · have e : i < 2 ^ n := by have := mt (nI_ltI (by omega) (by omega)).mpr h22; omega
      refine zi_aload0 (n := 26) dX2_inAllSets_25 rfl ?_
      refine zi_iload4 (n := 28) dX2_inAllSets_26 rfl ?_
      refine zi_iload1 (n := 29) dX2_inAllSets_28 rfl ?_
      refine zi_V2s (mj := zm_X2_isSetOf) (n := 32) dX2_inAllSets_29 rfl zl_X2_78 zy_X2_isSetOf (zrc_X2 _ _) (by decide) (Nat.le_of_ble_eq_true rfl) (c_X2_isSetOf hn h6) ?_
      refine zi_ifeq_b (n := 35) (tgt := 42) dX2_inAllSets_32 rfl (by decide) (fun h32 => ?_) (fun h32 => ?_)
      · refine zi_iinc4 (n := 45) (nI (i + 1)) dX2_inAllSets_42 rfl (by decide) rfl (zi1 _) ?_
        refine zi_goto (tgt := 13) dX2_inAllSets_45 (by decide) ?_
        have f := ih (i + 1) (by omega) (by omega)
        simp only [zia, zif, h32, if_true, if_false, Bool.false_eq_true] at f
        exact f
      · refine zi_iload2 (n := 36) dX2_inAllSets_35 rfl ?_
        refine zi_iload4 (n := 38) dX2_inAllSets_36 rfl ?_
        refine zi_iand (n := 39) dX2_inAllSets_38 rfl ?_
        refine zi_istore2 (n := 40) dX2_inAllSets_39 rfl (by decide) rfl ?_
        refine zi_iconst (n := 41) (nI 1) dX2_inAllSets_40 rfl (by decide) ?_
        refine zi_istore3 (n := 42) dX2_inAllSets_41 rfl (by decide) rfl ?_
        refine zi_iinc4 (n := 45) (nI (i + 1)) dX2_inAllSets_42 rfl (by decide) rfl (zi1 _) ?_
        refine zi_goto (tgt := 13) dX2_inAllSets_45 (by decide) ?_
        have f := ih (i + 1) (by omega) (by omega)
        simp only [zia, zif, h32, if_true, if_false, Bool.false_eq_true] at f
        exact f
set_option maxHeartbeats 4000000 in
set_option maxRecDepth 100000 in
theorem c_X2_howManySets (hn : Q 1 0 0 = nI n) (h6 : n ≤ 6) {v : Int32} : zCT E 2 zm_X2_howManySets [.ref (zad E 162), .int v] (va_up Q 4 S, Z) (some (.int (zhm (Q 1) n v (2 ^ n)))) (va_up Q 4 S, Z) := by
  refine zCT.of (by decide +kernel) (Nat.le_of_ble_eq_true rfl) ?_
  refine zi_iconst (n := 1) (nI 0) dX2_howManySets_0 rfl (by decide) ?_
  refine zi_istore2 (n := 2) dX2_howManySets_1 rfl (by decide) rfl ?_
  refine zi_iconst (n := 3) (nI 0) dX2_howManySets_2 rfl (by decide) ?_
  refine zi_istore3 (n := 4) dX2_howManySets_3 rfl (by decide) rfl ?_
  exact l_X2_howManySets hn h6 (2 ^ n + 1) 0 (Nat.lt_succ_of_le (Nat.sub_le _ _)) (Nat.zero_le _)
set_option maxHeartbeats 4000000 in
set_option maxRecDepth 100000 in
theorem c_X2_inAnySet (hn : Q 1 0 0 = nI n) (h6 : n ≤ 6) {v : Int32} : zCT E 2 zm_X2_inAnySet [.ref (zad E 162), .int v] (va_up Q 4 S, Z) (some (.int (zin (Q 1) n v (2 ^ n)))) (va_up Q 4 S, Z) := by
  refine zCT.of (by decide +kernel) (Nat.le_of_ble_eq_true rfl) ?_
  refine zi_iconst (n := 1) (nI 0) dX2_inAnySet_0 rfl (by decide) ?_
  refine zi_istore2 (n := 2) dX2_inAnySet_1 rfl (by decide) rfl ?_
  refine zi_iconst (n := 3) (nI 0) dX2_inAnySet_2 rfl (by decide) ?_
  refine zi_istore3 (n := 4) dX2_inAnySet_3 rfl (by decide) rfl ?_
  exact l_X2_inAnySet hn h6 (2 ^ n + 1) 0 (Nat.lt_succ_of_le (Nat.sub_le _ _)) (Nat.zero_le _)
set_option maxHeartbeats 4000000 in
set_option maxRecDepth 100000 in
theorem c_X2_inAllSets (hn : Q 1 0 0 = nI n) (h6 : n ≤ 6) {v : Int32} : zCT E 2 zm_X2_inAllSets [.ref (zad E 162), .int v] (va_up Q 4 S, Z) (some (.int (if zif (Q 1) n v (2 ^ n) = 0 then nI 0 else zia (Q 1) n v (2 ^ n)))) (va_up Q 4 S, Z) := by
  refine zCT.of (by decide +kernel) (Nat.le_of_ble_eq_true rfl) ?_
  refine zi_aload0 (n := 1) dX2_inAllSets_0 rfl ?_
  refine zg_X2_0 (n := 4) dX2_inAllSets_1 rfl zl_X2_18 ?_
  refine zi_V0s (mj := zm_X4_allBits) (n := 7) dX2_inAllSets_4 rfl zl_X2_52 zy_X4_allBits (zrc_sq _ _ (by omega)) (by decide) (Nat.le_of_ble_eq_true rfl) cn_allBits ?_
  rw [allC_nI hn h6]
  refine zi_istore2 (n := 8) dX2_inAllSets_7 rfl (by decide) rfl ?_
  refine zi_iconst (n := 9) (nI 0) dX2_inAllSets_8 rfl (by decide) ?_
  refine zi_istore3 (n := 10) dX2_inAllSets_9 rfl (by decide) rfl ?_
  refine zi_iconst (n := 11) (nI 0) dX2_inAllSets_10 rfl (by decide) ?_
  refine zi_istore4 (n := 13) dX2_inAllSets_11 rfl (by decide) rfl ?_
  exact l_X2_inAllSets hn h6 (2 ^ n + 1) 0 (Nat.lt_succ_of_le (Nat.sub_le _ _)) (Nat.zero_le _)
end ZF3
