section ZMb
variable {E : zE} {Q : Nat → Nat → Nat → Int32} {Z : zS} {M M1 : zMem} {n p d L : Nat} {f F B : zF} {y : zY}
theorem zYm_p11 {x : Int32} : (((zYm Q Z y).1, zsu (zYm Q Z y).2 165 11 x) : zMem) = zYm Q (zsu Z 165 11 x) y := by
  unfold zYm
  dsimp only
  rw [zsu_focus, zsu_row]
  unfold zsu
  rw [zup_focus]
  congr 2
  funext k
  unfold upd zYr
  by_cases h : k = 11
  · subst h; simp
  · simp [h]
theorem zYm_p18 {x : Int32} : (((zYm Q Z y).1, zsu (zYm Q Z y).2 165 18 x) : zMem) = zYm Q (zsu Z 165 18 x) y := by
  unfold zYm
  dsimp only
  rw [zsu_focus, zsu_row]
  unfold zsu
  rw [zup_focus]
  congr 2
  funext k
  unfold upd zYr
  by_cases h : k = 18
  · subst h; simp
  · simp [h]
theorem zYm_p9 {x : Int32} : (((zYm Q Z y).1, zsu (zYm Q Z y).2 165 9 x) : zMem) = zYm Q (zsu Z 165 9 x) y := by
  unfold zYm
  dsimp only
  rw [zsu_focus, zsu_row]
  unfold zsu
  rw [zup_focus]
  congr 2
  funext k
  unfold upd zYr
  by_cases h : k = 9
  · subst h; simp
  · simp [h]
theorem zYm_g18 : (zYm Q Z y).2 165 18 = Z 165 18 := by simp [zYm, va_up_self, zYr]
theorem zYm_gf {k : Nat} : (zYm Q (va_up Z 170 F) y).2 170 k = F k := by simp [zYm, va_up]
theorem zYm_pf {i : Nat} {x : Int32} : (((zYm Q (va_up Z 170 F) y).1, zsu (zYm Q (va_up Z 170 F) y).2 170 i x) : zMem) = zYm Q (va_up Z 170 (upd F i x)) y := by
  unfold zYm
  dsimp only
  rw [zsu_other (by decide), zsu_focus, va_up_ne _ _ (by decide), va_up_ne _ _ (by decide)]
theorem zYm_of {c s : Nat} (hc : Z 165 12 = nI c) (hs : Z 165 13 = nI s) : ((Q, Z) : zMem) = zYm Q Z (c, s, Z 165 14, Z 165 15, Z 165 16, Z 165 17) := by
  unfold zYm
  rw [zup_at]
  funext k
  unfold zYr
  split
  · rename_i h; subst h; exact hc
  · split
    · rename_i h; subst h; exact hs
    · split
      · rename_i h; subst h; rfl
      · split
        · rename_i h; subst h; rfl
        · split
          · rename_i h; subst h; rfl
          · split
            · rename_i h; subst h; rfl
            · rfl
theorem zu_ne {f : zF} {i k : Nat} {x : Int32} (h : k ≠ i) : upd f i x k = f k := if_neg h
theorem zBd_f {k : Int32} (h : ¬ y.2.2.2.2.1 = 0) : zBd k y = y := if_neg h
theorem zMu_f {b : Bool} (h : ¬ y.2.2.2.2.1 = 0) : zMu B L b y = y := by
  have e : (if b then y else zBd (nI 1) y) = y := by
    split
    · rfl
    · exact zBd_f h
  unfold zMu
  rw [e, if_neg h]
theorem zNu_f {lo hi : Int32} (h : ¬ y.2.2.2.2.1 = 0) : (zNu B L lo hi y).2 = y := by
  have e1 : zNu1 y = y := if_neg (fun z => h z.1)
  have e2 : zNu2 lo hi y = y := if_neg (fun z => h z.1)
  show zMu B L true (zNu2 lo hi (zNu1 y)) = y
  rw [e1, e2]
  exact zMu_f h
theorem zSg_f {c : Int32} (h : ¬ y.2.2.2.2.1 = 0) : zSg B L c y = y := zMu_f h
def zFa (y : zY) : zY := if y.2.2.2.2.1 = 0 ∧ ¬ y.2.2.1 = nI 1 then zBd (nI 1) y else y
def zr1 (n : Nat) (y : zY) : zY := if n = 6 then zBd (nI 3) y else y
def zrA (B : zF) (L n : Nat) (y : zY) : Int32 × zY := zNu B L (nI 0) (nI 9) (zMu B L true (zr1 n y))
def zrBb (B : zF) (L n : Nat) (y : zY) : Int32 × zY := zNu B L (nI 0) (nI 9) (zSg B L (nI 44) (zrA B L n y).2)
def zrC (B : zF) (L n : Nat) (y : zY) : Int32 × zY := zNu B L (nI 1) (nI 9) (zSg B L (nI 44) (zrBb B L n y).2)
def zrE (B : zF) (L n : Nat) (y : zY) : zY := zSg B L (nI 59) (zrC B L n y).2
def zrF (B : zF) (L n : Nat) (F : zF) (y : zY) : zF := upd (upd (upd (upd (upd (upd F (6 + 5 * n) (zkb y.2.2.2.1)) (6 + 5 * n + 1) (zrA B L n y).1) (6 + 5 * n + 2) (zrBb B L n y).1) (6 + 5 * n + 3) (zrC B L n y).1) (6 + 5 * n + 4) (nI 0)) 0 (nI (n + 1))
theorem zrE_6 (h : n = 6) (hy : y.2.2.2.2.1 = 0) : ¬ (zrE B L n y).2.2.2.2.1 = 0 := by
  have e1 : zr1 n y = (y.1, y.2.1, y.2.2.1, y.2.2.2.1, nI 3, nI y.2.1) := (if_pos h).trans (if_pos hy)
  have h1 : ¬ (zr1 n y).2.2.2.2.1 = 0 := by rw [e1]; show ¬ nI 3 = 0; decide
  have e2 : (zrA B L n y).2 = zr1 n y := by unfold zrA; rw [zMu_f h1, zNu_f h1]
  have e3 : (zrBb B L n y).2 = zr1 n y := by unfold zrBb; rw [e2, zSg_f h1, zNu_f h1]
  have e4 : (zrC B L n y).2 = zr1 n y := by unfold zrC; rw [e3, zSg_f h1, zNu_f h1]
  unfold zrE
  rw [e4, zSg_f h1]
  exact h1
theorem zr1_le (h : y.1 ≤ L) : (zr1 n y).1 ≤ L := by
  unfold zr1
  split
  · rw [zBd_1]; exact h
  · exact h
theorem zrA_le (h : y.1 ≤ L) : (zrA B L n y).2.1 ≤ L := zNu_le (zMu_le (zr1_le h))
theorem zrBb_le (h : y.1 ≤ L) : (zrBb B L n y).2.1 ≤ L := zNu_le (zSg_le (zrA_le h))
theorem zrC_le (h : y.1 ≤ L) : (zrC B L n y).2.1 ≤ L := zNu_le (zSg_le (zrBb_le h))
theorem zrE_le (h : y.1 ≤ L) : (zrE B L n y).1 ≤ L := zSg_le (zrC_le h)
def zRp (B : zF) (L n : Nat) (F : zF) (y : zY) : zF × zY := if (zrE B L n y).2.2.2.2.1 = 0 then (zrF B L n F y, zrE B L n y) else (F, zrE B L n y)
set_option maxHeartbeats 400000 in
set_option maxRecDepth 100000 in
theorem t_X7_failed : zG E zm_X7_failed 1 (some (.int (zb (¬ y.2.2.2.2.1 ≤ 0)))) (zYm Q (zsu (zsu Z 165 11 (nI 0)) 165 18 (if y.2.2.2.2.1 ≤ 0 then Z 165 18 else y.2.2.2.2.1)) y) 20 [some (.ref (zad E 165))] [] (zYm Q Z y) := by

  refine zi_aload0 (n := 21) dX7_failed_20 rfl ?_
  refine zi_iconst (n := 22) (nI 0) dX7_failed_21 rfl (by decide) ?_
  refine zp_X7_11 (n := 25) dX7_failed_22 rfl zl_X7_71 zYm_p11 ?_
  refine zi_aload0 (n := 26) dX7_failed_25 rfl ?_
  refine zi_aload0 (n := 27) dX7_failed_26 rfl ?_
  refine zg_X7_16 (n := 30) dX7_failed_27 rfl zl_X7_75 zYm_g16 ?_
  refine zi_ifle (n := 33) (tgt := 40) dX7_failed_30 rfl (by decide) (fun h30 => ?_) (fun h30 => ?_)
  · rw [if_pos h30]
    refine zi_aload0 (n := 41) dX7_failed_40 rfl ?_
    refine zg_X7_18 (n := 44) dX7_failed_41 rfl zl_X7_113 (zYm_g18.trans rfl) ?_
    refine zp_X7_18 (n := 47) dX7_failed_44 rfl zl_X7_113 zYm_p18 ?_
    refine zi_aload0 (n := 48) dX7_failed_47 rfl ?_
    refine zg_X7_16 (n := 51) dX7_failed_48 rfl zl_X7_75 zYm_g16 ?_
    refine zi_ifle (n := 54) (tgt := 58) dX7_failed_51 rfl (by decide) (fun h51 => ?_) (fun h51 => ?_)
    · refine zi_iconst (n := 59) (nI 0) dX7_failed_58 rfl (by decide) ?_
      exact zi_zretF dX7_failed_59 rfl (by exact fun q => q h51) rfl (by rfl)
    · refine zi_iconst (n := 55) (nI 1) dX7_failed_54 rfl (by decide) ?_
      refine zi_goto (tgt := 59) dX7_failed_55 (by decide) ?_
      exact zi_zretT dX7_failed_59 rfl (by exact h51) rfl (by rfl)
  · rw [if_neg h30]
    refine zi_aload0 (n := 34) dX7_failed_33 rfl ?_
    refine zg_X7_16 (n := 37) dX7_failed_34 rfl zl_X7_75 zYm_g16 ?_
    refine zi_goto (tgt := 44) dX7_failed_37 (by decide) ?_
    refine zp_X7_18 (n := 47) dX7_failed_44 rfl zl_X7_113 zYm_p18 ?_
    refine zi_aload0 (n := 48) dX7_failed_47 rfl ?_
    refine zg_X7_16 (n := 51) dX7_failed_48 rfl zl_X7_75 zYm_g16 ?_
    refine zi_ifle (n := 54) (tgt := 58) dX7_failed_51 rfl (by decide) (fun h51 => ?_) (fun h51 => ?_)
    · refine zi_iconst (n := 59) (nI 0) dX7_failed_58 rfl (by decide) ?_
      exact zi_zretF dX7_failed_59 rfl (by exact fun q => q h51) rfl (by rfl)
    · refine zi_iconst (n := 55) (nI 1) dX7_failed_54 rfl (by decide) ?_
      refine zi_goto (tgt := 59) dX7_failed_55 (by decide) ?_
      exact zi_zretT dX7_failed_59 rfl (by exact h51) rfl (by rfl)
set_option maxHeartbeats 400000 in
set_option maxRecDepth 100000 in
theorem c_X7_failed : zCT E 1 zm_X7_failed [.ref (zad E 165)] (zYm Q Z y) (some (.int (zb (¬ (zFa y).2.2.2.2.1 ≤ 0)))) (zYm Q (zsu (zsu Z 165 11 (nI 0)) 165 18 (if (zFa y).2.2.2.2.1 ≤ 0 then Z 165 18 else (zFa y).2.2.2.2.1)) (zFa y)) := by
  refine zCT.of (by decide +kernel) (Nat.le_of_ble_eq_true rfl) ?_
  refine zi_aload0 (n := 1) dX7_failed_0 rfl ?_
  refine zg_X7_16 (n := 4) dX7_failed_1 rfl zl_X7_75 zYm_g16 ?_
  refine zi_ifne (n := 7) (tgt := 20) dX7_failed_4 rfl (by decide) (fun h4 => ?_) (fun h4 => ?_)
  · have e2 : zFa y = y := if_neg (fun z => h4 z.1)
    rw [e2]
    exact t_X7_failed
  · refine zi_aload0 (n := 8) dX7_failed_7 rfl ?_
    refine zg_X7_14 (n := 11) dX7_failed_8 rfl zl_X7_99 zYm_g14 ?_
    refine zi_iconst (n := 12) (nI 1) dX7_failed_11 rfl (by decide) ?_
    refine zi_iceq (n := 15) (tgt := 20) dX7_failed_12 rfl (by decide) (fun h12 => ?_) (fun h12 => ?_)
    · have e2 : zFa y = y := if_neg (fun z => z.2 h12)
      rw [e2]
      exact t_X7_failed
    · have e2 : zFa y = zBd (nI 1) y := if_pos ⟨h4, h12⟩
      refine zi_aload0 (n := 16) dX7_failed_15 rfl ?_
      refine zi_iconst (n := 17) (nI 1) dX7_failed_16 rfl (by decide) ?_
      refine zi_V1v (mj := zm_X7_bad) (n := 20) dX7_failed_17 rfl zl_X7_102 zy_X7_bad (zrc_X7 _ _) (by decide) (Nat.le_of_ble_eq_true rfl) (c_X7_bad) ?_
      rw [e2]
      exact t_X7_failed
set_option maxHeartbeats 400000 in
set_option maxRecDepth 100000 in
theorem t_X7_readPaper (hL : Z 165 11 = nI L) (hB : Z 173 = B) (h90 : L ≤ 90) (hy : y.1 ≤ L) (hn : F 0 = nI n) (h6 : n ≤ 6) (h0 : y.2.2.2.2.1 = 0) : zG E zm_X7_readPaper 4 none (zYm Q (va_up Z 170 (zRp B L n F y).1) (zRp B L n F y).2) 24 [some (.ref (zad E 165)), some (.int (zkb y.2.2.2.1)), none, none, none, none] [] (zYm Q (va_up Z 170 F) (zr1 n y)) := by

  refine zi_aload0 (n := 25) dX7_readPaper_24 rfl ?_
  refine zi_iconst (n := 26) (nI 1) dX7_readPaper_25 rfl (by decide) ?_
  refine zi_V1v (mj := zm_X7_must) (n := 29) dX7_readPaper_26 rfl zl_X7_109 zy_X7_must (zrc_X7 _ _) (by decide) (Nat.le_of_ble_eq_true rfl) (c_must_1 (Z := va_up Z 170 F) hL hB h90 (zr1_le hy)) ?_
  refine zi_aload0 (n := 30) dX7_readPaper_29 rfl ?_
  refine zi_iconst (n := 31) (nI 0) dX7_readPaper_30 rfl (by decide) ?_
  refine zi_bipush (n := 33) (nI 9) dX7_readPaper_31 rfl (by decide) ?_
  refine zi_V2s (mj := zm_X7_number) (n := 36) dX7_readPaper_33 rfl zl_X7_119 zy_X7_number (zrc_X7 _ _) (by decide) (Nat.le_of_ble_eq_true rfl) (c_X7_number (Z := va_up Z 170 F) hL hB h90 (zMu_le (zr1_le hy))) ?_
  change zG _ _ _ _ _ _ _ (.int (zrA B L n y).1 :: _) (zYm Q (va_up Z 170 F) (zrA B L n y).2)
  refine zi_istore2 (n := 37) dX7_readPaper_36 rfl (by decide) rfl ?_
  refine zi_aload0 (n := 38) dX7_readPaper_37 rfl ?_
  refine zi_bipush (n := 40) (nI 44) dX7_readPaper_38 rfl (by decide) ?_
  refine zi_V1v (mj := zm_X7_mustSign) (n := 43) dX7_readPaper_40 rfl zl_X7_123 zy_X7_mustSign (zrc_X7 _ _) (by decide) (Nat.le_of_ble_eq_true rfl) (c_X7_mustSign (Z := va_up Z 170 F) hL hB h90 (zrA_le hy)) ?_
  refine zi_aload0 (n := 44) dX7_readPaper_43 rfl ?_
  refine zi_iconst (n := 45) (nI 0) dX7_readPaper_44 rfl (by decide) ?_
  refine zi_bipush (n := 47) (nI 9) dX7_readPaper_45 rfl (by decide) ?_
  refine zi_V2s (mj := zm_X7_number) (n := 50) dX7_readPaper_47 rfl zl_X7_119 zy_X7_number (zrc_X7 _ _) (by decide) (Nat.le_of_ble_eq_true rfl) (c_X7_number (Z := va_up Z 170 F) hL hB h90 (zSg_le (zrA_le hy))) ?_
  change zG _ _ _ _ _ _ _ (.int (zrBb B L n y).1 :: _) (zYm Q (va_up Z 170 F) (zrBb B L n y).2)
  refine zi_istore3 (n := 51) dX7_readPaper_50 rfl (by decide) rfl ?_
  refine zi_aload0 (n := 52) dX7_readPaper_51 rfl ?_
  refine zi_bipush (n := 54) (nI 44) dX7_readPaper_52 rfl (by decide) ?_
  refine zi_V1v (mj := zm_X7_mustSign) (n := 57) dX7_readPaper_54 rfl zl_X7_123 zy_X7_mustSign (zrc_X7 _ _) (by decide) (Nat.le_of_ble_eq_true rfl) (c_X7_mustSign (Z := va_up Z 170 F) hL hB h90 (zrBb_le hy)) ?_
  refine zi_aload0 (n := 58) dX7_readPaper_57 rfl ?_
  refine zi_iconst (n := 59) (nI 1) dX7_readPaper_58 rfl (by decide) ?_
  refine zi_bipush (n := 61) (nI 9) dX7_readPaper_59 rfl (by decide) ?_
  refine zi_V2s (mj := zm_X7_number) (n := 64) dX7_readPaper_61 rfl zl_X7_119 zy_X7_number (zrc_X7 _ _) (by decide) (Nat.le_of_ble_eq_true rfl) (c_X7_number (Z := va_up Z 170 F) hL hB h90 (zSg_le (zrBb_le hy))) ?_
  change zG _ _ _ _ _ _ _ (.int (zrC B L n y).1 :: _) (zYm Q (va_up Z 170 F) (zrC B L n y).2)
  refine zi_istore4 (n := 66) dX7_readPaper_64 rfl (by decide) rfl ?_
  refine zi_aload0 (n := 67) dX7_readPaper_66 rfl ?_
  refine zi_bipush (n := 69) (nI 59) dX7_readPaper_67 rfl (by decide) ?_
  refine zi_V1v (mj := zm_X7_mustSign) (n := 72) dX7_readPaper_69 rfl zl_X7_123 zy_X7_mustSign (zrc_X7 _ _) (by decide) (Nat.le_of_ble_eq_true rfl) (c_X7_mustSign (Z := va_up Z 170 F) hL hB h90 (zrC_le hy)) ?_
  change zG _ _ _ _ _ _ _ _ (zYm Q (va_up Z 170 F) (zrE B L n y))
  refine zi_aload0 (n := 73) dX7_readPaper_72 rfl ?_
  refine zg_X7_16 (n := 76) dX7_readPaper_73 rfl zl_X7_75 zYm_g16 ?_
  refine zi_ifne (n := 79) (tgt := 151) dX7_readPaper_76 rfl (by decide) (fun h76 => ?_) (fun h76 => ?_)
  · have ez : zRp B L n F y = (F, zrE B L n y) := by unfold zRp; rw [if_neg h76]
    rw [ez]
    dsimp only
    exact zi_vret dX7_readPaper_151 rfl (by rfl) (by rfl)
  · have ez : zRp B L n F y = (zrF B L n F y, zrE B L n y) := by unfold zRp; rw [if_pos h76]
    rw [ez]
    dsimp only
    unfold zrF
    have e6 : n < 6 := by
      rcases Nat.lt_or_ge n 6 with q | q
      · exact q
      · exact absurd h76 (zrE_6 (by omega) h0)
    refine zi_bipush (n := 81) (nI 6) dX7_readPaper_79 rfl (by decide) ?_
    refine zi_iconst (n := 82) (nI 5) dX7_readPaper_81 rfl (by decide) ?_
    refine zi_aload0 (n := 83) dX7_readPaper_82 rfl ?_
    refine zg_X7_6 (n := 86) dX7_readPaper_83 rfl zl_X7_22 ?_
    refine zi_iconst (n := 87) (nI 0) dX7_readPaper_86 rfl (by decide) ?_
    refine zi_oald (N := 36) (i := 0) (n := 88) dX7_readPaper_87 rfl (by decide) (fun _ => rfl) (by decide) rfl (by omega) (zYm_gf.trans hn) ?_
    refine zi_imul (n := 89) dX7_readPaper_88 rfl ?_
    rw [pk_mul]
    refine zi_iadd (n := 90) dX7_readPaper_89 rfl ?_
    rw [nI_add]
    refine zi_istore5 (n := 92) dX7_readPaper_90 rfl (by decide) rfl ?_
    refine zi_aload0 (n := 93) dX7_readPaper_92 rfl ?_
    refine zg_X7_6 (n := 96) dX7_readPaper_93 rfl zl_X7_22 ?_
    refine zi_iload5 (n := 98) dX7_readPaper_96 rfl ?_
    refine zi_iload1 (n := 99) dX7_readPaper_98 rfl ?_
    refine zi_oast (N := 36) (i := 6 + 5 * n) (n := 100) dX7_readPaper_99 rfl (by decide) (fun _ => rfl) (by decide) rfl (by omega) zYm_pf ?_
    refine zi_aload0 (n := 101) dX7_readPaper_100 rfl ?_
    refine zg_X7_6 (n := 104) dX7_readPaper_101 rfl zl_X7_22 ?_
    refine zi_iload5 (n := 106) dX7_readPaper_104 rfl ?_
    refine zi_iconst (n := 107) (nI 1) dX7_readPaper_106 rfl (by decide) ?_
    refine zi_iadd (n := 108) dX7_readPaper_107 rfl ?_
    rw [nI_add]
    refine zi_iload2 (n := 109) dX7_readPaper_108 rfl ?_
    refine zi_oast (N := 36) (i := 6 + 5 * n + 1) (n := 110) dX7_readPaper_109 rfl (by decide) (fun _ => rfl) (by decide) rfl (by omega) zYm_pf ?_
    refine zi_aload0 (n := 111) dX7_readPaper_110 rfl ?_
    refine zg_X7_6 (n := 114) dX7_readPaper_111 rfl zl_X7_22 ?_
    refine zi_iload5 (n := 116) dX7_readPaper_114 rfl ?_
    refine zi_iconst (n := 117) (nI 2) dX7_readPaper_116 rfl (by decide) ?_
    refine zi_iadd (n := 118) dX7_readPaper_117 rfl ?_
    rw [nI_add]
    refine zi_iload3 (n := 119) dX7_readPaper_118 rfl ?_
    refine zi_oast (N := 36) (i := 6 + 5 * n + 2) (n := 120) dX7_readPaper_119 rfl (by decide) (fun _ => rfl) (by decide) rfl (by omega) zYm_pf ?_
    refine zi_aload0 (n := 121) dX7_readPaper_120 rfl ?_
    refine zg_X7_6 (n := 124) dX7_readPaper_121 rfl zl_X7_22 ?_
    refine zi_iload5 (n := 126) dX7_readPaper_124 rfl ?_
    refine zi_iconst (n := 127) (nI 3) dX7_readPaper_126 rfl (by decide) ?_
    refine zi_iadd (n := 128) dX7_readPaper_127 rfl ?_
    rw [nI_add]
    refine zi_iload4 (n := 130) dX7_readPaper_128 rfl ?_
    refine zi_oast (N := 36) (i := 6 + 5 * n + 3) (n := 131) dX7_readPaper_130 rfl (by decide) (fun _ => rfl) (by decide) rfl (by omega) zYm_pf ?_
    refine zi_aload0 (n := 132) dX7_readPaper_131 rfl ?_
    refine zg_X7_6 (n := 135) dX7_readPaper_132 rfl zl_X7_22 ?_
    refine zi_iload5 (n := 137) dX7_readPaper_135 rfl ?_
    refine zi_iconst (n := 138) (nI 4) dX7_readPaper_137 rfl (by decide) ?_
    refine zi_iadd (n := 139) dX7_readPaper_138 rfl ?_
    rw [nI_add]
    refine zi_iconst (n := 140) (nI 0) dX7_readPaper_139 rfl (by decide) ?_
    refine zi_oast (N := 36) (i := 6 + 5 * n + 4) (n := 141) dX7_readPaper_140 rfl (by decide) (fun _ => rfl) (by decide) rfl (by omega) zYm_pf ?_
    refine zi_aload0 (n := 142) dX7_readPaper_141 rfl ?_
    refine zg_X7_6 (n := 145) dX7_readPaper_142 rfl zl_X7_22 ?_
    refine zi_iconst (n := 146) (nI 0) dX7_readPaper_145 rfl (by decide) ?_
    refine zi_dup2 (n := 147) dX7_readPaper_146 rfl rfl rfl ?_
    refine zi_oald (N := 36) (i := 0) (n := 148) dX7_readPaper_147 rfl (by decide) (fun _ => rfl) (by decide) rfl (by decide) (zYm_gf.trans ((zu_ne (by omega)).trans ((zu_ne (by omega)).trans ((zu_ne (by omega)).trans ((zu_ne (by omega)).trans ((zu_ne (by omega)).trans hn)))))) ?_
    refine zi_iconst (n := 149) (nI 1) dX7_readPaper_148 rfl (by decide) ?_
    refine zi_iadd (n := 150) dX7_readPaper_149 rfl ?_
    rw [nI_add]
    refine zi_oast (N := 36) (i := 0) (n := 151) dX7_readPaper_150 rfl (by decide) (fun _ => rfl) (by decide) rfl (by decide) zYm_pf ?_
    exact zi_vret dX7_readPaper_151 rfl (by rfl) (by rfl)
set_option maxHeartbeats 400000 in
set_option maxRecDepth 100000 in
theorem c_X7_readPaper (hL : Z 165 11 = nI L) (hB : Z 173 = B) (h90 : L ≤ 90) (hy : y.1 ≤ L) (hn : F 0 = nI n) (h6 : n ≤ 6) (h0 : y.2.2.2.2.1 = 0) : zCT E 4 zm_X7_readPaper [.ref (zad E 165)] (zYm Q (va_up Z 170 F) y) none (zYm Q (va_up Z 170 (zRp B L n F y).1) (zRp B L n F y).2) := by
  refine zCT.of (by decide +kernel) (Nat.le_of_ble_eq_true rfl) ?_
  refine zi_aload0 (n := 1) dX7_readPaper_0 rfl ?_
  refine zg_X7_15 (n := 4) dX7_readPaper_1 rfl zl_X7_88 zYm_g15 ?_
  refine zi_S1s (mj := zm_X7_kindBy) (n := 7) dX7_readPaper_4 rfl zl_X7_116 zy_X7_kindBy (by decide) (Nat.le_of_ble_eq_true rfl) (c_X7_kindBy) ?_
  refine zi_istore1 (n := 8) dX7_readPaper_7 rfl (by decide) rfl ?_
  refine zi_aload0 (n := 9) dX7_readPaper_8 rfl ?_
  refine zg_X7_6 (n := 12) dX7_readPaper_9 rfl zl_X7_22 ?_
  refine zi_iconst (n := 13) (nI 0) dX7_readPaper_12 rfl (by decide) ?_
  refine zi_oald (N := 36) (i := 0) (n := 14) dX7_readPaper_13 rfl (by decide) (fun _ => rfl) (by decide) rfl (by decide) (zYm_gf.trans hn) ?_
  refine zi_bipush (n := 16) (nI 6) dX7_readPaper_14 rfl (by decide) ?_
  refine zi_icne (n := 19) (tgt := 24) dX7_readPaper_16 rfl (by decide) (fun h16 => ?_) (fun h16 => ?_)
  · have e1 : zr1 n y = y := if_neg (fun z => h16 (by rw [z]))
    have g := t_X7_readPaper (E := E) (Q := Q) (Z := Z) (F := F) hL hB h90 hy hn h6 h0
    rw [e1] at g
    exact g
  · have e1 : zr1 n y = zBd (nI 3) y := if_pos ((nI_eq (by omega) (by omega)).mp h16)
    refine zi_aload0 (n := 20) dX7_readPaper_19 rfl ?_
    refine zi_iconst (n := 21) (nI 3) dX7_readPaper_20 rfl (by decide) ?_
    refine zi_V1v (mj := zm_X7_bad) (n := 24) dX7_readPaper_21 rfl zl_X7_102 zy_X7_bad (zrc_X7 _ _) (by decide) (Nat.le_of_ble_eq_true rfl) (c_X7_bad) ?_
    have g := t_X7_readPaper (E := E) (Q := Q) (Z := Z) (F := F) hL hB h90 hy hn h6 h0
    rw [e1] at g
    exact g
end ZMb
