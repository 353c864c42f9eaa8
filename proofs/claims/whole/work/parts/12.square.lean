section ZX4c
variable {E : zE} {Q : Nat → Nat → Nat → Int32} {Z : Nat → Nat → Int32} {j : Nat} {S : zS} {n : Nat}
theorem loserC_lt {S : zS} {n p : Nat} (hp : p < n) : loserC S n p < n := by
  unfold loserC
  split
  · exact zlend_lt hp _
  · exact hp
set_option maxHeartbeats 4000000 in
set_option maxRecDepth 100000 in
theorem t_X4_bite (hj : j < 29) {p l : Nat} (hl : l < 6) {x : Option Value} : zG E zm_X4_bite 1 none (va_up Q j (bite4C (bite3C (bite2C S l))), Z) 68 [some (.ref (zad E (zsq j))), x, some (.int (nI l))] [] (va_up Q j S, Z) := by
  refine zi_aload0 (n := 69) dX4_bite_68 rfl ?_
  refine zg_X4_12 (n := 72) dX4_bite_69 rfl zl_X4_26 (by omega) ?_
  refine zi_iload2 (n := 73) dX4_bite_72 rfl ?_
  refine zi_dup2 (n := 74) dX4_bite_73 rfl rfl rfl ?_
  refine zi_qald (n := 75) dX4_bite_74 rfl (by omega) (by decide) rfl (by omega) (zfs _ _ _ _ _ _) ?_
  refine zi_aload0 (n := 76) dX4_bite_75 rfl ?_
  refine zg_X4_8 (n := 79) dX4_bite_76 rfl zl_X4_73 (by omega) (zfs _ _ _ _ _ _) ?_
  refine zi_isub (n := 80) dX4_bite_79 rfl ?_
  refine zi_qast (n := 81) dX4_bite_80 rfl (by omega) (by decide) rfl (by omega) (zfp _ _ _ _ _ _ _) ?_
  refine zi_aload0 (n := 82) dX4_bite_81 rfl ?_
  refine zi_dup (n := 83) dX4_bite_82 rfl rfl ?_
  refine zg_X4_5 (n := 86) dX4_bite_83 rfl zl_X4_44 (by omega) (zfs _ _ _ _ _ _) ?_
  refine zi_aload0 (n := 87) dX4_bite_86 rfl ?_
  refine zg_X4_8 (n := 90) dX4_bite_87 rfl zl_X4_73 (by omega) (zfs _ _ _ _ _ _) ?_
  refine zi_iadd (n := 91) dX4_bite_90 rfl ?_
  refine zp_X4_5 (n := 94) dX4_bite_91 rfl zl_X4_44 (by omega) (zfp _ _ _ _ _ _ _) ?_
  refine zi_aload0 (n := 95) dX4_bite_94 rfl ?_
  refine zi_iconst (n := 96) (nI 0) dX4_bite_95 rfl (by decide) ?_
  refine zi_aload0 (n := 97) dX4_bite_96 rfl ?_
  refine zg_X4_8 (n := 100) dX4_bite_97 rfl zl_X4_73 (by omega) (zfs _ _ _ _ _ _) ?_
  refine zi_iconst (n := 101) (nI 5) dX4_bite_100 rfl (by decide) ?_
  refine zi_isub (n := 102) dX4_bite_101 rfl ?_
  refine zi_S2s (mj := zm_J9_max_7cf53) (n := 105) dX4_bite_102 rfl zl_X4_102 zy_J9_max_7cf53 (by decide) (Nat.le_of_ble_eq_true rfl) (c_J9_max_7cf53) ?_
  refine zp_X4_3 (n := 108) dX4_bite_105 rfl zl_X4_38 (by omega) (zfp _ _ _ _ _ _ _) ?_
  exact zi_vret dX4_bite_108 rfl (by rfl) (by rfl)
set_option maxHeartbeats 4000000 in
set_option maxRecDepth 100000 in
theorem c_X4_bite (hj : j < 29) (hn : S 0 0 = nI n) (h6 : n ≤ 6) {p : Nat} (hp : p < n) : zCT E 1 zm_X4_bite [.ref (zad E (zsq j)), .int (nI p)] (va_up Q j S, Z) none (va_up Q j (biteC S n p), Z) := by
  refine zCT.of (by decide +kernel) (Nat.le_of_ble_eq_true rfl) ?_
  have hlz := loserC_lt (S := S) hp
  refine zi_aload0 (n := 1) dX4_bite_0 rfl ?_
  refine zg_X4_9 (n := 4) dX4_bite_1 rfl zl_X4_16 (by omega) ?_
  refine zi_iload1 (n := 5) dX4_bite_4 rfl ?_
  refine zi_qald (n := 6) dX4_bite_5 rfl (by omega) (by decide) rfl (by omega) (zfs _ _ _ _ _ _) ?_
  refine zi_iconst (n := 7) (nI 3) dX4_bite_6 rfl (by decide) ?_
  refine zi_icne (n := 10) (tgt := 18) dX4_bite_7 rfl (by decide) (fun h7 => ?_) (fun h7 => ?_)
  · have hlo : loserC S n p = p := if_neg h7
    refine zi_iload1 (n := 19) dX4_bite_18 rfl ?_
    refine zi_istore2 (n := 20) dX4_bite_19 rfl (by decide) rfl ?_
    refine zi_aload0 (n := 21) dX4_bite_20 rfl ?_
    refine zi_iload1 (n := 22) dX4_bite_21 rfl ?_
    refine zi_V1s (mj := zm_X4_isSpatOut) (n := 25) dX4_bite_22 rfl zl_X4_93 zy_X4_isSpatOut (zrc_sq _ _ (by omega)) (by decide) (Nat.le_of_ble_eq_true rfl) (c_X4_isSpatOut hj (by omega)) ?_
    refine zi_ifeq_b (n := 28) (tgt := 50) dX4_bite_25 rfl (by decide) (fun h25 => ?_) (fun h25 => ?_)
    · refine zi_aload0 (n := 51) dX4_bite_50 rfl ?_
      refine zi_aload0 (n := 52) dX4_bite_51 rfl ?_
      refine zi_iload1 (n := 53) dX4_bite_52 rfl ?_
      refine zi_V1s (mj := zm_X4_biteOf) (n := 56) dX4_bite_53 rfl zl_X4_99 zy_X4_biteOf (zrc_sq _ _ (by omega)) (by decide) (Nat.le_of_ble_eq_true rfl) (c_X4_biteOf hj (by omega)) ?_
      refine zi_aload0 (n := 57) dX4_bite_56 rfl ?_
      refine zg_X4_12 (n := 60) dX4_bite_57 rfl zl_X4_26 (by omega) ?_
      refine zi_iload2 (n := 61) dX4_bite_60 rfl ?_
      refine zi_qald (n := 62) dX4_bite_61 rfl (by omega) (by decide) rfl (by omega) (zfs _ _ _ _ _ _) ?_
      refine zi_S2s (mj := zm_J9_min_7cf53) (n := 65) dX4_bite_62 rfl zl_X4_96 zy_J9_min_7cf53 (by decide) (Nat.le_of_ble_eq_true rfl) (c_J9_min_7cf53) ?_
      refine zp_X4_8 (n := 68) dX4_bite_65 rfl zl_X4_73 (by omega) (zfp _ _ _ _ _ _ _) ?_
      simp only [biteC, bite1C, hlo, h25, if_true, if_false, Bool.false_eq_true]
      exact t_X4_bite (p := p) hj (by omega)
    · refine zi_aload0 (n := 29) dX4_bite_28 rfl ?_
      refine zg_X4_10 (n := 32) dX4_bite_29 rfl zl_X4_20 (by omega) ?_
      refine zi_iload1 (n := 33) dX4_bite_32 rfl ?_
      refine zi_aload0 (n := 34) dX4_bite_33 rfl ?_
      refine zg_X4_10 (n := 37) dX4_bite_34 rfl zl_X4_20 (by omega) ?_
      refine zi_iload1 (n := 38) dX4_bite_37 rfl ?_
      refine zi_qald (n := 39) dX4_bite_38 rfl (by omega) (by decide) rfl (by omega) (zfs _ _ _ _ _ _) ?_
      refine zi_iconst (n := 40) (nI 1) dX4_bite_39 rfl (by decide) ?_
      refine zi_iadd (n := 41) dX4_bite_40 rfl ?_
      refine zi_bipush (n := 43) (nI 9) dX4_bite_41 rfl (by decide) ?_
      refine zi_S2s (mj := zm_J9_min_7cf53) (n := 46) dX4_bite_43 rfl zl_X4_96 zy_J9_min_7cf53 (by decide) (Nat.le_of_ble_eq_true rfl) (c_J9_min_7cf53) ?_
      refine zi_qast (n := 47) dX4_bite_46 rfl (by omega) (by decide) rfl (by omega) (zfp _ _ _ _ _ _ _) ?_
      refine zi_goto (tgt := 68) dX4_bite_47 (by decide) ?_
      simp only [biteC, bite1C, hlo, h25, if_true, if_false, Bool.false_eq_true]
      exact t_X4_bite (p := p) hj (by omega)
  · have hlo : loserC S n p = zlend (S 4) n p (n - 1) := if_pos h7
    rw [hlo] at hlz
    refine zi_aload0 (n := 11) dX4_bite_10 rfl ?_
    refine zi_iload1 (n := 12) dX4_bite_11 rfl ?_
    refine zi_V1s (mj := zm_X4_lenderOf) (n := 15) dX4_bite_12 rfl zl_X4_90 zy_X4_lenderOf (zrc_sq _ _ (by omega)) (by decide) (Nat.le_of_ble_eq_true rfl) (c_X4_lenderOf hj hn h6 hp) ?_
    refine zi_goto (tgt := 19) dX4_bite_15 (by decide) ?_
    refine zi_istore2 (n := 20) dX4_bite_19 rfl (by decide) rfl ?_
    refine zi_aload0 (n := 21) dX4_bite_20 rfl ?_
    refine zi_iload1 (n := 22) dX4_bite_21 rfl ?_
    refine zi_V1s (mj := zm_X4_isSpatOut) (n := 25) dX4_bite_22 rfl zl_X4_93 zy_X4_isSpatOut (zrc_sq _ _ (by omega)) (by decide) (Nat.le_of_ble_eq_true rfl) (c_X4_isSpatOut hj (by omega)) ?_
    refine zi_ifeq_b (n := 28) (tgt := 50) dX4_bite_25 rfl (by decide) (fun h25 => ?_) (fun h25 => ?_)
    · refine zi_aload0 (n := 51) dX4_bite_50 rfl ?_
      refine zi_aload0 (n := 52) dX4_bite_51 rfl ?_
      refine zi_iload1 (n := 53) dX4_bite_52 rfl ?_
      refine zi_V1s (mj := zm_X4_biteOf) (n := 56) dX4_bite_53 rfl zl_X4_99 zy_X4_biteOf (zrc_sq _ _ (by omega)) (by decide) (Nat.le_of_ble_eq_true rfl) (c_X4_biteOf hj (by omega)) ?_
      refine zi_aload0 (n := 57) dX4_bite_56 rfl ?_
      refine zg_X4_12 (n := 60) dX4_bite_57 rfl zl_X4_26 (by omega) ?_
      refine zi_iload2 (n := 61) dX4_bite_60 rfl ?_
      refine zi_qald (n := 62) dX4_bite_61 rfl (by omega) (by decide) rfl (by omega) (zfs _ _ _ _ _ _) ?_
      refine zi_S2s (mj := zm_J9_min_7cf53) (n := 65) dX4_bite_62 rfl zl_X4_96 zy_J9_min_7cf53 (by decide) (Nat.le_of_ble_eq_true rfl) (c_J9_min_7cf53) ?_
      refine zp_X4_8 (n := 68) dX4_bite_65 rfl zl_X4_73 (by omega) (zfp _ _ _ _ _ _ _) ?_
      simp only [biteC, bite1C, hlo, h25, if_true, if_false, Bool.false_eq_true]
      exact t_X4_bite (p := p) hj (by omega)
    · refine zi_aload0 (n := 29) dX4_bite_28 rfl ?_
      refine zg_X4_10 (n := 32) dX4_bite_29 rfl zl_X4_20 (by omega) ?_
      refine zi_iload1 (n := 33) dX4_bite_32 rfl ?_
      refine zi_aload0 (n := 34) dX4_bite_33 rfl ?_
      refine zg_X4_10 (n := 37) dX4_bite_34 rfl zl_X4_20 (by omega) ?_
      refine zi_iload1 (n := 38) dX4_bite_37 rfl ?_
      refine zi_qald (n := 39) dX4_bite_38 rfl (by omega) (by decide) rfl (by omega) (zfs _ _ _ _ _ _) ?_
      refine zi_iconst (n := 40) (nI 1) dX4_bite_39 rfl (by decide) ?_
      refine zi_iadd (n := 41) dX4_bite_40 rfl ?_
      refine zi_bipush (n := 43) (nI 9) dX4_bite_41 rfl (by decide) ?_
      refine zi_S2s (mj := zm_J9_min_7cf53) (n := 46) dX4_bite_43 rfl zl_X4_96 zy_J9_min_7cf53 (by decide) (Nat.le_of_ble_eq_true rfl) (c_J9_min_7cf53) ?_
      refine zi_qast (n := 47) dX4_bite_46 rfl (by omega) (by decide) rfl (by omega) (zfp _ _ _ _ _ _ _) ?_
      refine zi_goto (tgt := 68) dX4_bite_47 (by decide) ?_
      simp only [biteC, bite1C, hlo, h25, if_true, if_false, Bool.false_eq_true]
      exact t_X4_bite (p := p) hj (by omega)
theorem noon2C_7 {S : zS} {bo : Option Nat} : noon2C S bo 0 7 = encO bo := by simp [noon2C, zsu_at]
theorem noon2C_3 {S : zS} {bo : Option Nat} : noon2C S bo 0 3 = S 0 3 := by simp [noon2C, zsu_at]
theorem noon2C_0 {S : zS} {bo : Option Nat} : noon2C S bo 0 0 = S 0 0 := by simp [noon2C, zsu_at]
set_option maxHeartbeats 4000000 in
set_option maxRecDepth 100000 in
theorem t_X4_passNoon (hj : j < 29) : zG E zm_X4_passNoon 3 none (va_up Q j (noon5C (noon4C S)), Z) 52 [some (.ref (zad E (zsq j)))] [] (va_up Q j S, Z) := by
  refine zi_aload0 (n := 53) dX4_passNoon_52 rfl ?_
  refine zi_aload0 (n := 54) dX4_passNoon_53 rfl ?_
  refine zg_X4_1 (n := 57) dX4_passNoon_54 rfl zl_X4_32 (by omega) (zfs _ _ _ _ _ _) ?_
  refine zi_aload0 (n := 58) dX4_passNoon_57 rfl ?_
  refine zg_X4_2 (n := 61) dX4_passNoon_58 rfl zl_X4_35 (by omega) (zfs _ _ _ _ _ _) ?_
  refine zi_iadd (n := 62) dX4_passNoon_61 rfl ?_
  refine zi_iconst (n := 63) (nI 1) dX4_passNoon_62 rfl (by decide) ?_
  refine zi_isub (n := 64) dX4_passNoon_63 rfl ?_
  refine zi_bipush (n := 66) (nI 10) dX4_passNoon_64 rfl (by decide) ?_
  refine zi_S2s (mj := zm_J9_floorMod_7cf53) (n := 69) dX4_passNoon_66 rfl zl_X4_83 zy_J9_floorMod_7cf53 (by decide) (Nat.le_of_ble_eq_true rfl) (c_J9_floorMod_7cf53 (by decide)) ?_
  refine zp_X4_1 (n := 72) dX4_passNoon_69 rfl zl_X4_32 (by omega) (zfp _ _ _ _ _ _ _) ?_
  refine zi_aload0 (n := 73) dX4_passNoon_72 rfl ?_
  refine zi_dup (n := 74) dX4_passNoon_73 rfl rfl ?_
  refine zg_X4_4 (n := 77) dX4_passNoon_74 rfl zl_X4_41 (by omega) (zfs _ _ _ _ _ _) ?_
  refine zi_iconst (n := 78) (nI 1) dX4_passNoon_77 rfl (by decide) ?_
  refine zi_iadd (n := 79) dX4_passNoon_78 rfl ?_
  refine zp_X4_4 (n := 82) dX4_passNoon_79 rfl zl_X4_41 (by omega) (zfp _ _ _ _ _ _ _) ?_
  exact zi_vret dX4_passNoon_82 rfl (by rfl) (by rfl)
set_option maxHeartbeats 4000000 in
set_option maxRecDepth 100000 in
theorem c_X4_passNoon (hj : j < 29) (hn : S 0 0 = nI n) (h6 : n ≤ 6) : zCT E 3 zm_X4_passNoon [.ref (zad E (zsq j))] (va_up Q j S, Z) none (va_up Q j (noonC S n), Z) := by
  refine zCT.of (by decide +kernel) (Nat.le_of_ble_eq_true rfl) ?_
  unfold noonC
  obtain ⟨bo, hbo⟩ : ∃ bo, nextC S n = bo := ⟨_, rfl⟩
  have hnb : c_X4_nextBitten (E := E) (Q := Q) (Z := Z) hj hn h6 = c_X4_nextBitten hj hn h6 := rfl
  refine zi_aload0 (n := 1) dX4_passNoon_0 rfl ?_
  refine zi_aload0 (n := 2) dX4_passNoon_1 rfl ?_
  refine zi_V0s (mj := zm_X4_nextBitten) (n := 5) dX4_passNoon_2 rfl zl_X4_69 zy_X4_nextBitten (zrc_sq _ _ (by omega)) (by decide) (Nat.le_of_ble_eq_true rfl) (c_X4_nextBitten hj hn h6) ?_
  refine zp_X4_7 (n := 8) dX4_passNoon_5 rfl zl_X4_10 (by omega) (zfp _ _ _ _ _ _ _) ?_
  refine zi_aload0 (n := 9) dX4_passNoon_8 rfl ?_
  refine zi_iconst (n := 10) (nI 0) dX4_passNoon_9 rfl (by decide) ?_
  refine zp_X4_8 (n := 13) dX4_passNoon_10 rfl zl_X4_73 (by omega) (zfp _ _ _ _ _ _ _) ?_
  rw [hbo]
  change zG _ _ _ _ _ 13 _ _ (va_up Q j (noon2C S bo), Z)
  refine zi_aload0 (n := 14) dX4_passNoon_13 rfl ?_
  refine zg_X4_3 (n := 17) dX4_passNoon_14 rfl zl_X4_38 (by omega) (zfs _ _ _ _ _ _) ?_
  refine zi_ifle (n := 20) (tgt := 33) dX4_passNoon_17 rfl (by decide) (fun h17 => ?_) (fun h17 => ?_)
  · have e3 : noon3C (noon2C S bo) n bo = zbiteO (noon2C S bo) n bo := if_pos h17
    rw [e3]
    refine zi_aload0 (n := 34) dX4_passNoon_33 rfl ?_
    refine zi_aload0 (n := 35) dX4_passNoon_34 rfl ?_
    refine zg_X4_7 (n := 38) dX4_passNoon_35 rfl zl_X4_10 (by omega) (zfs _ _ _ _ _ _) ?_
    refine zi_V1s (mj := zm_X4_has) (n := 41) dX4_passNoon_38 rfl zl_X4_76 zy_X4_has (zrc_sq _ _ (by omega)) (by decide) (Nat.le_of_ble_eq_true rfl) (c_X4_has hj) ?_
    refine zi_ifeq_b (n := 44) (tgt := 52) dX4_passNoon_41 rfl (by decide) (fun h41 => ?_) (fun h41 => ?_)
    · have hnone : bo = none := by
        rcases bo with _ | p
        · rfl
        · have hp := nextC_lt hbo
          exact absurd ⟨nI_pos (by omega), by rw [noon2C_0, hn, noon2C_7]; exact nI_ge hp (by omega)⟩ h41
      subst hnone
      exact t_X4_passNoon hj
    · rcases bo with _ | p
      · exact absurd h41.1 (by rw [noon2C_7]; decide)
      have hp := nextC_lt hbo
      refine zi_aload0 (n := 45) dX4_passNoon_44 rfl ?_
      refine zi_aload0 (n := 46) dX4_passNoon_45 rfl ?_
      refine zg_X4_7 (n := 49) dX4_passNoon_46 rfl zl_X4_10 (by omega) ((zfs _ _ _ _ _ _).trans noon2C_7) ?_
      refine zi_V1v (mj := zm_X4_bite) (n := 52) dX4_passNoon_49 rfl zl_X4_79 zy_X4_bite (zrc_sq _ _ (by omega)) (by decide) (Nat.le_of_ble_eq_true rfl) (c_X4_bite hj (noon2C_0.trans hn) h6 hp) ?_
      exact t_X4_passNoon hj
  · have e3 : noon3C (noon2C S bo) n bo = zsu (noon2C S bo) 0 3 (noon2C S bo 0 3 - nI 1) := if_neg h17
    rw [e3]
    refine zi_aload0 (n := 21) dX4_passNoon_20 rfl ?_
    refine zi_dup (n := 22) dX4_passNoon_21 rfl rfl ?_
    refine zg_X4_3 (n := 25) dX4_passNoon_22 rfl zl_X4_38 (by omega) (zfs _ _ _ _ _ _) ?_
    refine zi_iconst (n := 26) (nI 1) dX4_passNoon_25 rfl (by decide) ?_
    refine zi_isub (n := 27) dX4_passNoon_26 rfl ?_
    refine zp_X4_3 (n := 30) dX4_passNoon_27 rfl zl_X4_38 (by omega) (zfp _ _ _ _ _ _ _) ?_
    refine zi_goto (tgt := 52) dX4_passNoon_30 (by decide) ?_
    exact t_X4_passNoon hj
theorem biteC_0 {S : zS} {n p : Nat} : biteC S n p 0 0 = S 0 0 := by
  have h1 : bite1C S n p 0 0 = S 0 0 := by
    unfold bite1C
    split <;> simp [zsu_at]
  simp [biteC, bite4C, bite3C, bite2C, zsu_at, h1]
theorem noonC_0 {S : zS} {n : Nat} : noonC S n 0 0 = S 0 0 := by
  have h1 : noon3C (noon2C S (nextC S n)) n (nextC S n) 0 0 = S 0 0 := by
    unfold noon3C
    split
    · rcases nextC S n with _ | p
      · simp [zbiteO, noon2C_0]
      · simp [zbiteO, biteC_0, noon2C_0]
    · simp [zsu_at, noon2C_0]
  simp [noonC, noon5C, noon4C, zsu_at, h1]
theorem noonsC_0 {S : zS} {n : Nat} : ∀ k, noonsC S n k 0 0 = S 0 0
  | 0 => rfl
  | k + 1 => by rw [noonsC, noonC_0, noonsC_0 k]
set_option maxHeartbeats 4000000 in
set_option maxRecDepth 100000 in
theorem l_X4_passNoons (hj : j < 29) (hn : S 0 0 = nI n) (h6 : n ≤ 6) {m : Nat} (hm : m < 2 ^ 30) : ∀ k i, m - i < k → i ≤ m → zG E zm_X4_passNoons 4 none (va_up Q j (noonsC S n m), Z) 2 [some (.ref (zad E (zsq j))), some (.int (nI m)), some (.int (nI i))] [] (va_up Q j (noonsC S n i), Z) := by
  intro k
  induction k with
  | zero => intro i h; omega
  | succ k ih =>
    intro i h1 h2
    refine zi_iload2 (n := 3) dX4_passNoons_2 rfl ?_
    refine zi_iload1 (n := 4) dX4_passNoons_3 rfl ?_
    refine zi_icge (n := 7) (tgt := 17) dX4_passNoons_4 rfl (by decide) (fun h4 => ?_) (fun h4 => ?_)
    · have e : i = m := by have := (nI_leI (by omega) (by omega)).mp h4; omega
      subst e
      exact zi_vret dX4_passNoons_17 rfl (by rfl) (by rfl)
    · have e : i < m := by have := mt (nI_leI (by omega) (by omega)).mpr h4; omega
      refine zi_aload0 (n := 8) dX4_passNoons_7 rfl ?_
      refine zi_V0v (mj := zm_X4_passNoon) (n := 11) dX4_passNoons_8 rfl zl_X4_87 zy_X4_passNoon (zrc_sq _ _ (by omega)) (by decide) (Nat.le_of_ble_eq_true rfl) (c_X4_passNoon hj ((noonsC_0 i).trans hn) h6) ?_
      refine zi_iinc2 (n := 14) (nI (i + 1)) dX4_passNoons_11 rfl (by decide) rfl (zi1 _) ?_
      refine zi_goto (tgt := 2) dX4_passNoons_14 (by decide) ?_
      exact ih (i + 1) (by omega) (by omega)
set_option maxHeartbeats 4000000 in
set_option maxRecDepth 100000 in
theorem c_X4_passNoons (hj : j < 29) (hn : S 0 0 = nI n) (h6 : n ≤ 6) {m : Nat} (hm : m < 2 ^ 30) : zCT E 4 zm_X4_passNoons [.ref (zad E (zsq j)), .int (nI m)] (va_up Q j S, Z) none (va_up Q j (noonsC S n m), Z) := by
  refine zCT.of (by decide +kernel) (Nat.le_of_ble_eq_true rfl) ?_
  refine zi_iconst (n := 1) (nI 0) dX4_passNoons_0 rfl (by decide) ?_
  refine zi_istore2 (n := 2) dX4_passNoons_1 rfl (by decide) rfl ?_
  exact l_X4_passNoons hj hn h6 hm (m + 1) 0 (by omega) (by omega)
/-- what take lays: the fields but the latest, six places of each row -/
def takeC (S F : zS) : zS := fun q k => if q = 0 then (if k < 7 then F 0 k else S 0 k) else if q < 5 then (if k < 6 then F q k else S q k) else S q k
def take7C (S F : zS) : zS := zsu (zsu (zsu (zsu (zsu (zsu (zsu S 0 0 (F 0 0)) 0 1 (F 0 1)) 0 2 (F 0 2)) 0 3 (F 0 3)) 0 4 (F 0 4)) 0 5 (F 0 5)) 0 6 (F 0 6)
def takeqC (S F : zS) (q : Nat) : zS := va_up S q (va_cpy (F q) (S q) 0 0 6)
theorem takeC_eq (S F : zS) : takeqC (takeqC (takeqC (takeqC (take7C S F) F 1) F 2) F 3) F 4 = takeC S F := by
  funext q k
  unfold takeC
  by_cases h0 : q = 0
  · subst h0
    rw [if_pos rfl]
    simp only [takeqC]
    rw [va_up_ne _ _ (by decide), va_up_ne _ _ (by decide), va_up_ne _ _ (by decide), va_up_ne _ _ (by decide)]
    simp only [take7C, zsu_at, true_and]
    by_cases h : k < 7
    · rcases (show k = 0 ∨ k = 1 ∨ k = 2 ∨ k = 3 ∨ k = 4 ∨ k = 5 ∨ k = 6 by omega) with rfl | rfl | rfl | rfl | rfl | rfl | rfl <;> simp
    · rw [if_neg h, if_neg (by omega), if_neg (by omega), if_neg (by omega), if_neg (by omega), if_neg (by omega), if_neg (by omega), if_neg (by omega)]
  · rw [if_neg h0]
    have hs : take7C S F q = S q := by
      funext i
      simp [take7C, zsu_at, h0]
    have hc : ∀ g : Nat → Int32, va_cpy (F q) g 0 0 6 k = if k < 6 then F q k else g k := by
      intro g
      simp [va_cpy]
    by_cases h5 : q < 5
    · rw [if_pos h5]
      rcases (show q = 1 ∨ q = 2 ∨ q = 3 ∨ q = 4 by omega) with rfl | rfl | rfl | rfl <;> simp [takeqC, va_up, hs, hc]
    · rw [if_neg h5]
      simp only [takeqC]
      rw [va_up_ne _ _ (by omega), va_up_ne _ _ (by omega), va_up_ne _ _ (by omega), va_up_ne _ _ (by omega), hs]
theorem zfo (Q : Nat → Nat → Nat → Int32) {i j : Nat} (h : i ≠ j) (S Z : zS) (q k : Nat) : ((va_up Q j S, Z) : zMem).1 i q k = Q i q k := by
  show va_up Q j S i q k = Q i q k
  rw [va_up_ne _ _ h]
theorem zfc (Q : Nat → Nat → Nat → Int32) {i j : Nat} (h : i ≠ j) (S Z : zS) (q : Nat) : ((va_up ((va_up Q j S, Z) : zMem).1 j (va_up (((va_up Q j S, Z) : zMem).1 j) q (va_cpy (((va_up Q j S, Z) : zMem).1 i q) (((va_up Q j S, Z) : zMem).1 j q) 0 0 6)), ((va_up Q j S, Z) : zMem).2) : zMem) = (va_up Q j (takeqC S (Q i) q), Z) := by
  show (va_up (va_up Q j S) j (va_up (va_up Q j S j) q (va_cpy (va_up Q j S i q) (va_up Q j S j q) 0 0 6)), Z) = _
  rw [va_up_self, va_up_ne _ _ h, bx_uu]
  rfl
set_option maxHeartbeats 4000000 in
set_option maxRecDepth 100000 in
theorem c_X4_take (hj : j < 29) {i : Nat} (hi : i < 29) (hij : i ≠ j) : zCT E 2 zm_X4_take [.ref (zad E (zsq j)), .ref (zad E (zsq i))] (va_up Q j S, Z) none (va_up Q j (takeC S (Q i)), Z) := by
  refine zCT.of (by decide +kernel) (Nat.le_of_ble_eq_true rfl) ?_
  refine zi_aload0 (n := 1) dX4_take_0 rfl ?_
  refine zi_aload1 (n := 2) dX4_take_1 rfl ?_
  refine zg_X4_0 (n := 5) dX4_take_2 rfl zl_X4_29 hi (zfo _ hij _ _ _ _) ?_
  refine zp_X4_0 (n := 8) dX4_take_5 rfl zl_X4_29 (by omega) (zfp _ _ _ _ _ _ _) ?_
  refine zi_aload0 (n := 9) dX4_take_8 rfl ?_
  refine zi_aload1 (n := 10) dX4_take_9 rfl ?_
  refine zg_X4_1 (n := 13) dX4_take_10 rfl zl_X4_32 hi (zfo _ hij _ _ _ _) ?_
  refine zp_X4_1 (n := 16) dX4_take_13 rfl zl_X4_32 (by omega) (zfp _ _ _ _ _ _ _) ?_
  refine zi_aload0 (n := 17) dX4_take_16 rfl ?_
  refine zi_aload1 (n := 18) dX4_take_17 rfl ?_
  refine zg_X4_2 (n := 21) dX4_take_18 rfl zl_X4_35 hi (zfo _ hij _ _ _ _) ?_
  refine zp_X4_2 (n := 24) dX4_take_21 rfl zl_X4_35 (by omega) (zfp _ _ _ _ _ _ _) ?_
  refine zi_aload0 (n := 25) dX4_take_24 rfl ?_
  refine zi_aload1 (n := 26) dX4_take_25 rfl ?_
  refine zg_X4_3 (n := 29) dX4_take_26 rfl zl_X4_38 hi (zfo _ hij _ _ _ _) ?_
  refine zp_X4_3 (n := 32) dX4_take_29 rfl zl_X4_38 (by omega) (zfp _ _ _ _ _ _ _) ?_
  refine zi_aload0 (n := 33) dX4_take_32 rfl ?_
  refine zi_aload1 (n := 34) dX4_take_33 rfl ?_
  refine zg_X4_4 (n := 37) dX4_take_34 rfl zl_X4_41 hi (zfo _ hij _ _ _ _) ?_
  refine zp_X4_4 (n := 40) dX4_take_37 rfl zl_X4_41 (by omega) (zfp _ _ _ _ _ _ _) ?_
  refine zi_aload0 (n := 41) dX4_take_40 rfl ?_
  refine zi_aload1 (n := 42) dX4_take_41 rfl ?_
  refine zg_X4_5 (n := 45) dX4_take_42 rfl zl_X4_44 hi (zfo _ hij _ _ _ _) ?_
  refine zp_X4_5 (n := 48) dX4_take_45 rfl zl_X4_44 (by omega) (zfp _ _ _ _ _ _ _) ?_
  refine zi_aload0 (n := 49) dX4_take_48 rfl ?_
  refine zi_aload1 (n := 50) dX4_take_49 rfl ?_
  refine zg_X4_6 (n := 53) dX4_take_50 rfl zl_X4_47 hi (zfo _ hij _ _ _ _) ?_
  refine zp_X4_6 (n := 56) dX4_take_53 rfl zl_X4_47 (by omega) (zfp _ _ _ _ _ _ _) ?_
  refine zi_aload1 (n := 57) dX4_take_56 rfl ?_
  refine zg_X4_9 (n := 60) dX4_take_57 rfl zl_X4_16 (by omega) ?_
  refine zi_iconst (n := 61) (nI 0) dX4_take_60 rfl (by decide) ?_
  refine zi_aload0 (n := 62) dX4_take_61 rfl ?_
  refine zg_X4_9 (n := 65) dX4_take_62 rfl zl_X4_16 (by omega) ?_
  refine zi_iconst (n := 66) (nI 0) dX4_take_65 rfl (by decide) ?_
  refine zi_bipush (n := 68) (nI 6) dX4_take_66 rfl (by decide) ?_
  refine zi_qcopy (n := 71) dX4_take_68 rfl zl_X4_50 hi hj (by decide) (by decide) (Nat.le_of_ble_eq_true rfl) (zfc _ hij _ _ _) ?_
  refine zi_aload1 (n := 72) dX4_take_71 rfl ?_
  refine zg_X4_10 (n := 75) dX4_take_72 rfl zl_X4_20 (by omega) ?_
  refine zi_iconst (n := 76) (nI 0) dX4_take_75 rfl (by decide) ?_
  refine zi_aload0 (n := 77) dX4_take_76 rfl ?_
  refine zg_X4_10 (n := 80) dX4_take_77 rfl zl_X4_20 (by omega) ?_
  refine zi_iconst (n := 81) (nI 0) dX4_take_80 rfl (by decide) ?_
  refine zi_bipush (n := 83) (nI 6) dX4_take_81 rfl (by decide) ?_
  refine zi_qcopy (n := 86) dX4_take_83 rfl zl_X4_50 hi hj (by decide) (by decide) (Nat.le_of_ble_eq_true rfl) (zfc _ hij _ _ _) ?_
  refine zi_aload1 (n := 87) dX4_take_86 rfl ?_
  refine zg_X4_11 (n := 90) dX4_take_87 rfl zl_X4_23 (by omega) ?_
  refine zi_iconst (n := 91) (nI 0) dX4_take_90 rfl (by decide) ?_
  refine zi_aload0 (n := 92) dX4_take_91 rfl ?_
  refine zg_X4_11 (n := 95) dX4_take_92 rfl zl_X4_23 (by omega) ?_
  refine zi_iconst (n := 96) (nI 0) dX4_take_95 rfl (by decide) ?_
  refine zi_bipush (n := 98) (nI 6) dX4_take_96 rfl (by decide) ?_
  refine zi_qcopy (n := 101) dX4_take_98 rfl zl_X4_50 hi hj (by decide) (by decide) (Nat.le_of_ble_eq_true rfl) (zfc _ hij _ _ _) ?_
  refine zi_aload1 (n := 102) dX4_take_101 rfl ?_
  refine zg_X4_12 (n := 105) dX4_take_102 rfl zl_X4_26 (by omega) ?_
  refine zi_iconst (n := 106) (nI 0) dX4_take_105 rfl (by decide) ?_
  refine zi_aload0 (n := 107) dX4_take_106 rfl ?_
  refine zg_X4_12 (n := 110) dX4_take_107 rfl zl_X4_26 (by omega) ?_
  refine zi_iconst (n := 111) (nI 0) dX4_take_110 rfl (by decide) ?_
  refine zi_bipush (n := 113) (nI 6) dX4_take_111 rfl (by decide) ?_
  refine zi_qcopy (n := 116) dX4_take_113 rfl zl_X4_50 hi hj (by decide) (by decide) (Nat.le_of_ble_eq_true rfl) (zfc _ hij _ _ _) ?_
  exact zi_vret dX4_take_116 rfl (by rfl) (by rw [← takeC_eq]; rfl)
end ZX4c
