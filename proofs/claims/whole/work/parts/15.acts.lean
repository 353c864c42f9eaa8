section ZA0
variable {E : zE} {Q : Nat → Nat → Nat → Int32} {Z : zS} {M : zMem} {T : Nat → Int32}
def zkeepT (T : Nat → Int32) (t : Nat) : Nat → Int32 := upd (upd T 1 (if t + 1 < 24 then nI (t + 1) else nI 0)) 2 (zmin (T 2 + nI 1) (nI 24))
def zbackT (T : Nat → Int32) (t : Nat) : Nat → Int32 := upd (upd T 1 (nI t)) 2 (T 2 - nI 1)
set_option maxHeartbeats 4000000 in
set_option maxRecDepth 100000 in
theorem c_X0_clear : zCT E 0 zm_X0_clear [.ref (zad E 160)] (Q, va_up Z 160 T) none (Q, va_up Z 160 (upd (upd T 1 (nI 0)) 2 (nI 0))) := by
  refine zCT.of (by decide +kernel) (Nat.le_of_ble_eq_true rfl) ?_
  refine zi_aload0 (n := 1) dX0_clear_0 rfl ?_
  refine zi_iconst (n := 2) (nI 0) dX0_clear_1 rfl (by decide) ?_
  refine zp_X0_1 (n := 5) dX0_clear_2 rfl zl_X0_18 (zfq _ _ _ _ _ _) ?_
  refine zi_aload0 (n := 6) dX0_clear_5 rfl ?_
  refine zi_iconst (n := 7) (nI 0) dX0_clear_6 rfl (by decide) ?_
  refine zp_X0_2 (n := 10) dX0_clear_7 rfl zl_X0_22 (zfq _ _ _ _ _ _) ?_
  exact zi_vret dX0_clear_10 rfl (by rfl) (by rfl)
set_option maxHeartbeats 4000000 in
set_option maxRecDepth 100000 in
theorem c_X0_keep {t i : Nat} (ht : T 1 = nI t) (h24 : t < 24) (hi : i < 5) : zCT E 3 zm_X0_keep [.ref (zad E 160), .ref (zad E (zsq i))] (Q, va_up Z 160 T) none (va_up Q (5 + t) (takeC (Q (5 + t)) (Q i)), va_up Z 160 (zkeepT T t)) := by
  refine zCT.of (by decide +kernel) (Nat.le_of_ble_eq_true rfl) ?_
  refine zi_aload0 (n := 1) dX0_keep_0 rfl ?_
  refine zg_X0_0 (n := 4) dX0_keep_1 rfl zl_X0_11 ?_
  refine zi_aload0 (n := 5) dX0_keep_4 rfl ?_
  refine zg_X0_1 (n := 8) dX0_keep_5 rfl zl_X0_18 ((zfz _ _ _ _ _).trans ht) ?_
  refine zi_aldq (n := 9) dX0_keep_8 rfl rfl h24 ?_
  rw [← zup_same Q (5 + t)]
  refine zi_aload1 (n := 10) dX0_keep_9 rfl ?_
  refine zi_V1v (mj := zm_X4_take) (n := 13) dX0_keep_10 rfl zl_X0_25 zy_X4_take (zrc_sq _ _ (by omega)) (by decide) (Nat.le_of_ble_eq_true rfl) (c_X4_take (by omega) (by omega) (by omega)) ?_
  refine zi_aload0 (n := 14) dX0_keep_13 rfl ?_
  refine zi_aload0 (n := 15) dX0_keep_14 rfl ?_
  refine zg_X0_1 (n := 18) dX0_keep_15 rfl zl_X0_18 ((zfz _ _ _ _ _).trans ht) ?_
  refine zi_iconst (n := 19) (nI 1) dX0_keep_18 rfl (by decide) ?_
  refine zi_iadd (n := 20) dX0_keep_19 rfl ?_
  rw [nI_add]
  refine zi_bipush (n := 22) (nI 24) dX0_keep_20 rfl (by decide) ?_
  refine zi_icge (n := 25) (tgt := 34) dX0_keep_22 rfl (by decide) (fun h22 => ?_) (fun h22 => ?_)
  · have e24 : ¬ t + 1 < 24 := by have := (nI_leI (a := 24) (by omega) (by omega)).mp h22; omega
    refine zi_iconst (n := 35) (nI 0) dX0_keep_34 rfl (by decide) ?_
    refine zp_X0_1 (n := 38) dX0_keep_35 rfl zl_X0_18 (zfq _ _ _ _ _ _) ?_
    refine zi_aload0 (n := 39) dX0_keep_38 rfl ?_
    refine zi_aload0 (n := 40) dX0_keep_39 rfl ?_
    refine zg_X0_2 (n := 43) dX0_keep_40 rfl zl_X0_22 (zfz _ _ _ _ _) ?_
    refine zi_iconst (n := 44) (nI 1) dX0_keep_43 rfl (by decide) ?_
    refine zi_iadd (n := 45) dX0_keep_44 rfl ?_
    refine zi_bipush (n := 47) (nI 24) dX0_keep_45 rfl (by decide) ?_
    refine zi_S2s (mj := zm_J9_min_7cf53) (n := 50) dX0_keep_47 rfl zl_X0_29 zy_J9_min_7cf53 (by decide) (Nat.le_of_ble_eq_true rfl) (c_J9_min_7cf53) ?_
    refine zp_X0_2 (n := 53) dX0_keep_50 rfl zl_X0_22 (zfq _ _ _ _ _ _) ?_
    exact zi_vret dX0_keep_53 rfl (by rfl) (by simp only [zkeepT, e24, if_true, if_false, zup_same]; simp [upd])
  · have e24 : t + 1 < 24 := by have := mt (nI_leI (a := 24) (b := t + 1) (by omega) (by omega)).mpr h22; omega
    refine zi_aload0 (n := 26) dX0_keep_25 rfl ?_
    refine zg_X0_1 (n := 29) dX0_keep_26 rfl zl_X0_18 ((zfz _ _ _ _ _).trans ht) ?_
    refine zi_iconst (n := 30) (nI 1) dX0_keep_29 rfl (by decide) ?_
    refine zi_iadd (n := 31) dX0_keep_30 rfl ?_
    rw [nI_add]
    refine zi_goto (tgt := 35) dX0_keep_31 (by decide) ?_
    refine zp_X0_1 (n := 38) dX0_keep_35 rfl zl_X0_18 (zfq _ _ _ _ _ _) ?_
    refine zi_aload0 (n := 39) dX0_keep_38 rfl ?_
    refine zi_aload0 (n := 40) dX0_keep_39 rfl ?_
    refine zg_X0_2 (n := 43) dX0_keep_40 rfl zl_X0_22 (zfz _ _ _ _ _) ?_
    refine zi_iconst (n := 44) (nI 1) dX0_keep_43 rfl (by decide) ?_
    refine zi_iadd (n := 45) dX0_keep_44 rfl ?_
    refine zi_bipush (n := 47) (nI 24) dX0_keep_45 rfl (by decide) ?_
    refine zi_S2s (mj := zm_J9_min_7cf53) (n := 50) dX0_keep_47 rfl zl_X0_29 zy_J9_min_7cf53 (by decide) (Nat.le_of_ble_eq_true rfl) (c_J9_min_7cf53) ?_
    refine zp_X0_2 (n := 53) dX0_keep_50 rfl zl_X0_22 (zfq _ _ _ _ _ _) ?_
    exact zi_vret dX0_keep_53 rfl (by rfl) (by simp only [zkeepT, e24, if_true, if_false, zup_same]; simp [upd])
set_option maxHeartbeats 4000000 in
set_option maxRecDepth 100000 in
theorem c_X0_takeBack {t i : Nat} {x : Int32} (hx : T 1 = x) (ht : (if x ≤ 0 then nI 23 else x - nI 1) = nI t) (h24 : t < 24) (hi : i < 5) : zCT E 3 zm_X0_takeBack [.ref (zad E 160), .ref (zad E (zsq i))] (Q, va_up Z 160 T) none (va_up Q i (takeC (Q i) (Q (5 + t))), va_up Z 160 (zbackT T t)) := by
  refine zCT.of (by decide +kernel) (Nat.le_of_ble_eq_true rfl) ?_
  refine zi_aload0 (n := 1) dX0_takeBack_0 rfl ?_
  refine zi_aload0 (n := 2) dX0_takeBack_1 rfl ?_
  refine zg_X0_1 (n := 5) dX0_takeBack_2 rfl zl_X0_18 ((zfz _ _ _ _ _).trans hx) ?_
  refine zi_ifle (n := 8) (tgt := 17) dX0_takeBack_5 rfl (by decide) (fun h5 => ?_) (fun h5 => ?_)
  · rw [if_pos h5] at ht
    refine zi_bipush (n := 19) (nI 23) dX0_takeBack_17 rfl (by decide) ?_
    rw [ht]
    refine zp_X0_1 (n := 22) dX0_takeBack_19 rfl zl_X0_18 (zfq _ _ _ _ _ _) ?_
    refine zi_aload0 (n := 23) dX0_takeBack_22 rfl ?_
    refine zi_dup (n := 24) dX0_takeBack_23 rfl rfl ?_
    refine zg_X0_2 (n := 27) dX0_takeBack_24 rfl zl_X0_22 (zfz _ _ _ _ _) ?_
    refine zi_iconst (n := 28) (nI 1) dX0_takeBack_27 rfl (by decide) ?_
    refine zi_isub (n := 29) dX0_takeBack_28 rfl ?_
    refine zp_X0_2 (n := 32) dX0_takeBack_29 rfl zl_X0_22 (zfq _ _ _ _ _ _) ?_
    refine zi_aload1 (n := 33) dX0_takeBack_32 rfl ?_
    refine zi_aload0 (n := 34) dX0_takeBack_33 rfl ?_
    refine zg_X0_0 (n := 37) dX0_takeBack_34 rfl zl_X0_11 ?_
    refine zi_aload0 (n := 38) dX0_takeBack_37 rfl ?_
    refine zg_X0_1 (n := 41) dX0_takeBack_38 rfl zl_X0_18 ((zfz _ _ _ _ _).trans (by simp [upd] : _ = nI t)) ?_
    refine zi_aldq (n := 42) dX0_takeBack_41 rfl rfl h24 ?_
    rw [← zup_same Q i]
    refine zi_V1v (mj := zm_X4_take) (n := 45) dX0_takeBack_42 rfl zl_X0_25 zy_X4_take (zrc_sq _ _ (by omega)) (by decide) (Nat.le_of_ble_eq_true rfl) (c_X4_take (by omega) (by omega) (by omega)) ?_
    exact zi_vret dX0_takeBack_45 rfl (by rfl) (by simp only [zbackT, zup_same]; simp [upd])
  · rw [if_neg h5] at ht
    refine zi_aload0 (n := 9) dX0_takeBack_8 rfl ?_
    refine zg_X0_1 (n := 12) dX0_takeBack_9 rfl zl_X0_18 ((zfz _ _ _ _ _).trans hx) ?_
    refine zi_iconst (n := 13) (nI 1) dX0_takeBack_12 rfl (by decide) ?_
    refine zi_isub (n := 14) dX0_takeBack_13 rfl ?_
    refine zi_goto (tgt := 19) dX0_takeBack_14 (by decide) ?_
    rw [ht]
    refine zp_X0_1 (n := 22) dX0_takeBack_19 rfl zl_X0_18 (zfq _ _ _ _ _ _) ?_
    refine zi_aload0 (n := 23) dX0_takeBack_22 rfl ?_
    refine zi_dup (n := 24) dX0_takeBack_23 rfl rfl ?_
    refine zg_X0_2 (n := 27) dX0_takeBack_24 rfl zl_X0_22 (zfz _ _ _ _ _) ?_
    refine zi_iconst (n := 28) (nI 1) dX0_takeBack_27 rfl (by decide) ?_
    refine zi_isub (n := 29) dX0_takeBack_28 rfl ?_
    refine zp_X0_2 (n := 32) dX0_takeBack_29 rfl zl_X0_22 (zfq _ _ _ _ _ _) ?_
    refine zi_aload1 (n := 33) dX0_takeBack_32 rfl ?_
    refine zi_aload0 (n := 34) dX0_takeBack_33 rfl ?_
    refine zg_X0_0 (n := 37) dX0_takeBack_34 rfl zl_X0_11 ?_
    refine zi_aload0 (n := 38) dX0_takeBack_37 rfl ?_
    refine zg_X0_1 (n := 41) dX0_takeBack_38 rfl zl_X0_18 ((zfz _ _ _ _ _).trans (by simp [upd] : _ = nI t)) ?_
    refine zi_aldq (n := 42) dX0_takeBack_41 rfl rfl h24 ?_
    rw [← zup_same Q i]
    refine zi_V1v (mj := zm_X4_take) (n := 45) dX0_takeBack_42 rfl zl_X0_25 zy_X4_take (zrc_sq _ _ (by omega)) (by decide) (Nat.le_of_ble_eq_true rfl) (c_X4_take (by omega) (by omega) (by omega)) ?_
    exact zi_vret dX0_takeBack_45 rfl (by rfl) (by simp only [zbackT, zup_same]; simp [upd])
end ZA0
