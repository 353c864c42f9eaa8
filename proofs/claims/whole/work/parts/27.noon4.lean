section ZN9
variable {E : zE} {Q : Nat → Nat → Nat → Int32} {Z : zS} {n : Nat} {M : zMem}
set_option maxHeartbeats 4000000 in
set_option maxRecDepth 100000 in
theorem c_im_0 : zCT E 0 zm_X6_imageAt [.ref (zad E 145), .int (nI 0)] M (some (.ref (zad E (zsq 2)))) M := by
  refine zCT.of (by decide +kernel) (Nat.le_of_ble_eq_true rfl) ?_
  refine zi_iload1 (n := 1) dX6_imageAt_0 rfl ?_
  refine zi_ifne (n := 4) (tgt := 11) dX6_imageAt_1 rfl (by decide) (fun h1 => ?_) (fun h1 => ?_)
  · exact absurd rfl h1
  · refine zi_aload0 (n := 5) dX6_imageAt_4 rfl ?_
    refine zg_X6_4 (n := 8) dX6_imageAt_5 rfl zl_X6_37 ?_
    refine zi_goto (tgt := 15) dX6_imageAt_8 (by decide) ?_
    exact zi_aret dX6_imageAt_15 rfl (by rfl) (by rfl)
set_option maxHeartbeats 4000000 in
set_option maxRecDepth 100000 in
theorem c_im_1 : zCT E 0 zm_X6_imageAt [.ref (zad E 145), .int (nI 1)] M (some (.ref (zad E (zsq 3)))) M := by
  refine zCT.of (by decide +kernel) (Nat.le_of_ble_eq_true rfl) ?_
  refine zi_iload1 (n := 1) dX6_imageAt_0 rfl ?_
  refine zi_ifne (n := 4) (tgt := 11) dX6_imageAt_1 rfl (by decide) (fun h1 => ?_) (fun h1 => ?_)
  · refine zi_aload0 (n := 12) dX6_imageAt_11 rfl ?_
    refine zg_X6_5 (n := 15) dX6_imageAt_12 rfl zl_X6_40 ?_
    exact zi_aret dX6_imageAt_15 rfl (by rfl) (by rfl)
  · exact absurd h1 (by decide)
set_option maxHeartbeats 4000000 in
set_option maxRecDepth 100000 in
theorem x_image_bad {x : Int32} (hb : ¬ (nI 0 ≤ x ∧ x ≤ nI 1)) : zCT E 3 zm_X6_image [.ref (zad E 145), .int x] (Q, Z) (some (.int zBAD)) (Q, Z) := by
  refine zCT.of (by decide +kernel) (Nat.le_of_ble_eq_true rfl) ?_
  refine zi_iload1 (n := 1) dX6_image_0 rfl ?_
  refine zi_iconst (n := 2) (nI 0) dX6_image_1 rfl (by decide) ?_
  refine zi_iconst (n := 3) (nI 1) dX6_image_2 rfl (by decide) ?_
  refine zi_S3s (mj := zm_X6_within) (n := 6) dX6_image_3 rfl zl_X6_63 zy_X6_within (by decide) (Nat.le_of_ble_eq_true rfl) (c_X6_within) ?_
  refine zi_ifne_b (n := 9) (tgt := 12) dX6_image_6 rfl (by decide) (fun h6 => ?_) (fun h6 => ?_)
  · first | exact absurd hb h6 | exact absurd h6 hb
  · refine zi_ldc (n := 11) dX6_image_9 rfl zl_X6_67 ?_
    exact zi_iret dX6_image_11 rfl (by rfl) (by rfl)
set_option maxHeartbeats 4000000 in
set_option maxRecDepth 100000 in
theorem x_image_state {x : Int32} (hx : (nI 0 ≤ x ∧ x ≤ nI 1)) (h0 : Q 1 0 0 = 0) : zCT E 3 zm_X6_image [.ref (zad E 145), .int x] (Q, Z) (some (.int zSTATE)) (Q, Z) := by
  refine zCT.of (by decide +kernel) (Nat.le_of_ble_eq_true rfl) ?_
  refine zi_iload1 (n := 1) dX6_image_0 rfl ?_
  refine zi_iconst (n := 2) (nI 0) dX6_image_1 rfl (by decide) ?_
  refine zi_iconst (n := 3) (nI 1) dX6_image_2 rfl (by decide) ?_
  refine zi_S3s (mj := zm_X6_within) (n := 6) dX6_image_3 rfl zl_X6_63 zy_X6_within (by decide) (Nat.le_of_ble_eq_true rfl) (c_X6_within) ?_
  refine zi_ifne_b (n := 9) (tgt := 12) dX6_image_6 rfl (by decide) (fun h6 => ?_) (fun h6 => ?_)
  · refine zi_aload0 (n := 13) dX6_image_12 rfl ?_
    refine zg_X6_2 (n := 16) dX6_image_13 rfl zl_X6_26 ?_
    refine zgN_X4_0 (n := 19) dX6_image_16 rfl zl_X6_131 (by omega) rfl ?_
    refine zi_ifne (n := 22) (tgt := 25) dX6_image_19 rfl (by decide) (fun h19 => ?_) (fun h19 => ?_)
    · first | exact absurd h0 h19 | exact absurd h19 h0
    · refine zi_ldc (n := 24) dX6_image_22 rfl zl_X6_137 ?_
      exact zi_iret dX6_image_24 rfl (by rfl) (by rfl)
  · first | exact absurd hx h6 | exact absurd h6 hx
set_option maxHeartbeats 4000000 in
set_option maxRecDepth 100000 in
theorem x_restore_bad {x : Int32} (hb : ¬ (nI 0 ≤ x ∧ x ≤ nI 1)) : zCT E 3 zm_X6_restore [.ref (zad E 145), .int x] (Q, Z) (some (.int zBAD)) (Q, Z) := by
  refine zCT.of (by decide +kernel) (Nat.le_of_ble_eq_true rfl) ?_
  refine zi_iload1 (n := 1) dX6_restore_0 rfl ?_
  refine zi_iconst (n := 2) (nI 0) dX6_restore_1 rfl (by decide) ?_
  refine zi_iconst (n := 3) (nI 1) dX6_restore_2 rfl (by decide) ?_
  refine zi_S3s (mj := zm_X6_within) (n := 6) dX6_restore_3 rfl zl_X6_63 zy_X6_within (by decide) (Nat.le_of_ble_eq_true rfl) (c_X6_within) ?_
  refine zi_ifne_b (n := 9) (tgt := 12) dX6_restore_6 rfl (by decide) (fun h6 => ?_) (fun h6 => ?_)
  · first | exact absurd hb h6 | exact absurd h6 hb
  · refine zi_ldc (n := 11) dX6_restore_9 rfl zl_X6_67 ?_
    exact zi_iret dX6_restore_11 rfl (by rfl) (by rfl)
set_option maxHeartbeats 4000000 in
set_option maxRecDepth 100000 in
theorem x_image_0 (h0 : ¬ Q 1 0 0 = 0) : zCT E 3 zm_X6_image [.ref (zad E 145), .int (nI 0)] (Q, Z) (some (.int (nI 1))) (va_up Q 2 (takeC (Q 2) (Q 1)), Z) := by
  refine zCT.of (by decide +kernel) (Nat.le_of_ble_eq_true rfl) ?_
  have a1 : nI 0 ≤ nI 0 ∧ nI 0 ≤ nI 1 := by decide
  refine zi_iload1 (n := 1) dX6_image_0 rfl ?_
  refine zi_iconst (n := 2) (nI 0) dX6_image_1 rfl (by decide) ?_
  refine zi_iconst (n := 3) (nI 1) dX6_image_2 rfl (by decide) ?_
  refine zi_S3s (mj := zm_X6_within) (n := 6) dX6_image_3 rfl zl_X6_63 zy_X6_within (by decide) (Nat.le_of_ble_eq_true rfl) (c_X6_within) ?_
  refine zi_ifne_b (n := 9) (tgt := 12) dX6_image_6 rfl (by decide) (fun h6 => ?_) (fun h6 => ?_)
  · refine zi_aload0 (n := 13) dX6_image_12 rfl ?_
    refine zg_X6_2 (n := 16) dX6_image_13 rfl zl_X6_26 ?_
    refine zgN_X4_0 (n := 19) dX6_image_16 rfl zl_X6_131 (by omega) rfl ?_
    refine zi_ifne (n := 22) (tgt := 25) dX6_image_19 rfl (by decide) (fun h19 => ?_) (fun h19 => ?_)
    · refine zi_aload0 (n := 26) dX6_image_25 rfl ?_
      refine zi_iload1 (n := 27) dX6_image_26 rfl ?_
      refine zi_V1s (mj := zm_X6_imageAt) (n := 30) dX6_image_27 rfl zl_X6_273 zy_X6_imageAt (zrc_X6 _ _) (by decide) (Nat.le_of_ble_eq_true rfl) c_im_0 ?_
      refine zi_aload0 (n := 31) dX6_image_30 rfl ?_
      refine zg_X6_2 (n := 34) dX6_image_31 rfl zl_X6_26 ?_
      refine zi_V1v (mj := zm_X4_take) (n := 37) dX6_image_34 rfl zl_X6_127 zy_X4_take (zrc_sq _ _ (by omega)) (by decide) (Nat.le_of_ble_eq_true rfl) (zra (j := 2) (c_X4_take (S := Q 2) (by decide) (i := 1) (by decide) (by decide))) ?_
      refine zi_iconst (n := 38) (nI 1) dX6_image_37 rfl (by decide) ?_
      exact zi_iret dX6_image_38 rfl (by rfl) (by rfl)
    · first | exact absurd h0 h19 | exact absurd h19 h0
  · first | exact absurd a1 h6 | exact absurd h6 a1
set_option maxHeartbeats 4000000 in
set_option maxRecDepth 100000 in
theorem x_restore_s0 (hk : Q 2 0 0 = 0) : zCT E 3 zm_X6_restore [.ref (zad E 145), .int (nI 0)] (Q, Z) (some (.int zSTATE)) (Q, Z) := by
  refine zCT.of (by decide +kernel) (Nat.le_of_ble_eq_true rfl) ?_
  have a1 : nI 0 ≤ nI 0 ∧ nI 0 ≤ nI 1 := by decide
  refine zi_iload1 (n := 1) dX6_restore_0 rfl ?_
  refine zi_iconst (n := 2) (nI 0) dX6_restore_1 rfl (by decide) ?_
  refine zi_iconst (n := 3) (nI 1) dX6_restore_2 rfl (by decide) ?_
  refine zi_S3s (mj := zm_X6_within) (n := 6) dX6_restore_3 rfl zl_X6_63 zy_X6_within (by decide) (Nat.le_of_ble_eq_true rfl) (c_X6_within) ?_
  refine zi_ifne_b (n := 9) (tgt := 12) dX6_restore_6 rfl (by decide) (fun h6 => ?_) (fun h6 => ?_)
  · refine zi_aload0 (n := 13) dX6_restore_12 rfl ?_
    refine zi_iload1 (n := 14) dX6_restore_13 rfl ?_
    refine zi_V1s (mj := zm_X6_imageAt) (n := 17) dX6_restore_14 rfl zl_X6_273 zy_X6_imageAt (zrc_X6 _ _) (by decide) (Nat.le_of_ble_eq_true rfl) c_im_0 ?_
    refine zi_astore2 (n := 18) dX6_restore_17 rfl (by decide) rfl ?_
    refine zi_aload2 (n := 19) dX6_restore_18 rfl ?_
    refine zgN_X4_0 (n := 22) dX6_restore_19 rfl zl_X6_131 (by decide) rfl ?_
    refine zi_ifne (n := 25) (tgt := 28) dX6_restore_22 rfl (by decide) (fun h22 => ?_) (fun h22 => ?_)
    · first | exact absurd hk h22 | exact absurd h22 hk
    · refine zi_ldc (n := 27) dX6_restore_25 rfl zl_X6_137 ?_
      exact zi_iret dX6_restore_27 rfl (by rfl) (by rfl)
  · first | exact absurd a1 h6 | exact absurd h6 a1
set_option maxHeartbeats 4000000 in
set_option maxRecDepth 100000 in
theorem x_restore_0 (hk : ¬ Q 2 0 0 = 0) : zCT E 3 zm_X6_restore [.ref (zad E 145), .int (nI 0)] (Q, Z) (some (.int (nI 1))) (va_up Q 1 (takeC (Q 1) (Q 2)), va_up Z 160 (upd (upd (Z 160) 1 (nI 0)) 2 (nI 0))) := by
  refine zCT.of (by decide +kernel) (Nat.le_of_ble_eq_true rfl) ?_
  have a1 : nI 0 ≤ nI 0 ∧ nI 0 ≤ nI 1 := by decide
  refine zi_iload1 (n := 1) dX6_restore_0 rfl ?_
  refine zi_iconst (n := 2) (nI 0) dX6_restore_1 rfl (by decide) ?_
  refine zi_iconst (n := 3) (nI 1) dX6_restore_2 rfl (by decide) ?_
  refine zi_S3s (mj := zm_X6_within) (n := 6) dX6_restore_3 rfl zl_X6_63 zy_X6_within (by decide) (Nat.le_of_ble_eq_true rfl) (c_X6_within) ?_
  refine zi_ifne_b (n := 9) (tgt := 12) dX6_restore_6 rfl (by decide) (fun h6 => ?_) (fun h6 => ?_)
  · refine zi_aload0 (n := 13) dX6_restore_12 rfl ?_
    refine zi_iload1 (n := 14) dX6_restore_13 rfl ?_
    refine zi_V1s (mj := zm_X6_imageAt) (n := 17) dX6_restore_14 rfl zl_X6_273 zy_X6_imageAt (zrc_X6 _ _) (by decide) (Nat.le_of_ble_eq_true rfl) c_im_0 ?_
    refine zi_astore2 (n := 18) dX6_restore_17 rfl (by decide) rfl ?_
    refine zi_aload2 (n := 19) dX6_restore_18 rfl ?_
    refine zgN_X4_0 (n := 22) dX6_restore_19 rfl zl_X6_131 (by decide) rfl ?_
    refine zi_ifne (n := 25) (tgt := 28) dX6_restore_22 rfl (by decide) (fun h22 => ?_) (fun h22 => ?_)
    · refine zi_aload0 (n := 29) dX6_restore_28 rfl ?_
      refine zg_X6_2 (n := 32) dX6_restore_29 rfl zl_X6_26 ?_
      refine zi_aload2 (n := 33) dX6_restore_32 rfl ?_
      refine zi_V1v (mj := zm_X4_take) (n := 36) dX6_restore_33 rfl zl_X6_127 zy_X4_take (zrc_sq _ _ (by omega)) (by decide) (Nat.le_of_ble_eq_true rfl) (zra (j := 1) (c_X4_take (S := Q 1) (j := 1) (by decide) (i := 2) (by decide) (by decide))) ?_
      refine zi_aload0 (n := 37) dX6_restore_36 rfl ?_
      refine zg_X6_3 (n := 40) dX6_restore_37 rfl zl_X6_33 ?_
      refine zi_V0v (mj := zm_X0_clear) (n := 43) dX6_restore_40 rfl zl_X6_130 zy_X0_clear (zrc_X0 _ _) (by decide) (Nat.le_of_ble_eq_true rfl) (zrz (a := 160) c_X0_clear) ?_
      refine zi_iconst (n := 44) (nI 1) dX6_restore_43 rfl (by decide) ?_
      exact zi_iret dX6_restore_44 rfl (by rfl) (by rfl)
    · first | exact absurd hk h22 | exact absurd h22 hk
  · first | exact absurd a1 h6 | exact absurd h6 a1
set_option maxHeartbeats 4000000 in
set_option maxRecDepth 100000 in
theorem x_image_1 (h0 : ¬ Q 1 0 0 = 0) : zCT E 3 zm_X6_image [.ref (zad E 145), .int (nI 1)] (Q, Z) (some (.int (nI 1))) (va_up Q 3 (takeC (Q 3) (Q 1)), Z) := by
  refine zCT.of (by decide +kernel) (Nat.le_of_ble_eq_true rfl) ?_
  have a1 : nI 0 ≤ nI 1 ∧ nI 1 ≤ nI 1 := by decide
  refine zi_iload1 (n := 1) dX6_image_0 rfl ?_
  refine zi_iconst (n := 2) (nI 0) dX6_image_1 rfl (by decide) ?_
  refine zi_iconst (n := 3) (nI 1) dX6_image_2 rfl (by decide) ?_
  refine zi_S3s (mj := zm_X6_within) (n := 6) dX6_image_3 rfl zl_X6_63 zy_X6_within (by decide) (Nat.le_of_ble_eq_true rfl) (c_X6_within) ?_
  refine zi_ifne_b (n := 9) (tgt := 12) dX6_image_6 rfl (by decide) (fun h6 => ?_) (fun h6 => ?_)
  · refine zi_aload0 (n := 13) dX6_image_12 rfl ?_
    refine zg_X6_2 (n := 16) dX6_image_13 rfl zl_X6_26 ?_
    refine zgN_X4_0 (n := 19) dX6_image_16 rfl zl_X6_131 (by omega) rfl ?_
    refine zi_ifne (n := 22) (tgt := 25) dX6_image_19 rfl (by decide) (fun h19 => ?_) (fun h19 => ?_)
    · refine zi_aload0 (n := 26) dX6_image_25 rfl ?_
      refine zi_iload1 (n := 27) dX6_image_26 rfl ?_
      refine zi_V1s (mj := zm_X6_imageAt) (n := 30) dX6_image_27 rfl zl_X6_273 zy_X6_imageAt (zrc_X6 _ _) (by decide) (Nat.le_of_ble_eq_true rfl) c_im_1 ?_
      refine zi_aload0 (n := 31) dX6_image_30 rfl ?_
      refine zg_X6_2 (n := 34) dX6_image_31 rfl zl_X6_26 ?_
      refine zi_V1v (mj := zm_X4_take) (n := 37) dX6_image_34 rfl zl_X6_127 zy_X4_take (zrc_sq _ _ (by omega)) (by decide) (Nat.le_of_ble_eq_true rfl) (zra (j := 3) (c_X4_take (S := Q 3) (by decide) (i := 1) (by decide) (by decide))) ?_
      refine zi_iconst (n := 38) (nI 1) dX6_image_37 rfl (by decide) ?_
      exact zi_iret dX6_image_38 rfl (by rfl) (by rfl)
    · first | exact absurd h0 h19 | exact absurd h19 h0
  · first | exact absurd a1 h6 | exact absurd h6 a1
set_option maxHeartbeats 4000000 in
set_option maxRecDepth 100000 in
theorem x_restore_s1 (hk : Q 3 0 0 = 0) : zCT E 3 zm_X6_restore [.ref (zad E 145), .int (nI 1)] (Q, Z) (some (.int zSTATE)) (Q, Z) := by
  refine zCT.of (by decide +kernel) (Nat.le_of_ble_eq_true rfl) ?_
  have a1 : nI 0 ≤ nI 1 ∧ nI 1 ≤ nI 1 := by decide
  refine zi_iload1 (n := 1) dX6_restore_0 rfl ?_
  refine zi_iconst (n := 2) (nI 0) dX6_restore_1 rfl (by decide) ?_
  refine zi_iconst (n := 3) (nI 1) dX6_restore_2 rfl (by decide) ?_
  refine zi_S3s (mj := zm_X6_within) (n := 6) dX6_restore_3 rfl zl_X6_63 zy_X6_within (by decide) (Nat.le_of_ble_eq_true rfl) (c_X6_within) ?_
  refine zi_ifne_b (n := 9) (tgt := 12) dX6_restore_6 rfl (by decide) (fun h6 => ?_) (fun h6 => ?_)
  · refine zi_aload0 (n := 13) dX6_restore_12 rfl ?_
    refine zi_iload1 (n := 14) dX6_restore_13 rfl ?_
    refine zi_V1s (mj := zm_X6_imageAt) (n := 17) dX6_restore_14 rfl zl_X6_273 zy_X6_imageAt (zrc_X6 _ _) (by decide) (Nat.le_of_ble_eq_true rfl) c_im_1 ?_
    refine zi_astore2 (n := 18) dX6_restore_17 rfl (by decide) rfl ?_
    refine zi_aload2 (n := 19) dX6_restore_18 rfl ?_
    refine zgN_X4_0 (n := 22) dX6_restore_19 rfl zl_X6_131 (by decide) rfl ?_
    refine zi_ifne (n := 25) (tgt := 28) dX6_restore_22 rfl (by decide) (fun h22 => ?_) (fun h22 => ?_)
    · first | exact absurd hk h22 | exact absurd h22 hk
    · refine zi_ldc (n := 27) dX6_restore_25 rfl zl_X6_137 ?_
      exact zi_iret dX6_restore_27 rfl (by rfl) (by rfl)
  · first | exact absurd a1 h6 | exact absurd h6 a1
set_option maxHeartbeats 4000000 in
set_option maxRecDepth 100000 in
theorem x_restore_1 (hk : ¬ Q 3 0 0 = 0) : zCT E 3 zm_X6_restore [.ref (zad E 145), .int (nI 1)] (Q, Z) (some (.int (nI 1))) (va_up Q 1 (takeC (Q 1) (Q 3)), va_up Z 160 (upd (upd (Z 160) 1 (nI 0)) 2 (nI 0))) := by
  refine zCT.of (by decide +kernel) (Nat.le_of_ble_eq_true rfl) ?_
  have a1 : nI 0 ≤ nI 1 ∧ nI 1 ≤ nI 1 := by decide
  refine zi_iload1 (n := 1) dX6_restore_0 rfl ?_
  refine zi_iconst (n := 2) (nI 0) dX6_restore_1 rfl (by decide) ?_
  refine zi_iconst (n := 3) (nI 1) dX6_restore_2 rfl (by decide) ?_
  refine zi_S3s (mj := zm_X6_within) (n := 6) dX6_restore_3 rfl zl_X6_63 zy_X6_within (by decide) (Nat.le_of_ble_eq_true rfl) (c_X6_within) ?_
  refine zi_ifne_b (n := 9) (tgt := 12) dX6_restore_6 rfl (by decide) (fun h6 => ?_) (fun h6 => ?_)
  · refine zi_aload0 (n := 13) dX6_restore_12 rfl ?_
    refine zi_iload1 (n := 14) dX6_restore_13 rfl ?_
    refine zi_V1s (mj := zm_X6_imageAt) (n := 17) dX6_restore_14 rfl zl_X6_273 zy_X6_imageAt (zrc_X6 _ _) (by decide) (Nat.le_of_ble_eq_true rfl) c_im_1 ?_
    refine zi_astore2 (n := 18) dX6_restore_17 rfl (by decide) rfl ?_
    refine zi_aload2 (n := 19) dX6_restore_18 rfl ?_
    refine zgN_X4_0 (n := 22) dX6_restore_19 rfl zl_X6_131 (by decide) rfl ?_
    refine zi_ifne (n := 25) (tgt := 28) dX6_restore_22 rfl (by decide) (fun h22 => ?_) (fun h22 => ?_)
    · refine zi_aload0 (n := 29) dX6_restore_28 rfl ?_
      refine zg_X6_2 (n := 32) dX6_restore_29 rfl zl_X6_26 ?_
      refine zi_aload2 (n := 33) dX6_restore_32 rfl ?_
      refine zi_V1v (mj := zm_X4_take) (n := 36) dX6_restore_33 rfl zl_X6_127 zy_X4_take (zrc_sq _ _ (by omega)) (by decide) (Nat.le_of_ble_eq_true rfl) (zra (j := 1) (c_X4_take (S := Q 1) (j := 1) (by decide) (i := 3) (by decide) (by decide))) ?_
      refine zi_aload0 (n := 37) dX6_restore_36 rfl ?_
      refine zg_X6_3 (n := 40) dX6_restore_37 rfl zl_X6_33 ?_
      refine zi_V0v (mj := zm_X0_clear) (n := 43) dX6_restore_40 rfl zl_X6_130 zy_X0_clear (zrc_X0 _ _) (by decide) (Nat.le_of_ble_eq_true rfl) (zrz (a := 160) c_X0_clear) ?_
      refine zi_iconst (n := 44) (nI 1) dX6_restore_43 rfl (by decide) ?_
      exact zi_iret dX6_restore_44 rfl (by rfl) (by rfl)
    · first | exact absurd hk h22 | exact absurd h22 hk
  · first | exact absurd a1 h6 | exact absurd h6 a1
set_option maxHeartbeats 4000000 in
set_option maxRecDepth 100000 in
theorem x_kind_bad {x : Int32} (hb : ¬ (¬ x < 0 ∧ ¬ Q 1 0 0 ≤ x)) : zCT E 1 zm_X6_kind [.ref (zad E 145), .int x] (Q, Z) (some (.int zBAD)) (Q, Z) := by
  refine zCT.of (by decide +kernel) (Nat.le_of_ble_eq_true rfl) ?_
  refine zi_aload0 (n := 1) dX6_kind_0 rfl ?_
  refine zg_X6_2 (n := 4) dX6_kind_1 rfl zl_X6_26 ?_
  refine zi_iload1 (n := 5) dX6_kind_4 rfl ?_
  refine zi_V1s (mj := zm_X4_has) (n := 8) dX6_kind_5 rfl zl_X6_153 zy_X4_has (zrc_sq _ _ (by omega)) (by decide) (Nat.le_of_ble_eq_true rfl) (zrr (j := 1) (c_X4_has (S := Q 1) (j := 1) (by decide))) ?_
  refine zi_ifeq_b (n := 11) (tgt := 23) dX6_kind_8 rfl (by decide) (fun h8 => ?_) (fun h8 => ?_)
  · refine zi_ldc (n := 25) dX6_kind_23 rfl zl_X6_67 ?_
    exact zi_iret dX6_kind_25 rfl (by rfl) (by rfl)
  · first | exact absurd hb h8 | exact absurd h8 hb
set_option maxHeartbeats 4000000 in
set_option maxRecDepth 100000 in
theorem x_kind_ok (hn : Q 1 0 0 = nI n) (h6 : n ≤ 6) {p : Nat} (hp : p < n) : zCT E 1 zm_X6_kind [.ref (zad E 145), .int (nI p)] (Q, Z) (some (.int (Q 1 1 p))) (Q, Z) := by
  refine zCT.of (by decide +kernel) (Nat.le_of_ble_eq_true rfl) ?_
  have a1 := zhas hn h6 hp
  refine zi_aload0 (n := 1) dX6_kind_0 rfl ?_
  refine zg_X6_2 (n := 4) dX6_kind_1 rfl zl_X6_26 ?_
  refine zi_iload1 (n := 5) dX6_kind_4 rfl ?_
  refine zi_V1s (mj := zm_X4_has) (n := 8) dX6_kind_5 rfl zl_X6_153 zy_X4_has (zrc_sq _ _ (by omega)) (by decide) (Nat.le_of_ble_eq_true rfl) (zrr (j := 1) (c_X4_has (S := Q 1) (j := 1) (by decide))) ?_
  refine zi_ifeq_b (n := 11) (tgt := 23) dX6_kind_8 rfl (by decide) (fun h8 => ?_) (fun h8 => ?_)
  · first | exact absurd a1 h8 | exact absurd h8 a1
  · refine zi_aload0 (n := 12) dX6_kind_11 rfl ?_
    refine zg_X6_2 (n := 15) dX6_kind_12 rfl zl_X6_26 ?_
    refine zgN_X4_9 (n := 18) dX6_kind_15 rfl zl_X6_276 (by omega) ?_
    refine zi_iload1 (n := 19) dX6_kind_18 rfl ?_
    refine zi_qald (n := 20) dX6_kind_19 rfl (by omega) (by decide) rfl (by omega) rfl ?_
    refine zi_goto (tgt := 25) dX6_kind_20 (by decide) ?_
    exact zi_iret dX6_kind_25 rfl (by rfl) (by rfl)
set_option maxHeartbeats 4000000 in
set_option maxRecDepth 100000 in
theorem x_as_bad {x y : Int32} (hb : ¬ ((¬ x < 0 ∧ ¬ Q 1 0 0 ≤ x) ∧ (nI 0 ≤ y ∧ y ≤ nI 5))) : zCT E 2 zm_X6_as [.ref (zad E 145), .int x, .int y] (Q, Z) (some (.int zBAD)) (Q, Z) := by
  refine zCT.of (by decide +kernel) (Nat.le_of_ble_eq_true rfl) ?_
  refine zi_aload0 (n := 1) dX6_as_0 rfl ?_
  refine zg_X6_2 (n := 4) dX6_as_1 rfl zl_X6_26 ?_
  refine zi_iload1 (n := 5) dX6_as_4 rfl ?_
  refine zi_V1s (mj := zm_X4_has) (n := 8) dX6_as_5 rfl zl_X6_153 zy_X4_has (zrc_sq _ _ (by omega)) (by decide) (Nat.le_of_ble_eq_true rfl) (zrr (j := 1) (c_X4_has (S := Q 1) (j := 1) (by decide))) ?_
  refine zi_ifeq_b (n := 11) (tgt := 20) dX6_as_8 rfl (by decide) (fun h8 => ?_) (fun h8 => ?_)
  · refine zi_ldc (n := 22) dX6_as_20 rfl zl_X6_67 ?_
    exact zi_iret dX6_as_22 rfl (by rfl) (by rfl)
  · refine zi_iload2 (n := 12) dX6_as_11 rfl ?_
    refine zi_iconst (n := 13) (nI 0) dX6_as_12 rfl (by decide) ?_
    refine zi_iconst (n := 14) (nI 5) dX6_as_13 rfl (by decide) ?_
    refine zi_S3s (mj := zm_X6_within) (n := 17) dX6_as_14 rfl zl_X6_63 zy_X6_within (by decide) (Nat.le_of_ble_eq_true rfl) (c_X6_within) ?_
    refine zi_ifne_b (n := 20) (tgt := 23) dX6_as_17 rfl (by decide) (fun h17 => ?_) (fun h17 => ?_)
    · exact absurd ⟨h8, h17⟩ hb
    · refine zi_ldc (n := 22) dX6_as_20 rfl zl_X6_67 ?_
      exact zi_iret dX6_as_22 rfl (by rfl) (by rfl)
set_option maxHeartbeats 4000000 in
set_option maxRecDepth 100000 in
theorem x_as_no (hn : Q 1 0 0 = nI n) (h6 : n ≤ 6) {p : Nat} (hp : p < n) {k : Nat} (hk : Q 1 1 p = nI k) (hk6 : k < 6) {y : Int32} (hy : (nI 0 ≤ y ∧ y ≤ nI 5)) (ho : ¬ zofC 6 k y = true) : zCT E 2 zm_X6_as [.ref (zad E 145), .int (nI p), .int y] (Q, Z) (some (.int (-1000010 - nI 3))) (Q, zsu Z 145 9 (nI 3)) := by
  refine zCT.of (by decide +kernel) (Nat.le_of_ble_eq_true rfl) ?_
  have a1 := zhas hn h6 hp
  refine zi_aload0 (n := 1) dX6_as_0 rfl ?_
  refine zg_X6_2 (n := 4) dX6_as_1 rfl zl_X6_26 ?_
  refine zi_iload1 (n := 5) dX6_as_4 rfl ?_
  refine zi_V1s (mj := zm_X4_has) (n := 8) dX6_as_5 rfl zl_X6_153 zy_X4_has (zrc_sq _ _ (by omega)) (by decide) (Nat.le_of_ble_eq_true rfl) (zrr (j := 1) (c_X4_has (S := Q 1) (j := 1) (by decide))) ?_
  refine zi_ifeq_b (n := 11) (tgt := 20) dX6_as_8 rfl (by decide) (fun h8 => ?_) (fun h8 => ?_)
  · first | exact absurd a1 h8 | exact absurd h8 a1
  · refine zi_iload2 (n := 12) dX6_as_11 rfl ?_
    refine zi_iconst (n := 13) (nI 0) dX6_as_12 rfl (by decide) ?_
    refine zi_iconst (n := 14) (nI 5) dX6_as_13 rfl (by decide) ?_
    refine zi_S3s (mj := zm_X6_within) (n := 17) dX6_as_14 rfl zl_X6_63 zy_X6_within (by decide) (Nat.le_of_ble_eq_true rfl) (c_X6_within) ?_
    refine zi_ifne_b (n := 20) (tgt := 23) dX6_as_17 rfl (by decide) (fun h17 => ?_) (fun h17 => ?_)
    · refine zi_aload0 (n := 24) dX6_as_23 rfl ?_
      refine zg_X6_2 (n := 27) dX6_as_24 rfl zl_X6_26 ?_
      refine zgN_X4_9 (n := 30) dX6_as_27 rfl zl_X6_276 (by omega) ?_
      refine zi_iload1 (n := 31) dX6_as_30 rfl ?_
      refine zi_qald (n := 32) dX6_as_31 rfl (by decide) (by decide) rfl (by omega) hk ?_
      refine zi_iload2 (n := 33) dX6_as_32 rfl ?_
      refine zi_S2s (mj := zm_X6_isOfKind) (n := 36) dX6_as_33 rfl zl_X6_279 zy_X6_isOfKind (by decide) (Nat.le_of_ble_eq_true rfl) (c_X6_isOfKind hk6) ?_
      refine zi_ifne_b (n := 39) (tgt := 45) dX6_as_36 rfl (by decide) (fun h36 => ?_) (fun h36 => ?_)
      · first | exact absurd ho h36 | exact absurd h36 ho
      · refine zi_aload0 (n := 40) dX6_as_39 rfl ?_
        refine zi_iconst (n := 41) (nI 3) dX6_as_40 rfl (by decide) ?_
        refine zi_V1s (mj := zm_X6_found) (n := 44) dX6_as_41 rfl zl_X6_68 zy_X6_found (zrc_X6 _ _) (by decide) (Nat.le_of_ble_eq_true rfl) (c_X6_found) ?_
        exact zi_iret dX6_as_44 rfl (by rfl) (by rfl)
    · first | exact absurd hy h17 | exact absurd h17 hy
set_option maxHeartbeats 4000000 in
set_option maxRecDepth 100000 in
theorem x_as_ok (hn : Q 1 0 0 = nI n) (h6 : n ≤ 6) {p : Nat} (hp : p < n) {k : Nat} (hk : Q 1 1 p = nI k) (hk6 : k < 6) {y : Int32} (hy : (nI 0 ≤ y ∧ y ≤ nI 5)) (ho : zofC 6 k y = true) : zCT E 2 zm_X6_as [.ref (zad E 145), .int (nI p), .int y] (Q, Z) (some (.int (nI p))) (Q, zsu Z 145 9 (nI 0)) := by
  refine zCT.of (by decide +kernel) (Nat.le_of_ble_eq_true rfl) ?_
  have a1 := zhas hn h6 hp
  refine zi_aload0 (n := 1) dX6_as_0 rfl ?_
  refine zg_X6_2 (n := 4) dX6_as_1 rfl zl_X6_26 ?_
  refine zi_iload1 (n := 5) dX6_as_4 rfl ?_
  refine zi_V1s (mj := zm_X4_has) (n := 8) dX6_as_5 rfl zl_X6_153 zy_X4_has (zrc_sq _ _ (by omega)) (by decide) (Nat.le_of_ble_eq_true rfl) (zrr (j := 1) (c_X4_has (S := Q 1) (j := 1) (by decide))) ?_
  refine zi_ifeq_b (n := 11) (tgt := 20) dX6_as_8 rfl (by decide) (fun h8 => ?_) (fun h8 => ?_)
  · first | exact absurd a1 h8 | exact absurd h8 a1
  · refine zi_iload2 (n := 12) dX6_as_11 rfl ?_
    refine zi_iconst (n := 13) (nI 0) dX6_as_12 rfl (by decide) ?_
    refine zi_iconst (n := 14) (nI 5) dX6_as_13 rfl (by decide) ?_
    refine zi_S3s (mj := zm_X6_within) (n := 17) dX6_as_14 rfl zl_X6_63 zy_X6_within (by decide) (Nat.le_of_ble_eq_true rfl) (c_X6_within) ?_
    refine zi_ifne_b (n := 20) (tgt := 23) dX6_as_17 rfl (by decide) (fun h17 => ?_) (fun h17 => ?_)
    · refine zi_aload0 (n := 24) dX6_as_23 rfl ?_
      refine zg_X6_2 (n := 27) dX6_as_24 rfl zl_X6_26 ?_
      refine zgN_X4_9 (n := 30) dX6_as_27 rfl zl_X6_276 (by omega) ?_
      refine zi_iload1 (n := 31) dX6_as_30 rfl ?_
      refine zi_qald (n := 32) dX6_as_31 rfl (by decide) (by decide) rfl (by omega) hk ?_
      refine zi_iload2 (n := 33) dX6_as_32 rfl ?_
      refine zi_S2s (mj := zm_X6_isOfKind) (n := 36) dX6_as_33 rfl zl_X6_279 zy_X6_isOfKind (by decide) (Nat.le_of_ble_eq_true rfl) (c_X6_isOfKind hk6) ?_
      refine zi_ifne_b (n := 39) (tgt := 45) dX6_as_36 rfl (by decide) (fun h36 => ?_) (fun h36 => ?_)
      · refine zi_aload0 (n := 46) dX6_as_45 rfl ?_
        refine zi_iconst (n := 47) (nI 0) dX6_as_46 rfl (by decide) ?_
        refine zp_X6_9 (n := 50) dX6_as_47 rfl zl_X6_72 rfl ?_
        refine zi_iload1 (n := 51) dX6_as_50 rfl ?_
        exact zi_iret dX6_as_51 rfl (by rfl) (by rfl)
      · first | exact absurd ho h36 | exact absurd h36 ho
    · first | exact absurd hy h17 | exact absurd h17 hy
theorem zTM_of {t : Nat} (ht : Z 163 2 = nI t) : zTM Z (t, Z 164) = Z := by
  have e : upd (Z 163) 2 (nI t) = Z 163 := by
    funext k
    unfold upd
    split
    · rename_i h; rw [h, ht]
    · rfl
  unfold zTM
  dsimp only
  rw [e, zup_same, zup_same]
set_option maxHeartbeats 4000000 in
set_option maxRecDepth 100000 in
theorem x_ask_bad {x y : Int32} (hb : ¬ ((¬ x < 0 ∧ ¬ Q 1 0 0 ≤ x) ∧ (nI 0 ≤ y ∧ y ≤ nI 1))) : zCT E 9 zm_X6_ask [.ref (zad E 145), .int x, .int y] (Q, Z) (some (.int zBAD)) (Q, Z) := by
  refine zCT.of (by decide +kernel) (Nat.le_of_ble_eq_true rfl) ?_
  refine zi_aload0 (n := 1) dX6_ask_0 rfl ?_
  refine zg_X6_2 (n := 4) dX6_ask_1 rfl zl_X6_26 ?_
  refine zi_iload1 (n := 5) dX6_ask_4 rfl ?_
  refine zi_V1s (mj := zm_X4_has) (n := 8) dX6_ask_5 rfl zl_X6_153 zy_X4_has (zrc_sq _ _ (by omega)) (by decide) (Nat.le_of_ble_eq_true rfl) (zrr (j := 1) (c_X4_has (S := Q 1) (j := 1) (by decide))) ?_
  refine zi_ifeq_b (n := 11) (tgt := 20) dX6_ask_8 rfl (by decide) (fun h8 => ?_) (fun h8 => ?_)
  · refine zi_ldc (n := 22) dX6_ask_20 rfl zl_X6_67 ?_
    exact zi_iret dX6_ask_22 rfl (by rfl) (by rfl)
  · refine zi_iload2 (n := 12) dX6_ask_11 rfl ?_
    refine zi_iconst (n := 13) (nI 0) dX6_ask_12 rfl (by decide) ?_
    refine zi_iconst (n := 14) (nI 1) dX6_ask_13 rfl (by decide) ?_
    refine zi_S3s (mj := zm_X6_within) (n := 17) dX6_ask_14 rfl zl_X6_63 zy_X6_within (by decide) (Nat.le_of_ble_eq_true rfl) (c_X6_within) ?_
    refine zi_ifne_b (n := 20) (tgt := 23) dX6_ask_17 rfl (by decide) (fun h17 => ?_) (fun h17 => ?_)
    · exact absurd ⟨h8, h17⟩ hb
    · refine zi_ldc (n := 22) dX6_ask_20 rfl zl_X6_67 ?_
      exact zi_iret dX6_ask_22 rfl (by rfl) (by rfl)
set_option maxHeartbeats 4000000 in
set_option maxRecDepth 100000 in
theorem x_ask_10 (hn : Q 1 0 0 = nI n) (h6 : n ≤ 6) {p : Nat} (hp : p < n) (hk : Q 1 1 p = nI 1) {t : Nat} (ht : Z 163 2 = nI t) : zCT E 9 zm_X6_ask [.ref (zad E 145), .int (nI p), .int (nI 0)] (Q, Z) (some (.int (Q 1 4 p + (nI p + Q 1 2 p)))) (Q, zTM Z (zpush (zpush (zpush (zpush (0, Z 164) (nI 11)) (nI 10)) (nI 21)) (nI 20))) := by
  refine zCT.of (by decide +kernel) (Nat.le_of_ble_eq_true rfl) ?_
  have a1 := zhas hn h6 hp
  have a3 : nI 0 ≤ nI 0 ∧ nI 0 ≤ nI 1 := by decide
  have cc := c_ans_10 (E := E) (Q := Q) (Z := Z) (w := (t, Z 164)) (p := p) (by omega) hk
  rw [zTM_of ht] at cc
  refine zi_aload0 (n := 1) dX6_ask_0 rfl ?_
  refine zg_X6_2 (n := 4) dX6_ask_1 rfl zl_X6_26 ?_
  refine zi_iload1 (n := 5) dX6_ask_4 rfl ?_
  refine zi_V1s (mj := zm_X4_has) (n := 8) dX6_ask_5 rfl zl_X6_153 zy_X4_has (zrc_sq _ _ (by omega)) (by decide) (Nat.le_of_ble_eq_true rfl) (zrr (j := 1) (c_X4_has (S := Q 1) (j := 1) (by decide))) ?_
  refine zi_ifeq_b (n := 11) (tgt := 20) dX6_ask_8 rfl (by decide) (fun h8 => ?_) (fun h8 => ?_)
  · first | exact absurd a1 h8 | exact absurd h8 a1
  · refine zi_iload2 (n := 12) dX6_ask_11 rfl ?_
    refine zi_iconst (n := 13) (nI 0) dX6_ask_12 rfl (by decide) ?_
    refine zi_iconst (n := 14) (nI 1) dX6_ask_13 rfl (by decide) ?_
    refine zi_S3s (mj := zm_X6_within) (n := 17) dX6_ask_14 rfl zl_X6_63 zy_X6_within (by decide) (Nat.le_of_ble_eq_true rfl) (c_X6_within) ?_
    refine zi_ifne_b (n := 20) (tgt := 23) dX6_ask_17 rfl (by decide) (fun h17 => ?_) (fun h17 => ?_)
    · refine zi_aload0 (n := 24) dX6_ask_23 rfl ?_
      refine zg_X6_7 (n := 27) dX6_ask_24 rfl zl_X6_55 ?_
      refine zi_iload1 (n := 28) dX6_ask_27 rfl ?_
      refine zi_iload2 (n := 29) dX6_ask_28 rfl ?_
      refine zi_V2s (mj := zm_X1_answer) (n := 32) dX6_ask_29 rfl zl_X6_283 zy_X1_answer (zrc_X1 _ _) (by decide) (Nat.le_of_ble_eq_true rfl) cc ?_
      exact zi_iret dX6_ask_32 rfl (by rfl) (by rfl)
    · first | exact absurd a3 h17 | exact absurd h17 a3
set_option maxHeartbeats 4000000 in
set_option maxRecDepth 100000 in
theorem x_ask_11 (hn : Q 1 0 0 = nI n) (h6 : n ≤ 6) {p : Nat} (hp : p < n) (hk : Q 1 1 p = nI 1) {t : Nat} (ht : Z 163 2 = nI t) : zCT E 9 zm_X6_ask [.ref (zad E 145), .int (nI p), .int (nI 1)] (Q, Z) (some (.int (nI p + Q 1 2 p))) (Q, zTM Z (zpush (zpush (0, Z 164) (nI 21)) (nI 20))) := by
  refine zCT.of (by decide +kernel) (Nat.le_of_ble_eq_true rfl) ?_
  have a1 := zhas hn h6 hp
  have a3 : nI 0 ≤ nI 1 ∧ nI 1 ≤ nI 1 := by decide
  have cc := c_ans_11 (E := E) (Q := Q) (Z := Z) (w := (t, Z 164)) (p := p) (by omega) hk
  rw [zTM_of ht] at cc
  refine zi_aload0 (n := 1) dX6_ask_0 rfl ?_
  refine zg_X6_2 (n := 4) dX6_ask_1 rfl zl_X6_26 ?_
  refine zi_iload1 (n := 5) dX6_ask_4 rfl ?_
  refine zi_V1s (mj := zm_X4_has) (n := 8) dX6_ask_5 rfl zl_X6_153 zy_X4_has (zrc_sq _ _ (by omega)) (by decide) (Nat.le_of_ble_eq_true rfl) (zrr (j := 1) (c_X4_has (S := Q 1) (j := 1) (by decide))) ?_
  refine zi_ifeq_b (n := 11) (tgt := 20) dX6_ask_8 rfl (by decide) (fun h8 => ?_) (fun h8 => ?_)
  · first | exact absurd a1 h8 | exact absurd h8 a1
  · refine zi_iload2 (n := 12) dX6_ask_11 rfl ?_
    refine zi_iconst (n := 13) (nI 0) dX6_ask_12 rfl (by decide) ?_
    refine zi_iconst (n := 14) (nI 1) dX6_ask_13 rfl (by decide) ?_
    refine zi_S3s (mj := zm_X6_within) (n := 17) dX6_ask_14 rfl zl_X6_63 zy_X6_within (by decide) (Nat.le_of_ble_eq_true rfl) (c_X6_within) ?_
    refine zi_ifne_b (n := 20) (tgt := 23) dX6_ask_17 rfl (by decide) (fun h17 => ?_) (fun h17 => ?_)
    · refine zi_aload0 (n := 24) dX6_ask_23 rfl ?_
      refine zg_X6_7 (n := 27) dX6_ask_24 rfl zl_X6_55 ?_
      refine zi_iload1 (n := 28) dX6_ask_27 rfl ?_
      refine zi_iload2 (n := 29) dX6_ask_28 rfl ?_
      refine zi_V2s (mj := zm_X1_answer) (n := 32) dX6_ask_29 rfl zl_X6_283 zy_X1_answer (zrc_X1 _ _) (by decide) (Nat.le_of_ble_eq_true rfl) cc ?_
      exact zi_iret dX6_ask_32 rfl (by rfl) (by rfl)
    · first | exact absurd a3 h17 | exact absurd h17 a3
set_option maxHeartbeats 4000000 in
set_option maxRecDepth 100000 in
theorem x_ask_20 (hn : Q 1 0 0 = nI n) (h6 : n ≤ 6) {p : Nat} (hp : p < n) (hk : Q 1 1 p = nI 2) {t : Nat} (ht : Z 163 2 = nI t) : zCT E 9 zm_X6_ask [.ref (zad E 145), .int (nI p), .int (nI 0)] (Q, Z) (some (.int (-(Q 1 4 p + (nI p + Q 1 2 p) * nI 2)))) (Q, zTM Z (zpush (zpush (zpush (zpush (zpush (zpush (0, Z 164) (nI 12)) (nI 11)) (nI 10)) (nI 24)) (nI 21)) (nI 20))) := by
  refine zCT.of (by decide +kernel) (Nat.le_of_ble_eq_true rfl) ?_
  have a1 := zhas hn h6 hp
  have a3 : nI 0 ≤ nI 0 ∧ nI 0 ≤ nI 1 := by decide
  have cc := c_ans_20 (E := E) (Q := Q) (Z := Z) (w := (t, Z 164)) (p := p) (by omega) hk
  rw [zTM_of ht] at cc
  refine zi_aload0 (n := 1) dX6_ask_0 rfl ?_
  refine zg_X6_2 (n := 4) dX6_ask_1 rfl zl_X6_26 ?_
  refine zi_iload1 (n := 5) dX6_ask_4 rfl ?_
  refine zi_V1s (mj := zm_X4_has) (n := 8) dX6_ask_5 rfl zl_X6_153 zy_X4_has (zrc_sq _ _ (by omega)) (by decide) (Nat.le_of_ble_eq_true rfl) (zrr (j := 1) (c_X4_has (S := Q 1) (j := 1) (by decide))) ?_
  refine zi_ifeq_b (n := 11) (tgt := 20) dX6_ask_8 rfl (by decide) (fun h8 => ?_) (fun h8 => ?_)
  · first | exact absurd a1 h8 | exact absurd h8 a1
  · refine zi_iload2 (n := 12) dX6_ask_11 rfl ?_
    refine zi_iconst (n := 13) (nI 0) dX6_ask_12 rfl (by decide) ?_
    refine zi_iconst (n := 14) (nI 1) dX6_ask_13 rfl (by decide) ?_
    refine zi_S3s (mj := zm_X6_within) (n := 17) dX6_ask_14 rfl zl_X6_63 zy_X6_within (by decide) (Nat.le_of_ble_eq_true rfl) (c_X6_within) ?_
    refine zi_ifne_b (n := 20) (tgt := 23) dX6_ask_17 rfl (by decide) (fun h17 => ?_) (fun h17 => ?_)
    · refine zi_aload0 (n := 24) dX6_ask_23 rfl ?_
      refine zg_X6_7 (n := 27) dX6_ask_24 rfl zl_X6_55 ?_
      refine zi_iload1 (n := 28) dX6_ask_27 rfl ?_
      refine zi_iload2 (n := 29) dX6_ask_28 rfl ?_
      refine zi_V2s (mj := zm_X1_answer) (n := 32) dX6_ask_29 rfl zl_X6_283 zy_X1_answer (zrc_X1 _ _) (by decide) (Nat.le_of_ble_eq_true rfl) cc ?_
      exact zi_iret dX6_ask_32 rfl (by rfl) (by rfl)
    · first | exact absurd a3 h17 | exact absurd h17 a3
set_option maxHeartbeats 4000000 in
set_option maxRecDepth 100000 in
theorem x_ask_21 (hn : Q 1 0 0 = nI n) (h6 : n ≤ 6) {p : Nat} (hp : p < n) (hk : Q 1 1 p = nI 2) {t : Nat} (ht : Z 163 2 = nI t) : zCT E 9 zm_X6_ask [.ref (zad E 145), .int (nI p), .int (nI 1)] (Q, Z) (some (.int ((nI p + Q 1 2 p) * nI 2))) (Q, zTM Z (zpush (zpush (zpush (0, Z 164) (nI 24)) (nI 21)) (nI 20))) := by
  refine zCT.of (by decide +kernel) (Nat.le_of_ble_eq_true rfl) ?_
  have a1 := zhas hn h6 hp
  have a3 : nI 0 ≤ nI 1 ∧ nI 1 ≤ nI 1 := by decide
  have cc := c_ans_21 (E := E) (Q := Q) (Z := Z) (w := (t, Z 164)) (p := p) (by omega) hk
  rw [zTM_of ht] at cc
  refine zi_aload0 (n := 1) dX6_ask_0 rfl ?_
  refine zg_X6_2 (n := 4) dX6_ask_1 rfl zl_X6_26 ?_
  refine zi_iload1 (n := 5) dX6_ask_4 rfl ?_
  refine zi_V1s (mj := zm_X4_has) (n := 8) dX6_ask_5 rfl zl_X6_153 zy_X4_has (zrc_sq _ _ (by omega)) (by decide) (Nat.le_of_ble_eq_true rfl) (zrr (j := 1) (c_X4_has (S := Q 1) (j := 1) (by decide))) ?_
  refine zi_ifeq_b (n := 11) (tgt := 20) dX6_ask_8 rfl (by decide) (fun h8 => ?_) (fun h8 => ?_)
  · first | exact absurd a1 h8 | exact absurd h8 a1
  · refine zi_iload2 (n := 12) dX6_ask_11 rfl ?_
    refine zi_iconst (n := 13) (nI 0) dX6_ask_12 rfl (by decide) ?_
    refine zi_iconst (n := 14) (nI 1) dX6_ask_13 rfl (by decide) ?_
    refine zi_S3s (mj := zm_X6_within) (n := 17) dX6_ask_14 rfl zl_X6_63 zy_X6_within (by decide) (Nat.le_of_ble_eq_true rfl) (c_X6_within) ?_
    refine zi_ifne_b (n := 20) (tgt := 23) dX6_ask_17 rfl (by decide) (fun h17 => ?_) (fun h17 => ?_)
    · refine zi_aload0 (n := 24) dX6_ask_23 rfl ?_
      refine zg_X6_7 (n := 27) dX6_ask_24 rfl zl_X6_55 ?_
      refine zi_iload1 (n := 28) dX6_ask_27 rfl ?_
      refine zi_iload2 (n := 29) dX6_ask_28 rfl ?_
      refine zi_V2s (mj := zm_X1_answer) (n := 32) dX6_ask_29 rfl zl_X6_283 zy_X1_answer (zrc_X1 _ _) (by decide) (Nat.le_of_ble_eq_true rfl) cc ?_
      exact zi_iret dX6_ask_32 rfl (by rfl) (by rfl)
    · first | exact absurd a3 h17 | exact absurd h17 a3
set_option maxHeartbeats 4000000 in
set_option maxRecDepth 100000 in
theorem x_ask_30 (hn : Q 1 0 0 = nI n) (h6 : n ≤ 6) {p : Nat} (hp : p < n) (hk : Q 1 1 p = nI 3) {t : Nat} (ht : Z 163 2 = nI t) : zCT E 9 zm_X6_ask [.ref (zad E 145), .int (nI p), .int (nI 0)] (Q, Z) (some (.int (Q 1 4 p + (nI p + Q 1 2 p - nI 1000)))) (Q, zTM Z (zpush (zpush (zpush (zpush (zpush (0, Z 164) (nI 11)) (nI 10)) (nI 22)) (nI 21)) (nI 20))) := by
  refine zCT.of (by decide +kernel) (Nat.le_of_ble_eq_true rfl) ?_
  have a1 := zhas hn h6 hp
  have a3 : nI 0 ≤ nI 0 ∧ nI 0 ≤ nI 1 := by decide
  have cc := c_ans_30 (E := E) (Q := Q) (Z := Z) (w := (t, Z 164)) (p := p) (by omega) hk
  rw [zTM_of ht] at cc
  refine zi_aload0 (n := 1) dX6_ask_0 rfl ?_
  refine zg_X6_2 (n := 4) dX6_ask_1 rfl zl_X6_26 ?_
  refine zi_iload1 (n := 5) dX6_ask_4 rfl ?_
  refine zi_V1s (mj := zm_X4_has) (n := 8) dX6_ask_5 rfl zl_X6_153 zy_X4_has (zrc_sq _ _ (by omega)) (by decide) (Nat.le_of_ble_eq_true rfl) (zrr (j := 1) (c_X4_has (S := Q 1) (j := 1) (by decide))) ?_
  refine zi_ifeq_b (n := 11) (tgt := 20) dX6_ask_8 rfl (by decide) (fun h8 => ?_) (fun h8 => ?_)
  · first | exact absurd a1 h8 | exact absurd h8 a1
  · refine zi_iload2 (n := 12) dX6_ask_11 rfl ?_
    refine zi_iconst (n := 13) (nI 0) dX6_ask_12 rfl (by decide) ?_
    refine zi_iconst (n := 14) (nI 1) dX6_ask_13 rfl (by decide) ?_
    refine zi_S3s (mj := zm_X6_within) (n := 17) dX6_ask_14 rfl zl_X6_63 zy_X6_within (by decide) (Nat.le_of_ble_eq_true rfl) (c_X6_within) ?_
    refine zi_ifne_b (n := 20) (tgt := 23) dX6_ask_17 rfl (by decide) (fun h17 => ?_) (fun h17 => ?_)
    · refine zi_aload0 (n := 24) dX6_ask_23 rfl ?_
      refine zg_X6_7 (n := 27) dX6_ask_24 rfl zl_X6_55 ?_
      refine zi_iload1 (n := 28) dX6_ask_27 rfl ?_
      refine zi_iload2 (n := 29) dX6_ask_28 rfl ?_
      refine zi_V2s (mj := zm_X1_answer) (n := 32) dX6_ask_29 rfl zl_X6_283 zy_X1_answer (zrc_X1 _ _) (by decide) (Nat.le_of_ble_eq_true rfl) cc ?_
      exact zi_iret dX6_ask_32 rfl (by rfl) (by rfl)
    · first | exact absurd a3 h17 | exact absurd h17 a3
set_option maxHeartbeats 4000000 in
set_option maxRecDepth 100000 in
theorem x_ask_31 (hn : Q 1 0 0 = nI n) (h6 : n ≤ 6) {p : Nat} (hp : p < n) (hk : Q 1 1 p = nI 3) {t : Nat} (ht : Z 163 2 = nI t) : zCT E 9 zm_X6_ask [.ref (zad E 145), .int (nI p), .int (nI 1)] (Q, Z) (some (.int (nI p + Q 1 2 p - nI 1000))) (Q, zTM Z (zpush (zpush (zpush (0, Z 164) (nI 22)) (nI 21)) (nI 20))) := by
  refine zCT.of (by decide +kernel) (Nat.le_of_ble_eq_true rfl) ?_
  have a1 := zhas hn h6 hp
  have a3 : nI 0 ≤ nI 1 ∧ nI 1 ≤ nI 1 := by decide
  have cc := c_ans_31 (E := E) (Q := Q) (Z := Z) (w := (t, Z 164)) (p := p) (by omega) hk
  rw [zTM_of ht] at cc
  refine zi_aload0 (n := 1) dX6_ask_0 rfl ?_
  refine zg_X6_2 (n := 4) dX6_ask_1 rfl zl_X6_26 ?_
  refine zi_iload1 (n := 5) dX6_ask_4 rfl ?_
  refine zi_V1s (mj := zm_X4_has) (n := 8) dX6_ask_5 rfl zl_X6_153 zy_X4_has (zrc_sq _ _ (by omega)) (by decide) (Nat.le_of_ble_eq_true rfl) (zrr (j := 1) (c_X4_has (S := Q 1) (j := 1) (by decide))) ?_
  refine zi_ifeq_b (n := 11) (tgt := 20) dX6_ask_8 rfl (by decide) (fun h8 => ?_) (fun h8 => ?_)
  · first | exact absurd a1 h8 | exact absurd h8 a1
  · refine zi_iload2 (n := 12) dX6_ask_11 rfl ?_
    refine zi_iconst (n := 13) (nI 0) dX6_ask_12 rfl (by decide) ?_
    refine zi_iconst (n := 14) (nI 1) dX6_ask_13 rfl (by decide) ?_
    refine zi_S3s (mj := zm_X6_within) (n := 17) dX6_ask_14 rfl zl_X6_63 zy_X6_within (by decide) (Nat.le_of_ble_eq_true rfl) (c_X6_within) ?_
    refine zi_ifne_b (n := 20) (tgt := 23) dX6_ask_17 rfl (by decide) (fun h17 => ?_) (fun h17 => ?_)
    · refine zi_aload0 (n := 24) dX6_ask_23 rfl ?_
      refine zg_X6_7 (n := 27) dX6_ask_24 rfl zl_X6_55 ?_
      refine zi_iload1 (n := 28) dX6_ask_27 rfl ?_
      refine zi_iload2 (n := 29) dX6_ask_28 rfl ?_
      refine zi_V2s (mj := zm_X1_answer) (n := 32) dX6_ask_29 rfl zl_X6_283 zy_X1_answer (zrc_X1 _ _) (by decide) (Nat.le_of_ble_eq_true rfl) cc ?_
      exact zi_iret dX6_ask_32 rfl (by rfl) (by rfl)
    · first | exact absurd a3 h17 | exact absurd h17 a3
set_option maxHeartbeats 4000000 in
set_option maxRecDepth 100000 in
theorem x_ask_40 (hn : Q 1 0 0 = nI n) (h6 : n ≤ 6) {p : Nat} (hp : p < n) (hk : Q 1 1 p = nI 4) {t : Nat} (ht : Z 163 2 = nI t) : zCT E 9 zm_X6_ask [.ref (zad E 145), .int (nI p), .int (nI 0)] (Q, Z) (some (.int (Q 1 4 p - nI 100))) (Q, zTM Z (zpush (zpush (0, Z 164) (nI 13)) (nI 10))) := by
  refine zCT.of (by decide +kernel) (Nat.le_of_ble_eq_true rfl) ?_
  have a1 := zhas hn h6 hp
  have a3 : nI 0 ≤ nI 0 ∧ nI 0 ≤ nI 1 := by decide
  have cc := c_ans_40 (E := E) (Q := Q) (Z := Z) (w := (t, Z 164)) (p := p) (by omega) hk
  rw [zTM_of ht] at cc
  refine zi_aload0 (n := 1) dX6_ask_0 rfl ?_
  refine zg_X6_2 (n := 4) dX6_ask_1 rfl zl_X6_26 ?_
  refine zi_iload1 (n := 5) dX6_ask_4 rfl ?_
  refine zi_V1s (mj := zm_X4_has) (n := 8) dX6_ask_5 rfl zl_X6_153 zy_X4_has (zrc_sq _ _ (by omega)) (by decide) (Nat.le_of_ble_eq_true rfl) (zrr (j := 1) (c_X4_has (S := Q 1) (j := 1) (by decide))) ?_
  refine zi_ifeq_b (n := 11) (tgt := 20) dX6_ask_8 rfl (by decide) (fun h8 => ?_) (fun h8 => ?_)
  · first | exact absurd a1 h8 | exact absurd h8 a1
  · refine zi_iload2 (n := 12) dX6_ask_11 rfl ?_
    refine zi_iconst (n := 13) (nI 0) dX6_ask_12 rfl (by decide) ?_
    refine zi_iconst (n := 14) (nI 1) dX6_ask_13 rfl (by decide) ?_
    refine zi_S3s (mj := zm_X6_within) (n := 17) dX6_ask_14 rfl zl_X6_63 zy_X6_within (by decide) (Nat.le_of_ble_eq_true rfl) (c_X6_within) ?_
    refine zi_ifne_b (n := 20) (tgt := 23) dX6_ask_17 rfl (by decide) (fun h17 => ?_) (fun h17 => ?_)
    · refine zi_aload0 (n := 24) dX6_ask_23 rfl ?_
      refine zg_X6_7 (n := 27) dX6_ask_24 rfl zl_X6_55 ?_
      refine zi_iload1 (n := 28) dX6_ask_27 rfl ?_
      refine zi_iload2 (n := 29) dX6_ask_28 rfl ?_
      refine zi_V2s (mj := zm_X1_answer) (n := 32) dX6_ask_29 rfl zl_X6_283 zy_X1_answer (zrc_X1 _ _) (by decide) (Nat.le_of_ble_eq_true rfl) cc ?_
      exact zi_iret dX6_ask_32 rfl (by rfl) (by rfl)
    · first | exact absurd a3 h17 | exact absurd h17 a3
set_option maxHeartbeats 4000000 in
set_option maxRecDepth 100000 in
theorem x_ask_41 (hn : Q 1 0 0 = nI n) (h6 : n ≤ 6) {p : Nat} (hp : p < n) (hk : Q 1 1 p = nI 4) {t : Nat} (ht : Z 163 2 = nI t) : zCT E 9 zm_X6_ask [.ref (zad E 145), .int (nI p), .int (nI 1)] (Q, Z) (some (.int (nI p - (Q 1 4 p - nI 100)))) (Q, zTM Z (zpush (zpush (zpush (zpush (0, Z 164) (nI 23)) (nI 20)) (nI 13)) (nI 10))) := by
  refine zCT.of (by decide +kernel) (Nat.le_of_ble_eq_true rfl) ?_
  have a1 := zhas hn h6 hp
  have a3 : nI 0 ≤ nI 1 ∧ nI 1 ≤ nI 1 := by decide
  have cc := c_ans_41 (E := E) (Q := Q) (Z := Z) (w := (t, Z 164)) (p := p) (by omega) hk
  rw [zTM_of ht] at cc
  refine zi_aload0 (n := 1) dX6_ask_0 rfl ?_
  refine zg_X6_2 (n := 4) dX6_ask_1 rfl zl_X6_26 ?_
  refine zi_iload1 (n := 5) dX6_ask_4 rfl ?_
  refine zi_V1s (mj := zm_X4_has) (n := 8) dX6_ask_5 rfl zl_X6_153 zy_X4_has (zrc_sq _ _ (by omega)) (by decide) (Nat.le_of_ble_eq_true rfl) (zrr (j := 1) (c_X4_has (S := Q 1) (j := 1) (by decide))) ?_
  refine zi_ifeq_b (n := 11) (tgt := 20) dX6_ask_8 rfl (by decide) (fun h8 => ?_) (fun h8 => ?_)
  · first | exact absurd a1 h8 | exact absurd h8 a1
  · refine zi_iload2 (n := 12) dX6_ask_11 rfl ?_
    refine zi_iconst (n := 13) (nI 0) dX6_ask_12 rfl (by decide) ?_
    refine zi_iconst (n := 14) (nI 1) dX6_ask_13 rfl (by decide) ?_
    refine zi_S3s (mj := zm_X6_within) (n := 17) dX6_ask_14 rfl zl_X6_63 zy_X6_within (by decide) (Nat.le_of_ble_eq_true rfl) (c_X6_within) ?_
    refine zi_ifne_b (n := 20) (tgt := 23) dX6_ask_17 rfl (by decide) (fun h17 => ?_) (fun h17 => ?_)
    · refine zi_aload0 (n := 24) dX6_ask_23 rfl ?_
      refine zg_X6_7 (n := 27) dX6_ask_24 rfl zl_X6_55 ?_
      refine zi_iload1 (n := 28) dX6_ask_27 rfl ?_
      refine zi_iload2 (n := 29) dX6_ask_28 rfl ?_
      refine zi_V2s (mj := zm_X1_answer) (n := 32) dX6_ask_29 rfl zl_X6_283 zy_X1_answer (zrc_X1 _ _) (by decide) (Nat.le_of_ble_eq_true rfl) cc ?_
      exact zi_iret dX6_ask_32 rfl (by rfl) (by rfl)
    · first | exact absurd a3 h17 | exact absurd h17 a3
set_option maxHeartbeats 4000000 in
set_option maxRecDepth 100000 in
theorem x_ask_50 (hn : Q 1 0 0 = nI n) (h6 : n ≤ 6) {p : Nat} (hp : p < n) (hk : Q 1 1 p = nI 5) {t : Nat} (ht : Z 163 2 = nI t) : zCT E 9 zm_X6_ask [.ref (zad E 145), .int (nI p), .int (nI 0)] (Q, Z) (some (.int ((Q 1 4 p - nI 100) * nI 2))) (Q, zTM Z (zpush (zpush (zpush (0, Z 164) (nI 14)) (nI 13)) (nI 10))) := by
  refine zCT.of (by decide +kernel) (Nat.le_of_ble_eq_true rfl) ?_
  have a1 := zhas hn h6 hp
  have a3 : nI 0 ≤ nI 0 ∧ nI 0 ≤ nI 1 := by decide
  have cc := c_ans_50 (E := E) (Q := Q) (Z := Z) (w := (t, Z 164)) (p := p) (by omega) hk
  rw [zTM_of ht] at cc
  refine zi_aload0 (n := 1) dX6_ask_0 rfl ?_
  refine zg_X6_2 (n := 4) dX6_ask_1 rfl zl_X6_26 ?_
  refine zi_iload1 (n := 5) dX6_ask_4 rfl ?_
  refine zi_V1s (mj := zm_X4_has) (n := 8) dX6_ask_5 rfl zl_X6_153 zy_X4_has (zrc_sq _ _ (by omega)) (by decide) (Nat.le_of_ble_eq_true rfl) (zrr (j := 1) (c_X4_has (S := Q 1) (j := 1) (by decide))) ?_
  refine zi_ifeq_b (n := 11) (tgt := 20) dX6_ask_8 rfl (by decide) (fun h8 => ?_) (fun h8 => ?_)
  · first | exact absurd a1 h8 | exact absurd h8 a1
  · refine zi_iload2 (n := 12) dX6_ask_11 rfl ?_
    refine zi_iconst (n := 13) (nI 0) dX6_ask_12 rfl (by decide) ?_
    refine zi_iconst (n := 14) (nI 1) dX6_ask_13 rfl (by decide) ?_
    refine zi_S3s (mj := zm_X6_within) (n := 17) dX6_ask_14 rfl zl_X6_63 zy_X6_within (by decide) (Nat.le_of_ble_eq_true rfl) (c_X6_within) ?_
    refine zi_ifne_b (n := 20) (tgt := 23) dX6_ask_17 rfl (by decide) (fun h17 => ?_) (fun h17 => ?_)
    · refine zi_aload0 (n := 24) dX6_ask_23 rfl ?_
      refine zg_X6_7 (n := 27) dX6_ask_24 rfl zl_X6_55 ?_
      refine zi_iload1 (n := 28) dX6_ask_27 rfl ?_
      refine zi_iload2 (n := 29) dX6_ask_28 rfl ?_
      refine zi_V2s (mj := zm_X1_answer) (n := 32) dX6_ask_29 rfl zl_X6_283 zy_X1_answer (zrc_X1 _ _) (by decide) (Nat.le_of_ble_eq_true rfl) cc ?_
      exact zi_iret dX6_ask_32 rfl (by rfl) (by rfl)
    · first | exact absurd a3 h17 | exact absurd h17 a3
set_option maxHeartbeats 4000000 in
set_option maxRecDepth 100000 in
theorem x_ask_51 (hn : Q 1 0 0 = nI n) (h6 : n ≤ 6) {p : Nat} (hp : p < n) (hk : Q 1 1 p = nI 5) {t : Nat} (ht : Z 163 2 = nI t) : zCT E 9 zm_X6_ask [.ref (zad E 145), .int (nI p), .int (nI 1)] (Q, Z) (some (.int (nI p - (Q 1 4 p - nI 100) * nI 2))) (Q, zTM Z (zpush (zpush (zpush (zpush (zpush (0, Z 164) (nI 23)) (nI 20)) (nI 14)) (nI 13)) (nI 10))) := by
  refine zCT.of (by decide +kernel) (Nat.le_of_ble_eq_true rfl) ?_
  have a1 := zhas hn h6 hp
  have a3 : nI 0 ≤ nI 1 ∧ nI 1 ≤ nI 1 := by decide
  have cc := c_ans_51 (E := E) (Q := Q) (Z := Z) (w := (t, Z 164)) (p := p) (by omega) hk
  rw [zTM_of ht] at cc
  refine zi_aload0 (n := 1) dX6_ask_0 rfl ?_
  refine zg_X6_2 (n := 4) dX6_ask_1 rfl zl_X6_26 ?_
  refine zi_iload1 (n := 5) dX6_ask_4 rfl ?_
  refine zi_V1s (mj := zm_X4_has) (n := 8) dX6_ask_5 rfl zl_X6_153 zy_X4_has (zrc_sq _ _ (by omega)) (by decide) (Nat.le_of_ble_eq_true rfl) (zrr (j := 1) (c_X4_has (S := Q 1) (j := 1) (by decide))) ?_
  refine zi_ifeq_b (n := 11) (tgt := 20) dX6_ask_8 rfl (by decide) (fun h8 => ?_) (fun h8 => ?_)
  · first | exact absurd a1 h8 | exact absurd h8 a1
  · refine zi_iload2 (n := 12) dX6_ask_11 rfl ?_
    refine zi_iconst (n := 13) (nI 0) dX6_ask_12 rfl (by decide) ?_
    refine zi_iconst (n := 14) (nI 1) dX6_ask_13 rfl (by decide) ?_
    refine zi_S3s (mj := zm_X6_within) (n := 17) dX6_ask_14 rfl zl_X6_63 zy_X6_within (by decide) (Nat.le_of_ble_eq_true rfl) (c_X6_within) ?_
    refine zi_ifne_b (n := 20) (tgt := 23) dX6_ask_17 rfl (by decide) (fun h17 => ?_) (fun h17 => ?_)
    · refine zi_aload0 (n := 24) dX6_ask_23 rfl ?_
      refine zg_X6_7 (n := 27) dX6_ask_24 rfl zl_X6_55 ?_
      refine zi_iload1 (n := 28) dX6_ask_27 rfl ?_
      refine zi_iload2 (n := 29) dX6_ask_28 rfl ?_
      refine zi_V2s (mj := zm_X1_answer) (n := 32) dX6_ask_29 rfl zl_X6_283 zy_X1_answer (zrc_X1 _ _) (by decide) (Nat.le_of_ble_eq_true rfl) cc ?_
      exact zi_iret dX6_ask_32 rfl (by rfl) (by rfl)
    · first | exact absurd a3 h17 | exact absurd h17 a3
set_option maxHeartbeats 4000000 in
set_option maxRecDepth 100000 in
theorem x_trace_none {x : Int32} (hb : ¬ (nI 0 ≤ x ∧ x ≤ Z 163 2 - nI 1)) : zCT E 1 zm_X6_trace [.ref (zad E 145), .int x] (Q, Z) (some (.int (-1000000))) (Q, Z) := by
  refine zCT.of (by decide +kernel) (Nat.le_of_ble_eq_true rfl) ?_
  refine zi_iload1 (n := 1) dX6_trace_0 rfl ?_
  refine zi_iconst (n := 2) (nI 0) dX6_trace_1 rfl (by decide) ?_
  refine zi_aload0 (n := 3) dX6_trace_2 rfl ?_
  refine zg_X6_7 (n := 6) dX6_trace_3 rfl zl_X6_55 ?_
  refine zgN_X1_2 (n := 9) dX6_trace_6 rfl zl_X6_286 rfl ?_
  refine zi_iconst (n := 10) (nI 1) dX6_trace_9 rfl (by decide) ?_
  refine zi_isub (n := 11) dX6_trace_10 rfl ?_
  refine zi_S3s (mj := zm_X6_within) (n := 14) dX6_trace_11 rfl zl_X6_63 zy_X6_within (by decide) (Nat.le_of_ble_eq_true rfl) (c_X6_within) ?_
  refine zi_ifeq_b (n := 17) (tgt := 29) dX6_trace_14 rfl (by decide) (fun h14 => ?_) (fun h14 => ?_)
  · refine zi_ldcw (n := 32) dX6_trace_29 rfl zl_X6_292 ?_
    exact zi_iret dX6_trace_32 rfl (by rfl) (by rfl)
  · first | exact absurd hb h14 | exact absurd h14 hb
set_option maxHeartbeats 4000000 in
set_option maxRecDepth 100000 in
theorem x_trace_ok {i t : Nat} (ht : Z 163 2 = nI t) (hi : i < t) (h16 : t ≤ 16) : zCT E 1 zm_X6_trace [.ref (zad E 145), .int (nI i)] (Q, Z) (some (.int (Z 164 i))) (Q, Z) := by
  refine zCT.of (by decide +kernel) (Nat.le_of_ble_eq_true rfl) ?_
  have hb : nI 0 ≤ nI i ∧ nI i ≤ nI t - nI 1 := by rw [pk_sub (by omega)]; exact zrg (by omega) (by omega) (by omega)
  refine zi_iload1 (n := 1) dX6_trace_0 rfl ?_
  refine zi_iconst (n := 2) (nI 0) dX6_trace_1 rfl (by decide) ?_
  refine zi_aload0 (n := 3) dX6_trace_2 rfl ?_
  refine zg_X6_7 (n := 6) dX6_trace_3 rfl zl_X6_55 ?_
  refine zgN_X1_2 (n := 9) dX6_trace_6 rfl zl_X6_286 ht ?_
  refine zi_iconst (n := 10) (nI 1) dX6_trace_9 rfl (by decide) ?_
  refine zi_isub (n := 11) dX6_trace_10 rfl ?_
  refine zi_S3s (mj := zm_X6_within) (n := 14) dX6_trace_11 rfl zl_X6_63 zy_X6_within (by decide) (Nat.le_of_ble_eq_true rfl) (c_X6_within) ?_
  refine zi_ifeq_b (n := 17) (tgt := 29) dX6_trace_14 rfl (by decide) (fun h14 => ?_) (fun h14 => ?_)
  · first | exact absurd hb h14 | exact absurd h14 hb
  · refine zi_aload0 (n := 18) dX6_trace_17 rfl ?_
    refine zg_X6_7 (n := 21) dX6_trace_18 rfl zl_X6_55 ?_
    refine zgN_X1_1 (n := 24) dX6_trace_21 rfl zl_X6_289 ?_
    refine zi_iload1 (n := 25) dX6_trace_24 rfl ?_
    refine zi_oald (N := 16) (n := 26) dX6_trace_25 rfl (by decide) (fun _ => rfl) (by decide) rfl (by omega) rfl ?_
    refine zi_goto (tgt := 32) dX6_trace_26 (by decide) ?_
    exact zi_iret dX6_trace_32 rfl (by rfl) (by rfl)
set_option maxHeartbeats 4000000 in
set_option maxRecDepth 100000 in
theorem x_count_what {y : Int32} (hy : y.toInt < 0 ∨ 7 < y.toInt) : zCT E 2 zm_X6_count [.ref (zad E 145), .int y] (Q, Z) (some (.int zBAD)) (Q, Z) := by
  refine zCT.of (by decide +kernel) (Nat.le_of_ble_eq_true rfl) ?_
  refine zi_iload1 (n := 1) dX6_count_0 rfl ?_
  refine zi_tableOut (tgt := 115) dX6_count_1 hy (by decide) ?_
  refine zi_ldc (n := 117) dX6_count_115 rfl zl_X6_67 ?_
  exact zi_iret dX6_count_117 rfl (by rfl) (by rfl)
set_option maxHeartbeats 4000000 in
set_option maxRecDepth 100000 in
theorem x_count_0  : zCT E 2 zm_X6_count [.ref (zad E 145), .int (nI 0)] (Q, Z) (some (.int (zcnt (fun r => !decide (Z 157 r = -1)) 8))) (Q, Z) := by
  refine zCT.of (by decide +kernel) (Nat.le_of_ble_eq_true rfl) ?_
  refine zi_iload1 (n := 1) dX6_count_0 rfl ?_
  refine zi_tableIn (tgt := 48) dX6_count_1 (by decide) (by decide) rfl (by decide) ?_
  refine zi_aload0 (n := 49) dX6_count_48 rfl ?_
  refine zg_X6_0 (n := 52) dX6_count_49 rfl zl_X6_12 ?_
  refine zi_V0s (mj := zm_X3_present) (n := 55) dX6_count_52 rfl zl_X6_293 zy_X3_present (zrc_X3 _ _) (by decide) (Nat.le_of_ble_eq_true rfl) (c_X3_present) ?_
  exact zi_iret dX6_count_55 rfl (by rfl) (by rfl)
set_option maxHeartbeats 4000000 in
set_option maxRecDepth 100000 in
theorem x_count_1  : zCT E 2 zm_X6_count [.ref (zad E 145), .int (nI 1)] (Q, Z) (some (.int (Q 1 0 0))) (Q, Z) := by
  refine zCT.of (by decide +kernel) (Nat.le_of_ble_eq_true rfl) ?_
  refine zi_iload1 (n := 1) dX6_count_0 rfl ?_
  refine zi_tableIn (tgt := 56) dX6_count_1 (by decide) (by decide) rfl (by decide) ?_
  refine zi_aload0 (n := 57) dX6_count_56 rfl ?_
  refine zg_X6_2 (n := 60) dX6_count_57 rfl zl_X6_26 ?_
  refine zgN_X4_0 (n := 63) dX6_count_60 rfl zl_X6_131 (by omega) rfl ?_
  exact zi_iret dX6_count_63 rfl (by rfl) (by rfl)
set_option maxHeartbeats 4000000 in
set_option maxRecDepth 100000 in
theorem x_count_2  : zCT E 2 zm_X6_count [.ref (zad E 145), .int (nI 2)] (Q, Z) (some (.int (Q 1 0 4))) (Q, Z) := by
  refine zCT.of (by decide +kernel) (Nat.le_of_ble_eq_true rfl) ?_
  refine zi_iload1 (n := 1) dX6_count_0 rfl ?_
  refine zi_tableIn (tgt := 64) dX6_count_1 (by decide) (by decide) rfl (by decide) ?_
  refine zi_aload0 (n := 65) dX6_count_64 rfl ?_
  refine zg_X6_2 (n := 68) dX6_count_65 rfl zl_X6_26 ?_
  refine zgN_X4_4 (n := 71) dX6_count_68 rfl zl_X6_141 (by omega) rfl ?_
  exact zi_iret dX6_count_71 rfl (by rfl) (by rfl)
set_option maxHeartbeats 4000000 in
set_option maxRecDepth 100000 in
theorem x_count_3  : zCT E 2 zm_X6_count [.ref (zad E 145), .int (nI 3)] (Q, Z) (some (.int (Q 1 0 5))) (Q, Z) := by
  refine zCT.of (by decide +kernel) (Nat.le_of_ble_eq_true rfl) ?_
  refine zi_iload1 (n := 1) dX6_count_0 rfl ?_
  refine zi_tableIn (tgt := 72) dX6_count_1 (by decide) (by decide) rfl (by decide) ?_
  refine zi_aload0 (n := 73) dX6_count_72 rfl ?_
  refine zg_X6_2 (n := 76) dX6_count_73 rfl zl_X6_26 ?_
  refine zgN_X4_5 (n := 79) dX6_count_76 rfl zl_X6_144 (by omega) rfl ?_
  exact zi_iret dX6_count_79 rfl (by rfl) (by rfl)
set_option maxHeartbeats 4000000 in
set_option maxRecDepth 100000 in
theorem x_count_4 (hn : Q 1 0 0 = nI n) (h6 : n ≤ 6) : zCT E 2 zm_X6_count [.ref (zad E 145), .int (nI 4)] (Q, Z) (some (.int (zsum (Q 1 4) n))) (Q, Z) := by
  refine zCT.of (by decide +kernel) (Nat.le_of_ble_eq_true rfl) ?_
  refine zi_iload1 (n := 1) dX6_count_0 rfl ?_
  refine zi_tableIn (tgt := 80) dX6_count_1 (by decide) (by decide) rfl (by decide) ?_
  refine zi_aload0 (n := 81) dX6_count_80 rfl ?_
  refine zg_X6_2 (n := 84) dX6_count_81 rfl zl_X6_26 ?_
  refine zi_V0s (mj := zm_X4_allLetters) (n := 87) dX6_count_84 rfl zl_X6_204 zy_X4_allLetters (zrc_sq _ _ (by omega)) (by decide) (Nat.le_of_ble_eq_true rfl) (zrr (j := 1) (c_X4_allLetters (S := Q 1) (j := 1) (by decide) hn h6)) ?_
  exact zi_iret dX6_count_87 rfl (by rfl) (by rfl)
set_option maxHeartbeats 4000000 in
set_option maxRecDepth 100000 in
theorem x_count_5 (hn : Q 1 0 0 = nI n) (h6 : n ≤ 6) : zCT E 2 zm_X6_count [.ref (zad E 145), .int (nI 5)] (Q, Z) (some (.int (zbc (zNml (Q 1) n)))) (Q, Z) := by
  refine zCT.of (by decide +kernel) (Nat.le_of_ble_eq_true rfl) ?_
  refine zi_iload1 (n := 1) dX6_count_0 rfl ?_
  refine zi_tableIn (tgt := 88) dX6_count_1 (by decide) (by decide) rfl (by decide) ?_
  refine zi_aload0 (n := 89) dX6_count_88 rfl ?_
  refine zg_X6_2 (n := 92) dX6_count_89 rfl zl_X6_26 ?_
  refine zi_V0s (mj := zm_X4_namelessBits) (n := 95) dX6_count_92 rfl zl_X6_187 zy_X4_namelessBits (zrc_sq _ _ (by omega)) (by decide) (Nat.le_of_ble_eq_true rfl) (zrr (j := 1) (c_X4_namelessBits (S := Q 1) (j := 1) (by decide) hn h6)) ?_
  refine zi_S1s (mj := zm_J6_bitCount_0f7a4) (n := 98) dX6_count_95 rfl zl_X6_229 zy_J6_bitCount_0f7a4 (by decide) (Nat.le_of_ble_eq_true rfl) (c_J6_bitCount_0f7a4) ?_
  exact zi_iret dX6_count_98 rfl (by rfl) (by rfl)
set_option maxHeartbeats 4000000 in
set_option maxRecDepth 100000 in
theorem x_count_6  : zCT E 2 zm_X6_count [.ref (zad E 145), .int (nI 6)] (Q, Z) (some (.int (Z 160 2))) (Q, Z) := by
  refine zCT.of (by decide +kernel) (Nat.le_of_ble_eq_true rfl) ?_
  refine zi_iload1 (n := 1) dX6_count_0 rfl ?_
  refine zi_tableIn (tgt := 99) dX6_count_1 (by decide) (by decide) rfl (by decide) ?_
  refine zi_aload0 (n := 100) dX6_count_99 rfl ?_
  refine zg_X6_3 (n := 103) dX6_count_100 rfl zl_X6_33 ?_
  refine zgN_X0_2 (n := 106) dX6_count_103 rfl zl_X6_134 rfl ?_
  exact zi_iret dX6_count_106 rfl (by rfl) (by rfl)
set_option maxHeartbeats 4000000 in
set_option maxRecDepth 100000 in
theorem x_count_7  : zCT E 2 zm_X6_count [.ref (zad E 145), .int (nI 7)] (Q, Z) (some (.int (Z 158 1))) (Q, Z) := by
  refine zCT.of (by decide +kernel) (Nat.le_of_ble_eq_true rfl) ?_
  refine zi_iload1 (n := 1) dX6_count_0 rfl ?_
  refine zi_tableIn (tgt := 107) dX6_count_1 (by decide) (by decide) rfl (by decide) ?_
  refine zi_aload0 (n := 108) dX6_count_107 rfl ?_
  refine zg_X6_1 (n := 111) dX6_count_108 rfl zl_X6_19 ?_
  refine zgN_X5_1 (n := 114) dX6_count_111 rfl zl_X6_296 rfl ?_
  exact zi_iret dX6_count_114 rfl (by rfl) (by rfl)
end ZN9
