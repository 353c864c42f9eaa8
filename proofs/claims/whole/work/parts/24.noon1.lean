section ZN6
variable {E : zE} {Q : Nat → Nat → Nat → Int32} {Z : zS} {n : Nat} {M M1 : zMem} {d : Nat} {mi : zM} {av : List Value} {rv : Option Value}
theorem zra {j : Nat} (h : zCT E d mi av (va_up Q j (Q j), Z) rv M1) : zCT E d mi av (Q, Z) rv M1 := by rwa [zup_same] at h
theorem zrr {j : Nat} (h : zCT E d mi av (va_up Q j (Q j), Z) rv (va_up Q j (Q j), Z)) : zCT E d mi av (Q, Z) rv (Q, Z) := by rwa [zup_same] at h
theorem zrz {a : Nat} (h : zCT E d mi av (Q, va_up Z a (Z a)) rv M1) : zCT E d mi av (Q, Z) rv M1 := by rwa [zup_same] at h
theorem zhas {F : zS} {n p : Nat} (hn : F 0 0 = nI n) (h6 : n ≤ 6) (hp : p < n) : ¬ nI p < 0 ∧ ¬ F 0 0 ≤ nI p := ⟨nI_pos (by omega), by rw [hn]; exact nI_ge hp (by omega)⟩
theorem zrg {a m b : Nat} (h1 : a ≤ m) (h2 : m ≤ b) (hb : b < 2 ^ 31) : nI a ≤ nI m ∧ nI m ≤ nI b := ⟨nI_le h1 (by omega), nI_le h2 hb⟩
abbrev zBAD : Int32 := -1000001
abbrev zSTATE : Int32 := -1000002
abbrev zFULL : Int32 := -1000003
set_option maxHeartbeats 4000000 in
set_option maxRecDepth 100000 in
theorem x_row_bad {x l m : Int32} (hb : ¬ ((nI 0 ≤ x ∧ x ≤ nI 7) ∧ (nI 0 ≤ l ∧ l ≤ nI 2) ∧ m ≤ nI 40)) : zCT E 2 zm_X6_row [.ref (zad E 145), .int x, .int l, .int m] (Q, Z) (some (.int zBAD)) (Q, Z) := by
  refine zCT.of (by decide +kernel) (Nat.le_of_ble_eq_true rfl) ?_
  refine zi_aload0 (n := 1) dX6_row_0 rfl ?_
  refine zg_X6_0 (n := 4) dX6_row_1 rfl zl_X6_12 ?_
  refine zi_iload1 (n := 5) dX6_row_4 rfl ?_
  refine zi_V1s (mj := zm_X3_isRow) (n := 8) dX6_row_5 rfl zl_X6_59 zy_X3_isRow (zrc_X3 _ _) (by decide) (Nat.le_of_ble_eq_true rfl) (c_X3_isRow) ?_
  refine zi_ifeq_b (n := 11) (tgt := 26) dX6_row_8 rfl (by decide) (fun h8 => ?_) (fun h8 => ?_)
  · refine zi_ldc (n := 28) dX6_row_26 rfl zl_X6_67 ?_
    exact zi_iret dX6_row_28 rfl (by rfl) (by rfl)
  · refine zi_iload2 (n := 12) dX6_row_11 rfl ?_
    refine zi_iconst (n := 13) (nI 0) dX6_row_12 rfl (by decide) ?_
    refine zi_iconst (n := 14) (nI 2) dX6_row_13 rfl (by decide) ?_
    refine zi_S3s (mj := zm_X6_within) (n := 17) dX6_row_14 rfl zl_X6_63 zy_X6_within (by decide) (Nat.le_of_ble_eq_true rfl) (c_X6_within) ?_
    refine zi_ifeq_b (n := 20) (tgt := 26) dX6_row_17 rfl (by decide) (fun h17 => ?_) (fun h17 => ?_)
    · refine zi_ldc (n := 28) dX6_row_26 rfl zl_X6_67 ?_
      exact zi_iret dX6_row_28 rfl (by rfl) (by rfl)
    · refine zi_iload3 (n := 21) dX6_row_20 rfl ?_
      refine zi_bipush (n := 23) (nI 40) dX6_row_21 rfl (by decide) ?_
      refine zi_icle (n := 26) (tgt := 29) dX6_row_23 rfl (by decide) (fun h23 => ?_) (fun h23 => ?_)
      · exact absurd ⟨h8, h17, h23⟩ hb
      · refine zi_ldc (n := 28) dX6_row_26 rfl zl_X6_67 ?_
        exact zi_iret dX6_row_28 rfl (by rfl) (by rfl)
set_option maxHeartbeats 4000000 in
set_option maxRecDepth 100000 in
theorem x_row_size {r : Nat} {l m : Int32} (hr : r < 8) (hl : nI 0 ≤ l ∧ l ≤ nI 2) (hm : m < 0) (hm4 : m ≤ nI 40) : zCT E 2 zm_X6_row [.ref (zad E 145), .int (nI r), .int l, .int m] (Q, Z) (some (.int (-1000010 - nI 4))) (Q, zsu Z 145 9 (nI 4)) := by
  refine zCT.of (by decide +kernel) (Nat.le_of_ble_eq_true rfl) ?_
  have a1 : nI 0 ≤ nI r ∧ nI r ≤ nI 7 := zrg (by omega) (by omega) (by decide)
  have a2 : ¬ (0 : Int32) ≤ m := Int32.not_le.mpr hm
  refine zi_aload0 (n := 1) dX6_row_0 rfl ?_
  refine zg_X6_0 (n := 4) dX6_row_1 rfl zl_X6_12 ?_
  refine zi_iload1 (n := 5) dX6_row_4 rfl ?_
  refine zi_V1s (mj := zm_X3_isRow) (n := 8) dX6_row_5 rfl zl_X6_59 zy_X3_isRow (zrc_X3 _ _) (by decide) (Nat.le_of_ble_eq_true rfl) (c_X3_isRow) ?_
  refine zi_ifeq_b (n := 11) (tgt := 26) dX6_row_8 rfl (by decide) (fun h8 => ?_) (fun h8 => ?_)
  · first | exact absurd a1 h8 | exact absurd h8 a1
  · refine zi_iload2 (n := 12) dX6_row_11 rfl ?_
    refine zi_iconst (n := 13) (nI 0) dX6_row_12 rfl (by decide) ?_
    refine zi_iconst (n := 14) (nI 2) dX6_row_13 rfl (by decide) ?_
    refine zi_S3s (mj := zm_X6_within) (n := 17) dX6_row_14 rfl zl_X6_63 zy_X6_within (by decide) (Nat.le_of_ble_eq_true rfl) (c_X6_within) ?_
    refine zi_ifeq_b (n := 20) (tgt := 26) dX6_row_17 rfl (by decide) (fun h17 => ?_) (fun h17 => ?_)
    · first | exact absurd hl h17 | exact absurd h17 hl
    · refine zi_iload3 (n := 21) dX6_row_20 rfl ?_
      refine zi_bipush (n := 23) (nI 40) dX6_row_21 rfl (by decide) ?_
      refine zi_icle (n := 26) (tgt := 29) dX6_row_23 rfl (by decide) (fun h23 => ?_) (fun h23 => ?_)
      · refine zi_iload3 (n := 30) dX6_row_29 rfl ?_
        refine zi_ifge (n := 33) (tgt := 39) dX6_row_30 rfl (by decide) (fun h30 => ?_) (fun h30 => ?_)
        · first | exact absurd a2 h30 | exact absurd h30 a2
        · refine zi_aload0 (n := 34) dX6_row_33 rfl ?_
          refine zi_iconst (n := 35) (nI 4) dX6_row_34 rfl (by decide) ?_
          refine zi_V1s (mj := zm_X6_found) (n := 38) dX6_row_35 rfl zl_X6_68 zy_X6_found (zrc_X6 _ _) (by decide) (Nat.le_of_ble_eq_true rfl) (c_X6_found) ?_
          exact zi_iret dX6_row_38 rfl (by rfl) (by rfl)
      · first | exact absurd hm4 h23 | exact absurd h23 hm4
set_option maxHeartbeats 4000000 in
set_option maxRecDepth 100000 in
theorem x_row_ok {r : Nat} {l m : Int32} (hr : r < 8) (hl : nI 0 ≤ l ∧ l ≤ nI 2) (hm : 0 ≤ m) (hm4 : m ≤ nI 40) : zCT E 2 zm_X6_row [.ref (zad E 145), .int (nI r), .int l, .int m] (Q, Z) (some (.int m)) (Q, zmkR (zsu Z 145 9 (nI 0)) r l m) := by
  refine zCT.of (by decide +kernel) (Nat.le_of_ble_eq_true rfl) ?_
  have a1 : nI 0 ≤ nI r ∧ nI r ≤ nI 7 := zrg (by omega) (by omega) (by decide)
  refine zi_aload0 (n := 1) dX6_row_0 rfl ?_
  refine zg_X6_0 (n := 4) dX6_row_1 rfl zl_X6_12 ?_
  refine zi_iload1 (n := 5) dX6_row_4 rfl ?_
  refine zi_V1s (mj := zm_X3_isRow) (n := 8) dX6_row_5 rfl zl_X6_59 zy_X3_isRow (zrc_X3 _ _) (by decide) (Nat.le_of_ble_eq_true rfl) (c_X3_isRow) ?_
  refine zi_ifeq_b (n := 11) (tgt := 26) dX6_row_8 rfl (by decide) (fun h8 => ?_) (fun h8 => ?_)
  · first | exact absurd a1 h8 | exact absurd h8 a1
  · refine zi_iload2 (n := 12) dX6_row_11 rfl ?_
    refine zi_iconst (n := 13) (nI 0) dX6_row_12 rfl (by decide) ?_
    refine zi_iconst (n := 14) (nI 2) dX6_row_13 rfl (by decide) ?_
    refine zi_S3s (mj := zm_X6_within) (n := 17) dX6_row_14 rfl zl_X6_63 zy_X6_within (by decide) (Nat.le_of_ble_eq_true rfl) (c_X6_within) ?_
    refine zi_ifeq_b (n := 20) (tgt := 26) dX6_row_17 rfl (by decide) (fun h17 => ?_) (fun h17 => ?_)
    · first | exact absurd hl h17 | exact absurd h17 hl
    · refine zi_iload3 (n := 21) dX6_row_20 rfl ?_
      refine zi_bipush (n := 23) (nI 40) dX6_row_21 rfl (by decide) ?_
      refine zi_icle (n := 26) (tgt := 29) dX6_row_23 rfl (by decide) (fun h23 => ?_) (fun h23 => ?_)
      · refine zi_iload3 (n := 30) dX6_row_29 rfl ?_
        refine zi_ifge (n := 33) (tgt := 39) dX6_row_30 rfl (by decide) (fun h30 => ?_) (fun h30 => ?_)
        · refine zi_aload0 (n := 40) dX6_row_39 rfl ?_
          refine zi_iconst (n := 41) (nI 0) dX6_row_40 rfl (by decide) ?_
          refine zp_X6_9 (n := 44) dX6_row_41 rfl zl_X6_72 rfl ?_
          refine zi_aload0 (n := 45) dX6_row_44 rfl ?_
          refine zg_X6_0 (n := 48) dX6_row_45 rfl zl_X6_12 ?_
          refine zi_iload1 (n := 49) dX6_row_48 rfl ?_
          refine zi_iload2 (n := 50) dX6_row_49 rfl ?_
          refine zi_iload3 (n := 51) dX6_row_50 rfl ?_
          refine zi_V3v (mj := zm_X3_make) (n := 54) dX6_row_51 rfl zl_X6_76 zy_X3_make (zrc_X3 _ _) (by decide) (Nat.le_of_ble_eq_true rfl) (c_X3_make hr) ?_
          refine zi_iload3 (n := 55) dX6_row_54 rfl ?_
          exact zi_iret dX6_row_55 rfl (by rfl) (by rfl)
        · first | exact absurd hm h30 | exact absurd h30 hm
      · first | exact absurd hm4 h23 | exact absurd h23 hm4
set_option maxHeartbeats 4000000 in
set_option maxRecDepth 100000 in
theorem x_set_bad {x i v : Int32} (hb : ¬ (nI 0 ≤ x ∧ x ≤ nI 7)) : zCT E 2 zm_X6_set [.ref (zad E 145), .int x, .int i, .int v] (Q, Z) (some (.int zBAD)) (Q, Z) := by
  refine zCT.of (by decide +kernel) (Nat.le_of_ble_eq_true rfl) ?_
  refine zi_aload0 (n := 1) dX6_set_0 rfl ?_
  refine zg_X6_0 (n := 4) dX6_set_1 rfl zl_X6_12 ?_
  refine zi_iload1 (n := 5) dX6_set_4 rfl ?_
  refine zi_V1s (mj := zm_X3_isRow) (n := 8) dX6_set_5 rfl zl_X6_59 zy_X3_isRow (zrc_X3 _ _) (by decide) (Nat.le_of_ble_eq_true rfl) (c_X3_isRow) ?_
  refine zi_ifne_b (n := 11) (tgt := 14) dX6_set_8 rfl (by decide) (fun h8 => ?_) (fun h8 => ?_)
  · first | exact absurd hb h8 | exact absurd h8 hb
  · refine zi_ldc (n := 13) dX6_set_11 rfl zl_X6_67 ?_
    exact zi_iret dX6_set_13 rfl (by rfl) (by rfl)
set_option maxHeartbeats 4000000 in
set_option maxRecDepth 100000 in
theorem x_set_null {r : Nat} {i v : Int32} (hr : r < 8) (hz : Z 157 r = -1) : zCT E 2 zm_X6_set [.ref (zad E 145), .int (nI r), .int i, .int v] (Q, Z) (some (.int (-1000010 - nI 1))) (Q, zsu Z 145 9 (nI 1)) := by
  refine zCT.of (by decide +kernel) (Nat.le_of_ble_eq_true rfl) ?_
  have a1 : nI 0 ≤ nI r ∧ nI r ≤ nI 7 := zrg (by omega) (by omega) (by decide)
  refine zi_aload0 (n := 1) dX6_set_0 rfl ?_
  refine zg_X6_0 (n := 4) dX6_set_1 rfl zl_X6_12 ?_
  refine zi_iload1 (n := 5) dX6_set_4 rfl ?_
  refine zi_V1s (mj := zm_X3_isRow) (n := 8) dX6_set_5 rfl zl_X6_59 zy_X3_isRow (zrc_X3 _ _) (by decide) (Nat.le_of_ble_eq_true rfl) (c_X3_isRow) ?_
  refine zi_ifne_b (n := 11) (tgt := 14) dX6_set_8 rfl (by decide) (fun h8 => ?_) (fun h8 => ?_)
  · refine zi_aload0 (n := 15) dX6_set_14 rfl ?_
    refine zg_X6_0 (n := 18) dX6_set_15 rfl zl_X6_12 ?_
    refine zi_iload1 (n := 19) dX6_set_18 rfl ?_
    refine zi_V1s (mj := zm_X3_isMissing) (n := 22) dX6_set_19 rfl zl_X6_80 zy_X3_isMissing (zrc_X3 _ _) (by decide) (Nat.le_of_ble_eq_true rfl) (c_X3_isMissing hr) ?_
    refine zi_ifeq_b (n := 25) (tgt := 31) dX6_set_22 rfl (by decide) (fun h22 => ?_) (fun h22 => ?_)
    · first | exact absurd hz h22 | exact absurd h22 hz
    · refine zi_aload0 (n := 26) dX6_set_25 rfl ?_
      refine zi_iconst (n := 27) (nI 1) dX6_set_26 rfl (by decide) ?_
      refine zi_V1s (mj := zm_X6_found) (n := 30) dX6_set_27 rfl zl_X6_68 zy_X6_found (zrc_X6 _ _) (by decide) (Nat.le_of_ble_eq_true rfl) (c_X6_found) ?_
      exact zi_iret dX6_set_30 rfl (by rfl) (by rfl)
  · first | exact absurd a1 h8 | exact absurd h8 a1
set_option maxHeartbeats 4000000 in
set_option maxRecDepth 100000 in
theorem x_set_place {r : Nat} {i v : Int32} (hr : r < 8) (hz : ¬ Z 157 r = -1) (hi : ¬ (¬ i < 0 ∧ ¬ nI 1 < 0 ∧ ¬ (Z 157 r).toInt64 < i.toInt64 + (nI 1).toInt64)) : zCT E 2 zm_X6_set [.ref (zad E 145), .int (nI r), .int i, .int v] (Q, Z) (some (.int (-1000010 - nI 2))) (Q, zsu Z 145 9 (nI 2)) := by
  refine zCT.of (by decide +kernel) (Nat.le_of_ble_eq_true rfl) ?_
  have a1 : nI 0 ≤ nI r ∧ nI r ≤ nI 7 := zrg (by omega) (by omega) (by decide)
  refine zi_aload0 (n := 1) dX6_set_0 rfl ?_
  refine zg_X6_0 (n := 4) dX6_set_1 rfl zl_X6_12 ?_
  refine zi_iload1 (n := 5) dX6_set_4 rfl ?_
  refine zi_V1s (mj := zm_X3_isRow) (n := 8) dX6_set_5 rfl zl_X6_59 zy_X3_isRow (zrc_X3 _ _) (by decide) (Nat.le_of_ble_eq_true rfl) (c_X3_isRow) ?_
  refine zi_ifne_b (n := 11) (tgt := 14) dX6_set_8 rfl (by decide) (fun h8 => ?_) (fun h8 => ?_)
  · refine zi_aload0 (n := 15) dX6_set_14 rfl ?_
    refine zg_X6_0 (n := 18) dX6_set_15 rfl zl_X6_12 ?_
    refine zi_iload1 (n := 19) dX6_set_18 rfl ?_
    refine zi_V1s (mj := zm_X3_isMissing) (n := 22) dX6_set_19 rfl zl_X6_80 zy_X3_isMissing (zrc_X3 _ _) (by decide) (Nat.le_of_ble_eq_true rfl) (c_X3_isMissing hr) ?_
    refine zi_ifeq_b (n := 25) (tgt := 31) dX6_set_22 rfl (by decide) (fun h22 => ?_) (fun h22 => ?_)
    · refine zi_aload0 (n := 32) dX6_set_31 rfl ?_
      refine zg_X6_0 (n := 35) dX6_set_32 rfl zl_X6_12 ?_
      refine zi_iload1 (n := 36) dX6_set_35 rfl ?_
      refine zi_iload2 (n := 37) dX6_set_36 rfl ?_
      refine zi_iconst (n := 38) (nI 1) dX6_set_37 rfl (by decide) ?_
      refine zi_V3s (mj := zm_X3_hasItems) (n := 41) dX6_set_38 rfl zl_X6_83 zy_X3_hasItems (zrc_X3 _ _) (by decide) (Nat.le_of_ble_eq_true rfl) (c_X3_hasItems hr) ?_
      refine zi_ifne_b (n := 44) (tgt := 50) dX6_set_41 rfl (by decide) (fun h41 => ?_) (fun h41 => ?_)
      · first | exact absurd hi h41 | exact absurd h41 hi
      · refine zi_aload0 (n := 45) dX6_set_44 rfl ?_
        refine zi_iconst (n := 46) (nI 2) dX6_set_45 rfl (by decide) ?_
        refine zi_V1s (mj := zm_X6_found) (n := 49) dX6_set_46 rfl zl_X6_68 zy_X6_found (zrc_X6 _ _) (by decide) (Nat.le_of_ble_eq_true rfl) (c_X6_found) ?_
        exact zi_iret dX6_set_49 rfl (by rfl) (by rfl)
    · first | exact absurd hz h22 | exact absurd h22 hz
  · first | exact absurd a1 h8 | exact absurd h8 a1
set_option maxHeartbeats 4000000 in
set_option maxRecDepth 100000 in
theorem x_set_ok {r i : Nat} {v : Int32} (hr : r < 8) (hi4 : i < 40) (hz : ¬ Z 157 r = -1) (hi : (¬ nI i < 0 ∧ ¬ nI 1 < 0 ∧ ¬ (Z 157 r).toInt64 < (nI i).toInt64 + (nI 1).toInt64)) : zCT E 2 zm_X6_set [.ref (zad E 145), .int (nI r), .int (nI i), .int v] (Q, Z) (some (.int (zputV (Z 156 r) v))) (Q, zsu (zsu Z 145 9 (nI 0)) (148 + r) i (zputV (Z 156 r) v)) := by
  refine zCT.of (by decide +kernel) (Nat.le_of_ble_eq_true rfl) ?_
  have a1 : nI 0 ≤ nI r ∧ nI r ≤ nI 7 := zrg (by omega) (by omega) (by decide)
  have e1 : zsu Z 145 9 (nI 0) 156 r = Z 156 r := by rw [zsu_ne _ _ (by decide)]
  refine zi_aload0 (n := 1) dX6_set_0 rfl ?_
  refine zg_X6_0 (n := 4) dX6_set_1 rfl zl_X6_12 ?_
  refine zi_iload1 (n := 5) dX6_set_4 rfl ?_
  refine zi_V1s (mj := zm_X3_isRow) (n := 8) dX6_set_5 rfl zl_X6_59 zy_X3_isRow (zrc_X3 _ _) (by decide) (Nat.le_of_ble_eq_true rfl) (c_X3_isRow) ?_
  refine zi_ifne_b (n := 11) (tgt := 14) dX6_set_8 rfl (by decide) (fun h8 => ?_) (fun h8 => ?_)
  · refine zi_aload0 (n := 15) dX6_set_14 rfl ?_
    refine zg_X6_0 (n := 18) dX6_set_15 rfl zl_X6_12 ?_
    refine zi_iload1 (n := 19) dX6_set_18 rfl ?_
    refine zi_V1s (mj := zm_X3_isMissing) (n := 22) dX6_set_19 rfl zl_X6_80 zy_X3_isMissing (zrc_X3 _ _) (by decide) (Nat.le_of_ble_eq_true rfl) (c_X3_isMissing hr) ?_
    refine zi_ifeq_b (n := 25) (tgt := 31) dX6_set_22 rfl (by decide) (fun h22 => ?_) (fun h22 => ?_)
    · refine zi_aload0 (n := 32) dX6_set_31 rfl ?_
      refine zg_X6_0 (n := 35) dX6_set_32 rfl zl_X6_12 ?_
      refine zi_iload1 (n := 36) dX6_set_35 rfl ?_
      refine zi_iload2 (n := 37) dX6_set_36 rfl ?_
      refine zi_iconst (n := 38) (nI 1) dX6_set_37 rfl (by decide) ?_
      refine zi_V3s (mj := zm_X3_hasItems) (n := 41) dX6_set_38 rfl zl_X6_83 zy_X3_hasItems (zrc_X3 _ _) (by decide) (Nat.le_of_ble_eq_true rfl) (c_X3_hasItems hr) ?_
      refine zi_ifne_b (n := 44) (tgt := 50) dX6_set_41 rfl (by decide) (fun h41 => ?_) (fun h41 => ?_)
      · refine zi_aload0 (n := 51) dX6_set_50 rfl ?_
        refine zi_iconst (n := 52) (nI 0) dX6_set_51 rfl (by decide) ?_
        refine zp_X6_9 (n := 55) dX6_set_52 rfl zl_X6_72 rfl ?_
        refine zi_aload0 (n := 56) dX6_set_55 rfl ?_
        refine zg_X6_0 (n := 59) dX6_set_56 rfl zl_X6_12 ?_
        refine zi_iload1 (n := 60) dX6_set_59 rfl ?_
        refine zi_iload2 (n := 61) dX6_set_60 rfl ?_
        refine zi_iload3 (n := 62) dX6_set_61 rfl ?_
        refine zi_V3s (mj := zm_X3_put) (n := 65) dX6_set_62 rfl zl_X6_86 zy_X3_put (zrc_X3 _ _) (by decide) (Nat.le_of_ble_eq_true rfl) (c_X3_put hr hi4) ?_
        exact zi_iret dX6_set_65 rfl (by rw [e1]) (by rw [e1])
      · first | exact absurd hi h41 | exact absurd h41 hi
    · first | exact absurd hz h22 | exact absurd h22 hz
  · first | exact absurd a1 h8 | exact absurd h8 a1
set_option maxHeartbeats 4000000 in
set_option maxRecDepth 100000 in
theorem x_drop_bad {x : Int32} (hb : ¬ (nI 0 ≤ x ∧ x ≤ nI 7)) : zCT E 2 zm_X6_drop [.ref (zad E 145), .int x] (Q, Z) (some (.int zBAD)) (Q, Z) := by
  refine zCT.of (by decide +kernel) (Nat.le_of_ble_eq_true rfl) ?_
  refine zi_aload0 (n := 1) dX6_drop_0 rfl ?_
  refine zg_X6_0 (n := 4) dX6_drop_1 rfl zl_X6_12 ?_
  refine zi_iload1 (n := 5) dX6_drop_4 rfl ?_
  refine zi_V1s (mj := zm_X3_isRow) (n := 8) dX6_drop_5 rfl zl_X6_59 zy_X3_isRow (zrc_X3 _ _) (by decide) (Nat.le_of_ble_eq_true rfl) (c_X3_isRow) ?_
  refine zi_ifne_b (n := 11) (tgt := 14) dX6_drop_8 rfl (by decide) (fun h8 => ?_) (fun h8 => ?_)
  · first | exact absurd hb h8 | exact absurd h8 hb
  · refine zi_ldc (n := 13) dX6_drop_11 rfl zl_X6_67 ?_
    exact zi_iret dX6_drop_13 rfl (by rfl) (by rfl)
set_option maxHeartbeats 4000000 in
set_option maxRecDepth 100000 in
theorem x_drop_null {r : Nat} (hr : r < 8) (hz : Z 157 r = -1) : zCT E 2 zm_X6_drop [.ref (zad E 145), .int (nI r)] (Q, Z) (some (.int (-1000010 - nI 1))) (Q, zsu Z 145 9 (nI 1)) := by
  refine zCT.of (by decide +kernel) (Nat.le_of_ble_eq_true rfl) ?_
  have a1 : nI 0 ≤ nI r ∧ nI r ≤ nI 7 := zrg (by omega) (by omega) (by decide)
  refine zi_aload0 (n := 1) dX6_drop_0 rfl ?_
  refine zg_X6_0 (n := 4) dX6_drop_1 rfl zl_X6_12 ?_
  refine zi_iload1 (n := 5) dX6_drop_4 rfl ?_
  refine zi_V1s (mj := zm_X3_isRow) (n := 8) dX6_drop_5 rfl zl_X6_59 zy_X3_isRow (zrc_X3 _ _) (by decide) (Nat.le_of_ble_eq_true rfl) (c_X3_isRow) ?_
  refine zi_ifne_b (n := 11) (tgt := 14) dX6_drop_8 rfl (by decide) (fun h8 => ?_) (fun h8 => ?_)
  · refine zi_aload0 (n := 15) dX6_drop_14 rfl ?_
    refine zg_X6_0 (n := 18) dX6_drop_15 rfl zl_X6_12 ?_
    refine zi_iload1 (n := 19) dX6_drop_18 rfl ?_
    refine zi_V1s (mj := zm_X3_isMissing) (n := 22) dX6_drop_19 rfl zl_X6_80 zy_X3_isMissing (zrc_X3 _ _) (by decide) (Nat.le_of_ble_eq_true rfl) (c_X3_isMissing hr) ?_
    refine zi_ifeq_b (n := 25) (tgt := 31) dX6_drop_22 rfl (by decide) (fun h22 => ?_) (fun h22 => ?_)
    · first | exact absurd hz h22 | exact absurd h22 hz
    · refine zi_aload0 (n := 26) dX6_drop_25 rfl ?_
      refine zi_iconst (n := 27) (nI 1) dX6_drop_26 rfl (by decide) ?_
      refine zi_V1s (mj := zm_X6_found) (n := 30) dX6_drop_27 rfl zl_X6_68 zy_X6_found (zrc_X6 _ _) (by decide) (Nat.le_of_ble_eq_true rfl) (c_X6_found) ?_
      exact zi_iret dX6_drop_30 rfl (by rfl) (by rfl)
  · first | exact absurd a1 h8 | exact absurd h8 a1
set_option maxHeartbeats 4000000 in
set_option maxRecDepth 100000 in
theorem x_drop_ok {r : Nat} (hr : r < 8) (hz : ¬ Z 157 r = -1) : zCT E 2 zm_X6_drop [.ref (zad E 145), .int (nI r)] (Q, Z) (some (.int (Z 157 r))) (Q, zsu (zsu Z 145 9 (nI 0)) 157 r (-1)) := by
  refine zCT.of (by decide +kernel) (Nat.le_of_ble_eq_true rfl) ?_
  have a1 : nI 0 ≤ nI r ∧ nI r ≤ nI 7 := zrg (by omega) (by omega) (by decide)
  refine zi_aload0 (n := 1) dX6_drop_0 rfl ?_
  refine zg_X6_0 (n := 4) dX6_drop_1 rfl zl_X6_12 ?_
  refine zi_iload1 (n := 5) dX6_drop_4 rfl ?_
  refine zi_V1s (mj := zm_X3_isRow) (n := 8) dX6_drop_5 rfl zl_X6_59 zy_X3_isRow (zrc_X3 _ _) (by decide) (Nat.le_of_ble_eq_true rfl) (c_X3_isRow) ?_
  refine zi_ifne_b (n := 11) (tgt := 14) dX6_drop_8 rfl (by decide) (fun h8 => ?_) (fun h8 => ?_)
  · refine zi_aload0 (n := 15) dX6_drop_14 rfl ?_
    refine zg_X6_0 (n := 18) dX6_drop_15 rfl zl_X6_12 ?_
    refine zi_iload1 (n := 19) dX6_drop_18 rfl ?_
    refine zi_V1s (mj := zm_X3_isMissing) (n := 22) dX6_drop_19 rfl zl_X6_80 zy_X3_isMissing (zrc_X3 _ _) (by decide) (Nat.le_of_ble_eq_true rfl) (c_X3_isMissing hr) ?_
    refine zi_ifeq_b (n := 25) (tgt := 31) dX6_drop_22 rfl (by decide) (fun h22 => ?_) (fun h22 => ?_)
    · refine zi_aload0 (n := 32) dX6_drop_31 rfl ?_
      refine zi_iconst (n := 33) (nI 0) dX6_drop_32 rfl (by decide) ?_
      refine zp_X6_9 (n := 36) dX6_drop_33 rfl zl_X6_72 rfl ?_
      refine zi_aload0 (n := 37) dX6_drop_36 rfl ?_
      refine zg_X6_0 (n := 40) dX6_drop_37 rfl zl_X6_12 ?_
      refine zi_iload1 (n := 41) dX6_drop_40 rfl ?_
      refine zi_V1s (mj := zm_X3_remove) (n := 44) dX6_drop_41 rfl zl_X6_97 zy_X3_remove (zrc_X3 _ _) (by decide) (Nat.le_of_ble_eq_true rfl) (c_X3_remove hr) ?_
      exact zi_iret dX6_drop_44 rfl (by rw [zsu_ne _ _ (by decide)]) (by rfl)
    · first | exact absurd hz h22 | exact absurd h22 hz
  · first | exact absurd a1 h8 | exact absurd h8 a1
set_option maxHeartbeats 4000000 in
set_option maxRecDepth 100000 in
theorem x_copy_bad {x y i j k : Int32} (hb : ¬ ((nI 0 ≤ x ∧ x ≤ nI 7) ∧ (nI 0 ≤ y ∧ y ≤ nI 7))) : zCT E 3 zm_X6_copy [.ref (zad E 145), .int x, .int i, .int y, .int j, .int k] (Q, Z) (some (.int zBAD)) (Q, Z) := by
  refine zCT.of (by decide +kernel) (Nat.le_of_ble_eq_true rfl) ?_
  refine zi_aload0 (n := 1) dX6_copy_0 rfl ?_
  refine zg_X6_0 (n := 4) dX6_copy_1 rfl zl_X6_12 ?_
  refine zi_iload1 (n := 5) dX6_copy_4 rfl ?_
  refine zi_V1s (mj := zm_X3_isRow) (n := 8) dX6_copy_5 rfl zl_X6_59 zy_X3_isRow (zrc_X3 _ _) (by decide) (Nat.le_of_ble_eq_true rfl) (c_X3_isRow) ?_
  refine zi_ifeq_b (n := 11) (tgt := 22) dX6_copy_8 rfl (by decide) (fun h8 => ?_) (fun h8 => ?_)
  · refine zi_ldc (n := 24) dX6_copy_22 rfl zl_X6_67 ?_
    exact zi_iret dX6_copy_24 rfl (by rfl) (by rfl)
  · refine zi_aload0 (n := 12) dX6_copy_11 rfl ?_
    refine zg_X6_0 (n := 15) dX6_copy_12 rfl zl_X6_12 ?_
    refine zi_iload3 (n := 16) dX6_copy_15 rfl ?_
    refine zi_V1s (mj := zm_X3_isRow) (n := 19) dX6_copy_16 rfl zl_X6_59 zy_X3_isRow (zrc_X3 _ _) (by decide) (Nat.le_of_ble_eq_true rfl) (c_X3_isRow) ?_
    refine zi_ifne_b (n := 22) (tgt := 25) dX6_copy_19 rfl (by decide) (fun h19 => ?_) (fun h19 => ?_)
    · exact absurd ⟨h8, h19⟩ hb
    · refine zi_ldc (n := 24) dX6_copy_22 rfl zl_X6_67 ?_
      exact zi_iret dX6_copy_24 rfl (by rfl) (by rfl)
set_option maxHeartbeats 4000000 in
set_option maxRecDepth 100000 in
theorem x_copy_null {a c : Nat} {i j k : Int32} (ha : a < 8) (hc : c < 8) (hz : Z 157 a = -1 ∨ Z 157 c = -1) : zCT E 3 zm_X6_copy [.ref (zad E 145), .int (nI a), .int i, .int (nI c), .int j, .int k] (Q, Z) (some (.int (-1000010 - nI 1))) (Q, zsu Z 145 9 (nI 1)) := by
  refine zCT.of (by decide +kernel) (Nat.le_of_ble_eq_true rfl) ?_
  have a1 : nI 0 ≤ nI a ∧ nI a ≤ nI 7 := zrg (by omega) (by omega) (by decide)
  have a2 : nI 0 ≤ nI c ∧ nI c ≤ nI 7 := zrg (by omega) (by omega) (by decide)
  refine zi_aload0 (n := 1) dX6_copy_0 rfl ?_
  refine zg_X6_0 (n := 4) dX6_copy_1 rfl zl_X6_12 ?_
  refine zi_iload1 (n := 5) dX6_copy_4 rfl ?_
  refine zi_V1s (mj := zm_X3_isRow) (n := 8) dX6_copy_5 rfl zl_X6_59 zy_X3_isRow (zrc_X3 _ _) (by decide) (Nat.le_of_ble_eq_true rfl) (c_X3_isRow) ?_
  refine zi_ifeq_b (n := 11) (tgt := 22) dX6_copy_8 rfl (by decide) (fun h8 => ?_) (fun h8 => ?_)
  · first | exact absurd a1 h8 | exact absurd h8 a1
  · refine zi_aload0 (n := 12) dX6_copy_11 rfl ?_
    refine zg_X6_0 (n := 15) dX6_copy_12 rfl zl_X6_12 ?_
    refine zi_iload3 (n := 16) dX6_copy_15 rfl ?_
    refine zi_V1s (mj := zm_X3_isRow) (n := 19) dX6_copy_16 rfl zl_X6_59 zy_X3_isRow (zrc_X3 _ _) (by decide) (Nat.le_of_ble_eq_true rfl) (c_X3_isRow) ?_
    refine zi_ifne_b (n := 22) (tgt := 25) dX6_copy_19 rfl (by decide) (fun h19 => ?_) (fun h19 => ?_)
    · refine zi_aload0 (n := 26) dX6_copy_25 rfl ?_
      refine zg_X6_0 (n := 29) dX6_copy_26 rfl zl_X6_12 ?_
      refine zi_iload1 (n := 30) dX6_copy_29 rfl ?_
      refine zi_V1s (mj := zm_X3_isMissing) (n := 33) dX6_copy_30 rfl zl_X6_80 zy_X3_isMissing (zrc_X3 _ _) (by decide) (Nat.le_of_ble_eq_true rfl) (c_X3_isMissing (by omega)) ?_
      refine zi_ifne_b (n := 36) (tgt := 47) dX6_copy_33 rfl (by decide) (fun h33 => ?_) (fun h33 => ?_)
      · refine zi_aload0 (n := 48) dX6_copy_47 rfl ?_
        refine zi_iconst (n := 49) (nI 1) dX6_copy_48 rfl (by decide) ?_
        refine zi_V1s (mj := zm_X6_found) (n := 52) dX6_copy_49 rfl zl_X6_68 zy_X6_found (zrc_X6 _ _) (by decide) (Nat.le_of_ble_eq_true rfl) (c_X6_found) ?_
        exact zi_iret dX6_copy_52 rfl (by rfl) (by rfl)
      · refine zi_aload0 (n := 37) dX6_copy_36 rfl ?_
        refine zg_X6_0 (n := 40) dX6_copy_37 rfl zl_X6_12 ?_
        refine zi_iload3 (n := 41) dX6_copy_40 rfl ?_
        refine zi_V1s (mj := zm_X3_isMissing) (n := 44) dX6_copy_41 rfl zl_X6_80 zy_X3_isMissing (zrc_X3 _ _) (by decide) (Nat.le_of_ble_eq_true rfl) (c_X3_isMissing (by omega)) ?_
        refine zi_ifeq_b (n := 47) (tgt := 53) dX6_copy_44 rfl (by decide) (fun h44 => ?_) (fun h44 => ?_)
        · exact absurd hz (fun zz => zz.elim h33 h44)
        · refine zi_aload0 (n := 48) dX6_copy_47 rfl ?_
          refine zi_iconst (n := 49) (nI 1) dX6_copy_48 rfl (by decide) ?_
          refine zi_V1s (mj := zm_X6_found) (n := 52) dX6_copy_49 rfl zl_X6_68 zy_X6_found (zrc_X6 _ _) (by decide) (Nat.le_of_ble_eq_true rfl) (c_X6_found) ?_
          exact zi_iret dX6_copy_52 rfl (by rfl) (by rfl)
    · first | exact absurd a2 h19 | exact absurd h19 a2
set_option maxHeartbeats 4000000 in
set_option maxRecDepth 100000 in
theorem x_copy_store {a c : Nat} {i j k : Int32} (ha : a < 8) (hc : c < 8) (hz : ¬ Z 157 a = -1) (hy : ¬ Z 157 c = -1) (hs : ¬ Z 156 a = Z 156 c) : zCT E 3 zm_X6_copy [.ref (zad E 145), .int (nI a), .int i, .int (nI c), .int j, .int k] (Q, Z) (some (.int (-1000010 - nI 5))) (Q, zsu Z 145 9 (nI 5)) := by
  refine zCT.of (by decide +kernel) (Nat.le_of_ble_eq_true rfl) ?_
  have a1 : nI 0 ≤ nI a ∧ nI a ≤ nI 7 := zrg (by omega) (by omega) (by decide)
  have a2 : nI 0 ≤ nI c ∧ nI c ≤ nI 7 := zrg (by omega) (by omega) (by decide)
  refine zi_aload0 (n := 1) dX6_copy_0 rfl ?_
  refine zg_X6_0 (n := 4) dX6_copy_1 rfl zl_X6_12 ?_
  refine zi_iload1 (n := 5) dX6_copy_4 rfl ?_
  refine zi_V1s (mj := zm_X3_isRow) (n := 8) dX6_copy_5 rfl zl_X6_59 zy_X3_isRow (zrc_X3 _ _) (by decide) (Nat.le_of_ble_eq_true rfl) (c_X3_isRow) ?_
  refine zi_ifeq_b (n := 11) (tgt := 22) dX6_copy_8 rfl (by decide) (fun h8 => ?_) (fun h8 => ?_)
  · first | exact absurd a1 h8 | exact absurd h8 a1
  · refine zi_aload0 (n := 12) dX6_copy_11 rfl ?_
    refine zg_X6_0 (n := 15) dX6_copy_12 rfl zl_X6_12 ?_
    refine zi_iload3 (n := 16) dX6_copy_15 rfl ?_
    refine zi_V1s (mj := zm_X3_isRow) (n := 19) dX6_copy_16 rfl zl_X6_59 zy_X3_isRow (zrc_X3 _ _) (by decide) (Nat.le_of_ble_eq_true rfl) (c_X3_isRow) ?_
    refine zi_ifne_b (n := 22) (tgt := 25) dX6_copy_19 rfl (by decide) (fun h19 => ?_) (fun h19 => ?_)
    · refine zi_aload0 (n := 26) dX6_copy_25 rfl ?_
      refine zg_X6_0 (n := 29) dX6_copy_26 rfl zl_X6_12 ?_
      refine zi_iload1 (n := 30) dX6_copy_29 rfl ?_
      refine zi_V1s (mj := zm_X3_isMissing) (n := 33) dX6_copy_30 rfl zl_X6_80 zy_X3_isMissing (zrc_X3 _ _) (by decide) (Nat.le_of_ble_eq_true rfl) (c_X3_isMissing (by omega)) ?_
      refine zi_ifne_b (n := 36) (tgt := 47) dX6_copy_33 rfl (by decide) (fun h33 => ?_) (fun h33 => ?_)
      · first | exact absurd hz h33 | exact absurd h33 hz
      · refine zi_aload0 (n := 37) dX6_copy_36 rfl ?_
        refine zg_X6_0 (n := 40) dX6_copy_37 rfl zl_X6_12 ?_
        refine zi_iload3 (n := 41) dX6_copy_40 rfl ?_
        refine zi_V1s (mj := zm_X3_isMissing) (n := 44) dX6_copy_41 rfl zl_X6_80 zy_X3_isMissing (zrc_X3 _ _) (by decide) (Nat.le_of_ble_eq_true rfl) (c_X3_isMissing (by omega)) ?_
        refine zi_ifeq_b (n := 47) (tgt := 53) dX6_copy_44 rfl (by decide) (fun h44 => ?_) (fun h44 => ?_)
        · refine zi_aload0 (n := 54) dX6_copy_53 rfl ?_
          refine zg_X6_0 (n := 57) dX6_copy_54 rfl zl_X6_12 ?_
          refine zi_iload1 (n := 58) dX6_copy_57 rfl ?_
          refine zi_V1s (mj := zm_X3_laneOf) (n := 61) dX6_copy_58 rfl zl_X6_90 zy_X3_laneOf (zrc_X3 _ _) (by decide) (Nat.le_of_ble_eq_true rfl) (c_X3_laneOf (by omega)) ?_
          refine zi_aload0 (n := 62) dX6_copy_61 rfl ?_
          refine zg_X6_0 (n := 65) dX6_copy_62 rfl zl_X6_12 ?_
          refine zi_iload3 (n := 66) dX6_copy_65 rfl ?_
          refine zi_V1s (mj := zm_X3_laneOf) (n := 69) dX6_copy_66 rfl zl_X6_90 zy_X3_laneOf (zrc_X3 _ _) (by decide) (Nat.le_of_ble_eq_true rfl) (c_X3_laneOf (by omega)) ?_
          refine zi_iceq (n := 72) (tgt := 78) dX6_copy_69 rfl (by decide) (fun h69 => ?_) (fun h69 => ?_)
          · first | exact absurd hs h69 | exact absurd h69 hs
          · refine zi_aload0 (n := 73) dX6_copy_72 rfl ?_
            refine zi_iconst (n := 74) (nI 5) dX6_copy_73 rfl (by decide) ?_
            refine zi_V1s (mj := zm_X6_found) (n := 77) dX6_copy_74 rfl zl_X6_68 zy_X6_found (zrc_X6 _ _) (by decide) (Nat.le_of_ble_eq_true rfl) (c_X6_found) ?_
            exact zi_iret dX6_copy_77 rfl (by rfl) (by rfl)
        · first | exact absurd hy h44 | exact absurd h44 hy
    · first | exact absurd a2 h19 | exact absurd h19 a2
set_option maxHeartbeats 4000000 in
set_option maxRecDepth 100000 in
theorem x_copy_place {a c : Nat} {i j k : Int32} (ha : a < 8) (hc : c < 8) (hz : ¬ Z 157 a = -1) (hy : ¬ Z 157 c = -1) (hs : Z 156 a = Z 156 c) (hi : ¬ ((¬ i < 0 ∧ ¬ k < 0 ∧ ¬ (Z 157 a).toInt64 < i.toInt64 + k.toInt64) ∧ (¬ j < 0 ∧ ¬ k < 0 ∧ ¬ (Z 157 c).toInt64 < j.toInt64 + k.toInt64))) : zCT E 3 zm_X6_copy [.ref (zad E 145), .int (nI a), .int i, .int (nI c), .int j, .int k] (Q, Z) (some (.int (-1000010 - nI 2))) (Q, zsu Z 145 9 (nI 2)) := by
  refine zCT.of (by decide +kernel) (Nat.le_of_ble_eq_true rfl) ?_
  have a1 : nI 0 ≤ nI a ∧ nI a ≤ nI 7 := zrg (by omega) (by omega) (by decide)
  have a2 : nI 0 ≤ nI c ∧ nI c ≤ nI 7 := zrg (by omega) (by omega) (by decide)
  refine zi_aload0 (n := 1) dX6_copy_0 rfl ?_
  refine zg_X6_0 (n := 4) dX6_copy_1 rfl zl_X6_12 ?_
  refine zi_iload1 (n := 5) dX6_copy_4 rfl ?_
  refine zi_V1s (mj := zm_X3_isRow) (n := 8) dX6_copy_5 rfl zl_X6_59 zy_X3_isRow (zrc_X3 _ _) (by decide) (Nat.le_of_ble_eq_true rfl) (c_X3_isRow) ?_
  refine zi_ifeq_b (n := 11) (tgt := 22) dX6_copy_8 rfl (by decide) (fun h8 => ?_) (fun h8 => ?_)
  · first | exact absurd a1 h8 | exact absurd h8 a1
  · refine zi_aload0 (n := 12) dX6_copy_11 rfl ?_
    refine zg_X6_0 (n := 15) dX6_copy_12 rfl zl_X6_12 ?_
    refine zi_iload3 (n := 16) dX6_copy_15 rfl ?_
    refine zi_V1s (mj := zm_X3_isRow) (n := 19) dX6_copy_16 rfl zl_X6_59 zy_X3_isRow (zrc_X3 _ _) (by decide) (Nat.le_of_ble_eq_true rfl) (c_X3_isRow) ?_
    refine zi_ifne_b (n := 22) (tgt := 25) dX6_copy_19 rfl (by decide) (fun h19 => ?_) (fun h19 => ?_)
    · refine zi_aload0 (n := 26) dX6_copy_25 rfl ?_
      refine zg_X6_0 (n := 29) dX6_copy_26 rfl zl_X6_12 ?_
      refine zi_iload1 (n := 30) dX6_copy_29 rfl ?_
      refine zi_V1s (mj := zm_X3_isMissing) (n := 33) dX6_copy_30 rfl zl_X6_80 zy_X3_isMissing (zrc_X3 _ _) (by decide) (Nat.le_of_ble_eq_true rfl) (c_X3_isMissing (by omega)) ?_
      refine zi_ifne_b (n := 36) (tgt := 47) dX6_copy_33 rfl (by decide) (fun h33 => ?_) (fun h33 => ?_)
      · first | exact absurd hz h33 | exact absurd h33 hz
      · refine zi_aload0 (n := 37) dX6_copy_36 rfl ?_
        refine zg_X6_0 (n := 40) dX6_copy_37 rfl zl_X6_12 ?_
        refine zi_iload3 (n := 41) dX6_copy_40 rfl ?_
        refine zi_V1s (mj := zm_X3_isMissing) (n := 44) dX6_copy_41 rfl zl_X6_80 zy_X3_isMissing (zrc_X3 _ _) (by decide) (Nat.le_of_ble_eq_true rfl) (c_X3_isMissing (by omega)) ?_
        refine zi_ifeq_b (n := 47) (tgt := 53) dX6_copy_44 rfl (by decide) (fun h44 => ?_) (fun h44 => ?_)
        · refine zi_aload0 (n := 54) dX6_copy_53 rfl ?_
          refine zg_X6_0 (n := 57) dX6_copy_54 rfl zl_X6_12 ?_
          refine zi_iload1 (n := 58) dX6_copy_57 rfl ?_
          refine zi_V1s (mj := zm_X3_laneOf) (n := 61) dX6_copy_58 rfl zl_X6_90 zy_X3_laneOf (zrc_X3 _ _) (by decide) (Nat.le_of_ble_eq_true rfl) (c_X3_laneOf (by omega)) ?_
          refine zi_aload0 (n := 62) dX6_copy_61 rfl ?_
          refine zg_X6_0 (n := 65) dX6_copy_62 rfl zl_X6_12 ?_
          refine zi_iload3 (n := 66) dX6_copy_65 rfl ?_
          refine zi_V1s (mj := zm_X3_laneOf) (n := 69) dX6_copy_66 rfl zl_X6_90 zy_X3_laneOf (zrc_X3 _ _) (by decide) (Nat.le_of_ble_eq_true rfl) (c_X3_laneOf (by omega)) ?_
          refine zi_iceq (n := 72) (tgt := 78) dX6_copy_69 rfl (by decide) (fun h69 => ?_) (fun h69 => ?_)
          · refine zi_aload0 (n := 79) dX6_copy_78 rfl ?_
            refine zg_X6_0 (n := 82) dX6_copy_79 rfl zl_X6_12 ?_
            refine zi_iload1 (n := 83) dX6_copy_82 rfl ?_
            refine zi_iload2 (n := 84) dX6_copy_83 rfl ?_
            refine zi_iload5 (n := 86) dX6_copy_84 rfl ?_
            refine zi_V3s (mj := zm_X3_hasItems) (n := 89) dX6_copy_86 rfl zl_X6_83 zy_X3_hasItems (zrc_X3 _ _) (by decide) (Nat.le_of_ble_eq_true rfl) (c_X3_hasItems (by omega)) ?_
            refine zi_ifeq_b (n := 92) (tgt := 107) dX6_copy_89 rfl (by decide) (fun h89 => ?_) (fun h89 => ?_)
            · refine zi_aload0 (n := 108) dX6_copy_107 rfl ?_
              refine zi_iconst (n := 109) (nI 2) dX6_copy_108 rfl (by decide) ?_
              refine zi_V1s (mj := zm_X6_found) (n := 112) dX6_copy_109 rfl zl_X6_68 zy_X6_found (zrc_X6 _ _) (by decide) (Nat.le_of_ble_eq_true rfl) (c_X6_found) ?_
              exact zi_iret dX6_copy_112 rfl (by rfl) (by rfl)
            · refine zi_aload0 (n := 93) dX6_copy_92 rfl ?_
              refine zg_X6_0 (n := 96) dX6_copy_93 rfl zl_X6_12 ?_
              refine zi_iload3 (n := 97) dX6_copy_96 rfl ?_
              refine zi_iload4 (n := 99) dX6_copy_97 rfl ?_
              refine zi_iload5 (n := 101) dX6_copy_99 rfl ?_
              refine zi_V3s (mj := zm_X3_hasItems) (n := 104) dX6_copy_101 rfl zl_X6_83 zy_X3_hasItems (zrc_X3 _ _) (by decide) (Nat.le_of_ble_eq_true rfl) (c_X3_hasItems (by omega)) ?_
              refine zi_ifne_b (n := 107) (tgt := 113) dX6_copy_104 rfl (by decide) (fun h104 => ?_) (fun h104 => ?_)
              · exact absurd ⟨h89, h104⟩ hi
              · refine zi_aload0 (n := 108) dX6_copy_107 rfl ?_
                refine zi_iconst (n := 109) (nI 2) dX6_copy_108 rfl (by decide) ?_
                refine zi_V1s (mj := zm_X6_found) (n := 112) dX6_copy_109 rfl zl_X6_68 zy_X6_found (zrc_X6 _ _) (by decide) (Nat.le_of_ble_eq_true rfl) (c_X6_found) ?_
                exact zi_iret dX6_copy_112 rfl (by rfl) (by rfl)
          · first | exact absurd hs h69 | exact absurd h69 hs
        · first | exact absurd hy h44 | exact absurd h44 hy
    · first | exact absurd a2 h19 | exact absurd h19 a2
set_option maxHeartbeats 4000000 in
set_option maxRecDepth 100000 in
theorem x_copy_ok {a c i j k : Nat} (ha : a < 8) (hc : c < 8) (hi4 : i + k ≤ 40) (hj4 : j + k ≤ 40) (hz : ¬ Z 157 a = -1) (hy : ¬ Z 157 c = -1) (hs : Z 156 a = Z 156 c) (hi : (¬ nI i < 0 ∧ ¬ nI k < 0 ∧ ¬ (Z 157 a).toInt64 < (nI i).toInt64 + (nI k).toInt64)) (hj : (¬ nI j < 0 ∧ ¬ nI k < 0 ∧ ¬ (Z 157 c).toInt64 < (nI j).toInt64 + (nI k).toInt64)) : zCT E 3 zm_X6_copy [.ref (zad E 145), .int (nI a), .int (nI i), .int (nI c), .int (nI j), .int (nI k)] (Q, Z) (some (.int (nI k))) (Q, va_up (zsu Z 145 9 (nI 0)) (148 + c) (va_cpy (Z (148 + a)) (Z (148 + c)) i j k)) := by
  refine zCT.of (by decide +kernel) (Nat.le_of_ble_eq_true rfl) ?_
  have a1 : nI 0 ≤ nI a ∧ nI a ≤ nI 7 := zrg (by omega) (by omega) (by decide)
  have a2 : nI 0 ≤ nI c ∧ nI c ≤ nI 7 := zrg (by omega) (by omega) (by decide)
  refine zi_aload0 (n := 1) dX6_copy_0 rfl ?_
  refine zg_X6_0 (n := 4) dX6_copy_1 rfl zl_X6_12 ?_
  refine zi_iload1 (n := 5) dX6_copy_4 rfl ?_
  refine zi_V1s (mj := zm_X3_isRow) (n := 8) dX6_copy_5 rfl zl_X6_59 zy_X3_isRow (zrc_X3 _ _) (by decide) (Nat.le_of_ble_eq_true rfl) (c_X3_isRow) ?_
  refine zi_ifeq_b (n := 11) (tgt := 22) dX6_copy_8 rfl (by decide) (fun h8 => ?_) (fun h8 => ?_)
  · first | exact absurd a1 h8 | exact absurd h8 a1
  · refine zi_aload0 (n := 12) dX6_copy_11 rfl ?_
    refine zg_X6_0 (n := 15) dX6_copy_12 rfl zl_X6_12 ?_
    refine zi_iload3 (n := 16) dX6_copy_15 rfl ?_
    refine zi_V1s (mj := zm_X3_isRow) (n := 19) dX6_copy_16 rfl zl_X6_59 zy_X3_isRow (zrc_X3 _ _) (by decide) (Nat.le_of_ble_eq_true rfl) (c_X3_isRow) ?_
    refine zi_ifne_b (n := 22) (tgt := 25) dX6_copy_19 rfl (by decide) (fun h19 => ?_) (fun h19 => ?_)
    · refine zi_aload0 (n := 26) dX6_copy_25 rfl ?_
      refine zg_X6_0 (n := 29) dX6_copy_26 rfl zl_X6_12 ?_
      refine zi_iload1 (n := 30) dX6_copy_29 rfl ?_
      refine zi_V1s (mj := zm_X3_isMissing) (n := 33) dX6_copy_30 rfl zl_X6_80 zy_X3_isMissing (zrc_X3 _ _) (by decide) (Nat.le_of_ble_eq_true rfl) (c_X3_isMissing (by omega)) ?_
      refine zi_ifne_b (n := 36) (tgt := 47) dX6_copy_33 rfl (by decide) (fun h33 => ?_) (fun h33 => ?_)
      · first | exact absurd hz h33 | exact absurd h33 hz
      · refine zi_aload0 (n := 37) dX6_copy_36 rfl ?_
        refine zg_X6_0 (n := 40) dX6_copy_37 rfl zl_X6_12 ?_
        refine zi_iload3 (n := 41) dX6_copy_40 rfl ?_
        refine zi_V1s (mj := zm_X3_isMissing) (n := 44) dX6_copy_41 rfl zl_X6_80 zy_X3_isMissing (zrc_X3 _ _) (by decide) (Nat.le_of_ble_eq_true rfl) (c_X3_isMissing (by omega)) ?_
        refine zi_ifeq_b (n := 47) (tgt := 53) dX6_copy_44 rfl (by decide) (fun h44 => ?_) (fun h44 => ?_)
        · refine zi_aload0 (n := 54) dX6_copy_53 rfl ?_
          refine zg_X6_0 (n := 57) dX6_copy_54 rfl zl_X6_12 ?_
          refine zi_iload1 (n := 58) dX6_copy_57 rfl ?_
          refine zi_V1s (mj := zm_X3_laneOf) (n := 61) dX6_copy_58 rfl zl_X6_90 zy_X3_laneOf (zrc_X3 _ _) (by decide) (Nat.le_of_ble_eq_true rfl) (c_X3_laneOf (by omega)) ?_
          refine zi_aload0 (n := 62) dX6_copy_61 rfl ?_
          refine zg_X6_0 (n := 65) dX6_copy_62 rfl zl_X6_12 ?_
          refine zi_iload3 (n := 66) dX6_copy_65 rfl ?_
          refine zi_V1s (mj := zm_X3_laneOf) (n := 69) dX6_copy_66 rfl zl_X6_90 zy_X3_laneOf (zrc_X3 _ _) (by decide) (Nat.le_of_ble_eq_true rfl) (c_X3_laneOf (by omega)) ?_
          refine zi_iceq (n := 72) (tgt := 78) dX6_copy_69 rfl (by decide) (fun h69 => ?_) (fun h69 => ?_)
          · refine zi_aload0 (n := 79) dX6_copy_78 rfl ?_
            refine zg_X6_0 (n := 82) dX6_copy_79 rfl zl_X6_12 ?_
            refine zi_iload1 (n := 83) dX6_copy_82 rfl ?_
            refine zi_iload2 (n := 84) dX6_copy_83 rfl ?_
            refine zi_iload5 (n := 86) dX6_copy_84 rfl ?_
            refine zi_V3s (mj := zm_X3_hasItems) (n := 89) dX6_copy_86 rfl zl_X6_83 zy_X3_hasItems (zrc_X3 _ _) (by decide) (Nat.le_of_ble_eq_true rfl) (c_X3_hasItems (by omega)) ?_
            refine zi_ifeq_b (n := 92) (tgt := 107) dX6_copy_89 rfl (by decide) (fun h89 => ?_) (fun h89 => ?_)
            · first | exact absurd hi h89 | exact absurd h89 hi
            · refine zi_aload0 (n := 93) dX6_copy_92 rfl ?_
              refine zg_X6_0 (n := 96) dX6_copy_93 rfl zl_X6_12 ?_
              refine zi_iload3 (n := 97) dX6_copy_96 rfl ?_
              refine zi_iload4 (n := 99) dX6_copy_97 rfl ?_
              refine zi_iload5 (n := 101) dX6_copy_99 rfl ?_
              refine zi_V3s (mj := zm_X3_hasItems) (n := 104) dX6_copy_101 rfl zl_X6_83 zy_X3_hasItems (zrc_X3 _ _) (by decide) (Nat.le_of_ble_eq_true rfl) (c_X3_hasItems (by omega)) ?_
              refine zi_ifne_b (n := 107) (tgt := 113) dX6_copy_104 rfl (by decide) (fun h104 => ?_) (fun h104 => ?_)
              · refine zi_aload0 (n := 114) dX6_copy_113 rfl ?_
                refine zi_iconst (n := 115) (nI 0) dX6_copy_114 rfl (by decide) ?_
                refine zp_X6_9 (n := 118) dX6_copy_115 rfl zl_X6_72 rfl ?_
                refine zi_aload0 (n := 119) dX6_copy_118 rfl ?_
                refine zg_X6_0 (n := 122) dX6_copy_119 rfl zl_X6_12 ?_
                refine zi_iload1 (n := 123) dX6_copy_122 rfl ?_
                refine zi_iload2 (n := 124) dX6_copy_123 rfl ?_
                refine zi_iload3 (n := 125) dX6_copy_124 rfl ?_
                refine zi_iload4 (n := 127) dX6_copy_125 rfl ?_
                refine zi_iload5 (n := 129) dX6_copy_127 rfl ?_
                refine zi_V5v (mj := zm_X3_carry) (n := 132) dX6_copy_129 rfl zl_X6_93 zy_X3_carry (zrc_X3 _ _) (by decide) (Nat.le_of_ble_eq_true rfl) (c_X3_carry ha hc hi4 hj4) ?_
                refine zi_iload5 (n := 134) dX6_copy_132 rfl ?_
                exact zi_iret dX6_copy_134 rfl (by rfl) (by rw [zsu_ne _ _ (by omega), zsu_ne _ _ (by omega)])
              · first | exact absurd hj h104 | exact absurd h104 hj
          · first | exact absurd hs h69 | exact absurd h69 hs
        · first | exact absurd hy h44 | exact absurd h44 hy
    · first | exact absurd a2 h19 | exact absurd h19 a2
set_option maxHeartbeats 4000000 in
set_option maxRecDepth 100000 in
theorem x_status  : zCT E 0 zm_X6_status [.ref (zad E 145)] (Q, Z) (some (.int (Z 145 9))) (Q, Z) := by
  refine zCT.of (by decide +kernel) (Nat.le_of_ble_eq_true rfl) ?_
  refine zi_aload0 (n := 1) dX6_status_0 rfl ?_
  refine zg_X6_9 (n := 4) dX6_status_1 rfl zl_X6_72 rfl ?_
  exact zi_iret dX6_status_4 rfl (by rfl) (by rfl)
set_option maxHeartbeats 4000000 in
set_option maxRecDepth 100000 in
theorem x_fault  : zCT E 0 zm_X6_fault [.ref (zad E 145)] (Q, Z) (some (.int (Z 145 8))) (Q, Z) := by
  refine zCT.of (by decide +kernel) (Nat.le_of_ble_eq_true rfl) ?_
  refine zi_aload0 (n := 1) dX6_fault_0 rfl ?_
  refine zg_X6_8 (n := 4) dX6_fault_1 rfl zl_X6_117 rfl ?_
  exact zi_iret dX6_fault_4 rfl (by rfl) (by rfl)
theorem zPm_of {L a : Nat} {nu f fa : Int32} (hT : Z 158 = zTr L a nu f fa) : ((Q, Z) : zMem) = zPm Q Z L (Q 0, a, nu, f, fa) := by
  unfold zPm
  dsimp only
  rw [← hT, zup_same, zup_same]
theorem zG_eqM {pc : Nat} {lo : List (Option Value)} {st : List Value} {M2 : zMem} (h : M = M2) (k : zG E mi d rv M1 pc lo st M2) : zG E mi d rv M1 pc lo st M := h ▸ k
set_option maxHeartbeats 4000000 in
set_option maxRecDepth 100000 in
theorem x_feed_bad {x : Int32} (hb : ¬ (nI 0 ≤ x ∧ x ≤ nI 255)) : zCT E 2 zm_X6_feed [.ref (zad E 145), .int x] (Q, Z) (some (.int zBAD)) (Q, Z) := by
  refine zCT.of (by decide +kernel) (Nat.le_of_ble_eq_true rfl) ?_
  refine zi_iload1 (n := 1) dX6_feed_0 rfl ?_
  refine zi_iconst (n := 2) (nI 0) dX6_feed_1 rfl (by decide) ?_
  refine zi_sipush (n := 5) (nI 255) dX6_feed_2 rfl (by decide) ?_
  refine zi_S3s (mj := zm_X6_within) (n := 8) dX6_feed_5 rfl zl_X6_63 zy_X6_within (by decide) (Nat.le_of_ble_eq_true rfl) (c_X6_within) ?_
  refine zi_ifne_b (n := 11) (tgt := 14) dX6_feed_8 rfl (by decide) (fun h8 => ?_) (fun h8 => ?_)
  · first | exact absurd hb h8 | exact absurd h8 hb
  · refine zi_ldc (n := 13) dX6_feed_11 rfl zl_X6_67 ?_
    exact zi_iret dX6_feed_13 rfl (by rfl) (by rfl)
set_option maxHeartbeats 4000000 in
set_option maxRecDepth 100000 in
theorem x_feed_full {L a : Nat} {nu f fa : Int32} (hT : Z 158 = zTr L a nu f fa) {x : Int32} (hx : nI 0 ≤ x ∧ x ≤ nI 255) (hL : L = 90) : zCT E 2 zm_X6_feed [.ref (zad E 145), .int x] (Q, Z) (some (.int zFULL)) (Q, Z) := by
  refine zCT.of (by decide +kernel) (Nat.le_of_ble_eq_true rfl) ?_
  refine zG_eqM (zPm_of hT) ?_
  refine zi_iload1 (n := 1) dX6_feed_0 rfl ?_
  refine zi_iconst (n := 2) (nI 0) dX6_feed_1 rfl (by decide) ?_
  refine zi_sipush (n := 5) (nI 255) dX6_feed_2 rfl (by decide) ?_
  refine zi_S3s (mj := zm_X6_within) (n := 8) dX6_feed_5 rfl zl_X6_63 zy_X6_within (by decide) (Nat.le_of_ble_eq_true rfl) (c_X6_within) ?_
  refine zi_ifne_b (n := 11) (tgt := 14) dX6_feed_8 rfl (by decide) (fun h8 => ?_) (fun h8 => ?_)
  · refine zi_aload0 (n := 15) dX6_feed_14 rfl ?_
    refine zg_X6_1 (n := 18) dX6_feed_15 rfl zl_X6_19 ?_
    refine zi_V0s (mj := zm_X5_isFull) (n := 21) dX6_feed_18 rfl zl_X6_100 zy_X5_isFull (zrc_X5 _ _) (by decide) (Nat.le_of_ble_eq_true rfl) (c_X5_isFull (by omega)) ?_
    refine zi_ifeq_b (n := 24) (tgt := 27) dX6_feed_21 rfl (by decide) (fun h21 => ?_) (fun h21 => ?_)
    · first | exact absurd hL h21 | exact absurd h21 hL
    · refine zi_ldc (n := 26) dX6_feed_24 rfl zl_X6_104 ?_
      exact zi_iret dX6_feed_26 rfl (by rfl) (by exact zPm_of hT)
  · first | exact absurd hx h8 | exact absurd h8 hx
set_option maxHeartbeats 4000000 in
set_option maxRecDepth 100000 in
theorem x_feed_ok {L a : Nat} {nu f fa : Int32} (hT : Z 158 = zTr L a nu f fa) {x : Int32} (hx : nI 0 ≤ x ∧ x ≤ nI 255) (hL : L < 90) : zCT E 2 zm_X6_feed [.ref (zad E 145), .int x] (Q, Z) (some (.int (nI (L + 1)))) (zPm Q (zsu Z 159 L x) (L + 1) (Q 0, a, nu, f, fa)) := by
  refine zCT.of (by decide +kernel) (Nat.le_of_ble_eq_true rfl) ?_
  refine zG_eqM (zPm_of hT) ?_
  have hL2 : ¬ L = 90 := by omega
  refine zi_iload1 (n := 1) dX6_feed_0 rfl ?_
  refine zi_iconst (n := 2) (nI 0) dX6_feed_1 rfl (by decide) ?_
  refine zi_sipush (n := 5) (nI 255) dX6_feed_2 rfl (by decide) ?_
  refine zi_S3s (mj := zm_X6_within) (n := 8) dX6_feed_5 rfl zl_X6_63 zy_X6_within (by decide) (Nat.le_of_ble_eq_true rfl) (c_X6_within) ?_
  refine zi_ifne_b (n := 11) (tgt := 14) dX6_feed_8 rfl (by decide) (fun h8 => ?_) (fun h8 => ?_)
  · refine zi_aload0 (n := 15) dX6_feed_14 rfl ?_
    refine zg_X6_1 (n := 18) dX6_feed_15 rfl zl_X6_19 ?_
    refine zi_V0s (mj := zm_X5_isFull) (n := 21) dX6_feed_18 rfl zl_X6_100 zy_X5_isFull (zrc_X5 _ _) (by decide) (Nat.le_of_ble_eq_true rfl) (c_X5_isFull (by omega)) ?_
    refine zi_ifeq_b (n := 24) (tgt := 27) dX6_feed_21 rfl (by decide) (fun h21 => ?_) (fun h21 => ?_)
    · refine zi_aload0 (n := 28) dX6_feed_27 rfl ?_
      refine zg_X6_1 (n := 31) dX6_feed_28 rfl zl_X6_19 ?_
      refine zi_iload1 (n := 32) dX6_feed_31 rfl ?_
      refine zi_V1s (mj := zm_X5_add) (n := 35) dX6_feed_32 rfl zl_X6_105 zy_X5_add (zrc_X5 _ _) (by decide) (Nat.le_of_ble_eq_true rfl) (c_X5_add hL) ?_
      exact zi_iret dX6_feed_35 rfl (by rfl) (by rfl)
    · first | exact absurd hL2 h21 | exact absurd h21 hL2
  · first | exact absurd hx h8 | exact absurd h8 hx
end ZN6
